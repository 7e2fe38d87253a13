/-! A LINE by its first word: 0 name, 1 setting, 2 screen, 3 put, 4 say, 5 show, 6 if, 7 key, 8 bar, 9 none of them -/
def wV (f : Nat → Int32) (F T : Nat) : Int64 := if T - F < 9 then wv f F (T - F) else 0
def lkd (w : Int64) : Nat :=
  if w = tl (q7 110 97 109 101 0 0 0) 7 then 0 else if w = tl (q7 115 101 116 116 105 110 103) 7 then 1 else if w = tl (q7 115 99 114 101 101 110 0) 7 then 2
  else if w = tl (q7 112 117 116 0 0 0 0) 7 then 3 else if w = tl (q7 115 97 121 0 0 0 0) 7 then 4 else if w = tl (q7 115 104 111 119 0 0 0) 7 then 5
  else if w = tl (q7 105 102 0 0 0 0 0) 7 then 6 else if w = tl (q7 107 101 121 0 0 0 0) 7 then 7 else if w = tl (q7 98 97 114 0 0 0 0) 7 then 8 else 9
def vaA (A : Nat → Nat → Int32) (e i nv : Nat) (p1 : Int32) : Nat → Nat → Int32 := va_up (va_up (va_up (va_up A 13 (upd (A 13) (nv + 1) (nI (nF (A 6) e i)))) 14 (upd (A 14) (nv + 1) (nI (nT (A 6) e i)))) 15 (upd (A 15) (nv + 1) p1)) 19 (upd (A 19) (nv + 1) p1)
def vaB (A : Nat → Nat → Int32) (B : Nat → Nat → Int64) (e i nv : Nat) (p1 : Int32) : Nat → Nat → Int64 := va_up (va_up (va_up B 16 (vp_updL (B 16) (nv + 1) (if p1 = 0 then 0 else (vNu (A 6) e (nT (A 6) e i))))) 17 (vp_updL (B 17) (nv + 1) (if p1 = 0 then 0 else (vNu (A 6) e (nT2 (A 6) e i))))) 18 (vp_updL (B 18) (nv + 1) (if p1 = 0 then 0 else (vNu (A 6) e (nT3 (A 6) e i))))
def scA (A : Nat → Nat → Int32) (e i ns : Nat) (ln : Int32) : Nat → Nat → Int32 := va_up (va_up (va_up (va_up A 21 (upd (A 21) (ns + 1) (nI (nF (A 6) e i)))) 22 (upd (A 22) (ns + 1) (nI (nT (A 6) e i)))) 23 (upd (A 23) (ns + 1) ln)) 27 (kz (A 27) (10 * (ns + 1)) 10)
def coA (A : Nat → Nat → Int32) (e i nv nc : Nat) (sc : Int32) : Nat → Nat → Int32 := va_up (va_up (va_up (va_up A 40 (upd (A 40) nc sc)) 41 (upd (A 41) nc (-1))) 42 (upd (A 42) nc (nI (fV A nv (nF (A 6) e i) (nT (A 6) e i))))) 43 (upd (A 43) nc (A 6 (nF (A 6) e (nT (A 6) e i))))
def keA (A : Nat → Nat → Int32) (e i ns : Nat) : Nat → Nat → Int32 := va_up (va_up A 26 (upd (A 26) (10 * ns + (vNu (A 6) e i).toInt32.toNatClampNeg) (nI (nF (A 6) e (nT (A 6) e i))))) 27 (upd (A 27) (10 * ns + (vNu (A 6) e i).toInt32.toNatClampNeg) (nI (nT (A 6) e (nT (A 6) e i))))
/-- the line is right; i: behind its first word -/
def okLn (A : Nat → Nat → Int32) (e i nv ns : Nat) : Nat → Bool
  | 0 => okVa A e i nv 0
  | 1 => okVa A e i nv 1
  | 2 => okSc A e i ns
  | 3 => decide (ns ≠ 0) && okPa A e i nv 0
  | 4 => decide (ns ≠ 0) && okPa A e i nv 1
  | 5 => decide (ns ≠ 0) && okPa A e i nv 2
  | 6 => decide (ns ≠ 0) && okIf A e i nv
  | 7 => decide (ns ≠ 0) && okKe A e i ns
  | 8 => decide (ns ≠ 0) && (cNu (A 6) e i 0 999 && cEnd (A 6) e (nT (A 6) e i))
  | _ => false
def lnA (A : Nat → Nat → Int32) (e i nv ns np nc : Nat) (ln : Int32) : Nat → (Nat → Nat → Int32)
  | 0 => vaA A e i nv 0
  | 1 => vaA A e i nv 1
  | 2 => scA A e i ns ln
  | 3 => paA A e i nv np nc 0 (nI ns) (nI np)
  | 4 => paA A e i nv np nc 1 (nI ns) (nI np)
  | 5 => paA A e i nv np nc 2 (nI ns) (nI np)
  | 6 => coA A e i nv nc (nI ns)
  | 7 => keA A e i ns
  | _ => A
def lnB (A : Nat → Nat → Int32) (B : Nat → Nat → Int64) (e i nv ns nc : Nat) : Nat → (Nat → Nat → Int64)
  | 0 => vaB A B e i nv 0
  | 1 => vaB A B e i nv 1
  | 2 => va_up B 24 (vp_updL (B 24) (ns + 1) 1000)
  | 6 => va_up B 44 (vp_updL (B 44) nc (vNu (A 6) e (nT (A 6) e (nT (A 6) e i))))
  | 8 => va_up B 24 (vp_updL (B 24) ns (vNu (A 6) e i))
  | _ => B
def lnV (nv : Nat) : Nat → Nat
  | 0 => nv + 1
  | 1 => nv + 1
  | _ => nv
def lnSc (ns : Nat) : Nat → Nat
  | 2 => ns + 1
  | _ => ns
def lnP (np : Nat) : Nat → Nat
  | 3 => np + 1
  | 4 => np + 1
  | 5 => np + 1
  | _ => np
def lnC (nc : Nat) : Nat → Nat
  | 6 => nc + 1
  | _ => nc
