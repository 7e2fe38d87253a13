def wB (f : Nat → Int32) (e i : Nat) : Bool := decide (nF f e i < nT f e i)
/-- a put (0), say (1) or show (2) line -/
def okPa (A : Nat → Nat → Int32) (e i nv : Nat) (p1 : Int32) : Bool := cNu (A 6) e i 0 999999 && (cNu (A 6) e (nT (A 6) e i) 0 999999 && (if p1 = 2 then cNu (A 6) e (nT2 (A 6) e i) 1 9 && (cNm (A 6) e (nT3 (A 6) e i) && (decide (fV A nv (nF (A 6) e (nT3 (A 6) e i)) (nT4 (A 6) e i) ≠ 0) && cEnd (A 6) e (nT4 (A 6) e i))) else wB (A 6) e (nT2 (A 6) e i) && (if p1 = 1 then wB (A 6) e (nT3 (A 6) e i) && cEnd (A 6) e (nT4 (A 6) e i) else cEnd (A 6) e (nT3 (A 6) e i))))
/-- the conditions that waited get the part -/
def pq (os f : Nat → Int32) (s v : Int32) : Nat → (Nat → Int32)
  | 0 => f
  | k + 1 => if os k = s ∧ pq os f s v k k < 0 then upd (pq os f s v k) k v else pq os f s v k
/-- what a part's line makes of the arrays -/
def paA (A : Nat → Nat → Int32) (e i nv np nc : Nat) (p1 sc pv : Int32) : Nat → Nat → Int32 :=
  if p1 = 2 then va_up (va_up (va_up (va_up (va_up (va_up (va_up A 31 (upd (A 31) np (vNu (A 6) e i).toInt32)) 32 (upd (A 32) np (vNu (A 6) e (nT (A 6) e i)).toInt32)) 34 (upd (A 34) np (vNu (A 6) e (nT2 (A 6) e i)).toInt32)) 33 (upd (A 33) np (nI (fV A nv (nF (A 6) e (nT3 (A 6) e i)) (nT4 (A 6) e i))))) 30 (upd (A 30) np p1)) 29 (upd (A 29) np sc)) 41 (pq (A 40) (A 41) sc pv nc)
  else va_up (va_up (va_up (va_up (va_up (va_up (va_up (va_up (va_up A 31 (upd (A 31) np (vNu (A 6) e i).toInt32)) 32 (upd (A 32) np (vNu (A 6) e (nT (A 6) e i)).toInt32)) 35 (upd (A 35) np (nI (nF (A 6) e (nT2 (A 6) e i))))) 36 (upd (A 36) np (nI (nT3 (A 6) e i)))) 37 (upd (A 37) np (if p1 = 1 then nI (nF (A 6) e (nT3 (A 6) e i)) else nI (nF (A 6) e (nT2 (A 6) e i))))) 38 (upd (A 38) np (if p1 = 1 then nI (nT4 (A 6) e i) else nI (nT3 (A 6) e i)))) 30 (upd (A 30) np p1)) 29 (upd (A 29) np sc)) 41 (pq (A 40) (A 41) sc pv nc)
