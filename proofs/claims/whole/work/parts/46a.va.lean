/-- the places behind words -/
def nT2 (f : Nat → Int32) (e i : Nat) : Nat := nT f e (nT f e i)
def nT3 (f : Nat → Int32) (e i : Nat) : Nat := nT f e (nT2 f e i)
def nT4 (f : Nat → Int32) (e i : Nat) : Nat := nT f e (nT3 f e i)
/-- a name line (p1 = 0) or a setting line -/
def okVa (A : Nat → Nat → Int32) (e i nv : Nat) (p1 : Int32) : Bool := cNm (A 6) e i && (decide (fV A nv (nF (A 6) e i) (nT (A 6) e i) = 0) && (decide (nv ≠ 40) && (if p1 = 0 then cEnd (A 6) e (nT (A 6) e i) else cNu (A 6) e (nT (A 6) e i) (-999999) 999999 && (cNu (A 6) e (nT2 (A 6) e i) (vNu (A 6) e (nT (A 6) e i)) 999999 && (cNu (A 6) e (nT3 (A 6) e i) (vNu (A 6) e (nT (A 6) e i)) (vNu (A 6) e (nT2 (A 6) e i)) && cEnd (A 6) e (nT4 (A 6) e i))))))
