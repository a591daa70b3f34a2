/-! the reference answers -/
def aTermOf (S : Nat → Int32) (k w : Int32) : Int32 := if ¬ k < 0 ∧ inI w 0 2 then (if k < nI (tN S) then S (5 + 3 * k.toNatClampNeg + w.toNatClampNeg) else -1000004) else -1000001
abbrev okC (x y w : Int32) : Prop := inI x (-1024) 1024 ∧ inI y (-1024) 1024 ∧ inI w 0 2
def aValue (S : Nat → Int32) (x y w : Int32) : Int64 := if okC x y w then gSum (tF S) (tP S) (tQ S) x.toInt64 y.toInt64 w.toNatClampNeg (tN S) + 1000000000000 else -1000001
def aCor (w : Int32) : Option (Int64 × Int64 × Nat) → Int32
  | none => -1000004
  | some c => if w = 0 then c.1.toInt32 else if w = 1 then c.2.1.toInt32 else nI c.2.2
def aCorr (S : Nat → Int32) (x y w : Int32) : Int32 := if okC x y w then aCor w (gCor (tF S) (tP S) (tQ S) (tN S) (tM S) 0 x.toInt64 y.toInt64) else -1000001
def aPlaceOf (S : Nat → Int32) (w p c : Int32) : Int32 := if inI w 0 (S 1 - 1) ∧ ¬ p < 0 ∧ inI c 0 3 then (if p < S (23 + 166 * w.toNatClampNeg) then S (23 + 166 * w.toNatClampNeg + 6 + 4 * p.toNatClampNeg + c.toNatClampNeg) else -1000004) else -1000001
/-- the kinds of a walk's places -/
def kdS (s : Nat → Int32) (w p : Nat) : Int32 := s (w + 6 + 4 * p + 3)
def cBg (pr : Nat → Int32) (w : Nat) : Nat → Nat
  | 0 => 0
  | j + 1 => cBg pr w j + (if j ≠ w ∧ fam pr w j = true then 1 else 0)
