/-! the reference answers on -/
abbrev stS (S : Nat → Int32) (w : Nat) : Int32 := if S (w + 3) = 1 then 1 else if S w = 40 then 2 else 0
def aWalkN (S : Nat → Int32) (a : Nat) : Nat → Int32
  | 0 => S (23 + 166 * a)
  | 1 => S (23 + 166 * a + 1)
  | 2 => S (23 + 166 * a + 2)
  | 3 => stS S (23 + 166 * a)
  | 4 => nI (cntK (kdS S (23 + 166 * a)) 1 (S (23 + 166 * a)).toNatClampNeg)
  | 5 => nI (cntK (kdS S (23 + 166 * a)) 2 (S (23 + 166 * a)).toNatClampNeg)
  | 6 => if S (23 + 166 * a + 4) < 0 then -1000004 else S (23 + 166 * a + 4)
  | 7 => if S (23 + 166 * a + 4) < 0 then -1000004 else S (23 + 166 * a + 5)
  | _ => nI (cBg (gPr4 S) a (nW S))
def aWalkOf (S : Nat → Int32) (w x : Int32) : Int32 := if inI w 0 (S 1 - 1) ∧ inI x 0 8 then aWalkN S w.toNatClampNeg x.toNatClampNeg else -1000001
abbrev swS (S : Nat → Int32) (v : Int32) : Int32 := gSumI (fun k => if v = 0 then S (23 + 166 * k) else nI (cntK (kdS S (23 + 166 * k)) v (S (23 + 166 * k)).toNatClampNeg)) (nW S)
def aCountN (S : Nat → Int32) (n ln : Nat) : Nat → Int32
  | 0 => S 0
  | 1 => S 1
  | 2 => swS S 0
  | 3 => swS S 1
  | 4 => swS S 2
  | 5 => nI n
  | 6 => nI ln
  | 10 => S 2
  | 11 => S 3
  | 12 => S 4
  | _ => -1000001
def aCount (S : Nat → Int32) (n ln : Nat) (x : Int32) : Int32 := if x < 0 then -1000001 else aCountN S n ln x.toNatClampNeg
theorem aCountN_o {S : Nat → Int32} {n ln j : Nat} (h : 7 ≤ j) (h2 : j < 10 ∨ 12 < j) : aCountN S n ln j = -1000001 := by
  unfold aCountN
  split <;> first | rfl | omega
