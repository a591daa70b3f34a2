/-! the reference removes -/
def sh3 (f : Nat → Int32) (a b : Nat) : Nat → Int32 := fun k => if a ≤ k ∧ k < b then f (k + 3) else f k
theorem sh3_0 {f : Nat → Int32} {a : Nat} : sh3 f a a = f := by funext k; unfold sh3; rw [if_neg (by omega)]
theorem sh3_r {f : Nat → Int32} {a b k : Nat} (h : k < a ∨ b ≤ k) : sh3 f a b k = f k := by unfold sh3; rw [if_neg (by omega)]
theorem sh3_S {f : Nat → Int32} {a n : Nat} (h : a ≤ n) : upd (sh3 f a n) n (f (n + 3)) = sh3 f a (n + 1) := by
  funext k
  by_cases h1 : k = n
  · rw [h1, upd_s, sh3, if_pos (by omega)]
  · rw [upd_o h1]; unfold sh3
    by_cases h2 : a ≤ k ∧ k < n
    · rw [if_pos h2, if_pos (by omega)]
    · rw [if_neg h2, if_neg (by omega)]
/-- of n + 1 terms the one of number k goes -/
def rmF (s : Nat → Int32) (n k : Nat) : Nat → Int32 := upd (sh3 (upd s 0 (nI n)) (5 + 3 * k) (5 + 3 * n)) 1 0
