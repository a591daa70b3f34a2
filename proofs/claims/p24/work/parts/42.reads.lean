/-! the reference reads -/
abbrev rfX (tx : Nat → Int32) (ln p : Nat) : Prop := p < ln ∧ (tx p = 120 ∨ tx p = 121)
abbrev rfD (tx : Nat → Int32) (ln p : Nat) : Prop := p < ln ∧ inI (tx p) 49 53
/-- d letters more may come: the place behind them, how many x, how many y -/
def rfL (tx : Nat → Int32) (ln : Nat) : Nat → Nat → Nat → Nat → Nat × Nat × Nat
  | 0, p, x, y => (p, x, y)
  | d + 1, p, x, y => if rfX tx ln p then rfL tx ln d (p + 1) (x + if tx p = 120 then 1 else 0) (y + if tx p = 121 then 1 else 0) else (p, x, y)
theorem rfL_le {tx : Nat → Int32} {ln : Nat} : ∀ d p x y, p ≤ ln → x + y + d ≤ 3 → (rfL tx ln d p x y).1 ≤ ln ∧ (rfL tx ln d p x y).2.1 + (rfL tx ln d p x y).2.2 ≤ 3
  | 0, p, x, y, h, h2 => ⟨h, h2⟩
  | d + 1, p, x, y, h, h2 => by
    rw [rfL]
    by_cases hx : rfX tx ln p
    · rw [if_pos hx]
      refine rfL_le d _ _ _ (by omega) ?_
      by_cases e1 : tx p = 120
      · rw [if_pos e1, if_neg (by rw [e1]; decide)]; omega
      · rw [if_neg e1]; split <;> omega
    · rw [if_neg hx]; exact ⟨h, by show x + y ≤ 3; omega⟩
def rfT (tx : Nat → Int32) (ln p : Nat) : Nat × Nat × Nat := rfL tx ln 3 (p + if rfD tx ln p then 1 else 0) 0 0
def rfA (tx : Nat → Int32) (ln p : Nat) (sg : Int32) : Int32 := sg * (if rfD tx ln p then tx p - 48 else 1)
def rfR (tx : Nat → Int32) (ln p : Nat) : Int32 := if rfX tx ln (rfT tx ln p).1 then 2 else 1
abbrev rfO (tx : Nat → Int32) (ln p : Nat) : Prop := rfR tx ln p = 1 ∧ (rfD tx ln p ∨ 0 < (rfT tx ln p).2.1 + (rfT tx ln p).2.2)
theorem rfT_le {tx : Nat → Int32} {ln p : Nat} (h : p ≤ ln) : (rfT tx ln p).1 ≤ ln ∧ (rfT tx ln p).2.1 + (rfT tx ln p).2.2 ≤ 3 := by
  unfold rfT
  refine rfL_le 3 _ 0 0 ?_ (by decide)
  split
  · rename_i hd; have := hd.1; omega
  · exact h
/-- the place and the reason may move -/
def frT (m : Nat) (i i' : gI) : Prop := (∀ c, c ≠ m → i' c = i c) ∧ ∀ j, j ≠ 10 → j ≠ 11 → i' m j = i m j
theorem frT.rf {m : Nat} {i : gI} : frT m i i := ⟨fun _ _ => rfl, fun _ _ _ => rfl⟩
theorem frT.put {m j : Nat} {i i' : gI} {x : Int32} (h : frT m i i') (hj : j = 10 ∨ j = 11) : frT m i (up2 i' m j x) := ⟨fun c hc => by rw [up2_ne hc]; exact h.1 c hc, fun q q1 q2 => by rw [up2_row (by omega)]; exact h.2 q q1 q2⟩
