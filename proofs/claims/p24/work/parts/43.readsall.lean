/-! the reference reads the whole text -/
/-- a term begins at p, n are there: no fault?, the place, the reason, the flat state -/
def rfG (tx : Nat → Int32) (ln : Nat) : Nat → Nat → Nat → Int32 → (Nat → Int32) → Bool × Nat × Int32 × (Nat → Int32)
  | 0, p, _, _, F => (false, p, 1, F)
  | d + 1, p, n, sg, F =>
    if rfO tx ln p ∧ (rfT tx ln p).1 < ln ∧ (tx (rfT tx ln p).1 = 43 ∨ tx (rfT tx ln p).1 = 45) then
      (if n + 1 = 6 then (false, (rfT tx ln p).1, 3, adF F n (rfA tx ln p sg) (nI (rfT tx ln p).2.1) (nI (rfT tx ln p).2.2))
      else rfG tx ln d ((rfT tx ln p).1 + 1) (n + 1) (if tx (rfT tx ln p).1 = 45 then -1 else 1) (adF F n (rfA tx ln p sg) (nI (rfT tx ln p).2.1) (nI (rfT tx ln p).2.2)))
    else (decide (rfO tx ln p ∧ (rfT tx ln p).1 = ln), (rfT tx ln p).1, rfR tx ln p, adF F n (rfA tx ln p sg) (nI (rfT tx ln p).2.1) (nI (rfT tx ln p).2.2))
abbrev rfM (tx : Nat → Int32) (ln : Nat) : Prop := 0 < ln ∧ tx 0 = 45
def rfAll (tx : Nat → Int32) (ln : Nat) (s : Nat → Int32) : Bool × Nat × Int32 × (Nat → Int32) := rfG tx ln 6 (if rfM tx ln then 1 else 0) 0 (if rfM tx ln then -1 else 1) (upd (upd s 0 0) 1 0)
theorem adF_0 {s : Nat → Int32} {n : Nat} {f x y : Int32} : adF s n f x y 0 = nI (n + 1) := by
  unfold adF
  rw [upd_o (by decide), upd_s]
/-- the flat state, the place, the reason may move -/
def frU (m : Nat) (i i' : gI) : Prop := (∀ c, c ≠ m → c ≠ m + 1 → i' c = i c) ∧ ∀ j, j ≠ 10 → j ≠ 11 → i' m j = i m j
theorem frU.tr {m : Nat} {i j k : gI} (h : frU m i j) (g : frU m j k) : frU m i k := ⟨fun c c1 c2 => (g.1 c c1 c2).trans (h.1 c c1 c2), fun q q1 q2 => (g.2 q q1 q2).trans (h.2 q q1 q2)⟩
theorem frU.rf {m : Nat} {i : gI} : frU m i i := ⟨fun _ _ _ => rfl, fun _ _ _ => rfl⟩
theorem frU.put {m j : Nat} {i i' : gI} {x : Int32} (h : frU m i i') (hj : j = 10 ∨ j = 11) : frU m i (up2 i' m j x) := ⟨fun c c1 c2 => by rw [up2_ne c1]; exact h.1 c c1 c2, fun q q1 q2 => by rw [up2_row (by omega)]; exact h.2 q q1 q2⟩
theorem frU.put1 {m j : Nat} {i i' : gI} {x : Int32} (h : frU m i i') : frU m i (up2 i' (m + 1) j x) := ⟨fun c c1 c2 => by rw [up2_ne c2]; exact h.1 c c1 c2, fun q q1 q2 => by rw [up2_ne (by omega)]; exact h.2 q q1 q2⟩
