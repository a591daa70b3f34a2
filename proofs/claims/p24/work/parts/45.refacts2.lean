/-! the reference acts on -/
theorem inI_nat {x : Int32} {a b : Nat} (hb : b < 2 ^ 30) (ha : a ≤ b) (h : inI x (nI a) (nI b)) : ∃ j, a ≤ j ∧ j ≤ b ∧ x = nI j := by
  obtain ⟨h1, h2⟩ := h
  rcases pk_ix x (n := b + 1) (by omega) with z | z | ⟨j, hj, rfl⟩
  · exact absurd (Int32.lt_of_lt_of_le z (nI_pos' (n := a) (by omega))) h1
  · exact absurd (Int32.lt_of_lt_of_le (nI_lt (a := b) (b := b + 1) (by omega) (by omega)) z) h2
  · refine ⟨j, ?_, by omega, rfl⟩
    rcases Nat.lt_or_ge j a with z | z
    · exact absurd (nI_lt z (by omega)) h1
    · exact z
theorem nW_of {S : Nat → Int32} (h : vS S) : nW S ≤ 5 ∧ S 1 = nI (nW S) ∧ ∀ k, k < nW S → (∃ z, vW S (23 + 166 * k) z) ∧ (S (23 + 166 * k + 4) = -1 ∨ ∃ q, q < k ∧ S (23 + 166 * k + 4) = nI q) := by
  obtain ⟨_, _, n, n5, n1, nk⟩ := h
  have e : nW S = n := by unfold nW; rw [n1, nI_clamp (by omega)]
  rw [e]
  exact ⟨n5, n1, nk⟩
theorem nI_big5 {c : Int32} (h : bd c.toInt64 5) : ¬ c ≤ -1000001 := by
  intro z
  have := Int32.le_iff_toInt_le.mp z
  unfold bd at h
  rw [Int32.toInt_toInt64] at h
  rw [show (-1000001 : Int32).toInt = -1000001 by decide] at this
  omega
theorem wkR_le (w : Nat) : ∀ d s, (wkR w d s).2 ≤ d
  | 0, _ => Nat.le_refl _
  | d + 1, s => by
    rw [wkR]
    have := wkR_le w d (stR s w).1
    split
    · exact Nat.zero_le _
    · split
      · show (wkR w d (stR s w).1).2 + 1 ≤ d + 1; omega
      · exact Nat.zero_le _
