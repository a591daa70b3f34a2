/-! the reference drops walks -/
def gPr4 (s : Nat → Int32) (q : Nat) : Int32 := s (23 + 166 * q + 4)
/-- the number of walk j afterwards -/
def nmR (pr : Nat → Int32) (w j : Nat) : Int32 := if fam pr w j = true then -1 else nI (kc pr w j)
/-- the parent of walk j afterwards -/
def npR (pr : Nat → Int32) (w j : Nat) : Int32 := if pr j < 0 then -1 else nmR pr w (pr j).toNatClampNeg
/-- parents come before -/
def vP (pr : Nat → Int32) (n : Nat) : Prop := ∀ j, j < n → pr j = -1 ∨ ∃ q, q < j ∧ pr j = nI q
/-- k walks have moved -/
def drI (s F : Nat → Int32) (w k : Nat) : Prop := (∀ j, j < 23 → F j = s j) ∧ (∀ j, k ≤ j → j < 5 → ∀ c, c < 166 → F (23 + 166 * j + c) = s (23 + 166 * j + c)) ∧ ∀ j, j < k → ¬ fam (gPr4 s) w j = true → ∀ c, c < 166 → F (23 + 166 * kc (gPr4 s) w j + c) = if c = 4 then npR (gPr4 s) w j else s (23 + 166 * j + c)
theorem drI_f {s F : Nat → Int32} {w k : Nat} (h : drI s F w k) (hk : k < 5) (hf : fam (gPr4 s) w k = true) (v : Int32) : drI s (upd F (23 + 166 * k + 4) v) w (k + 1) := by
  obtain ⟨h1, h2, h3⟩ := h
  refine ⟨fun j hj => by rw [upd_o (by omega)]; exact h1 j hj, fun j j1 j2 c hc => by rw [upd_o (by omega)]; exact h2 j (by omega) j2 c hc, fun j j1 j2 c hc => ?_⟩
  have hj : j < k := by
    rcases Nat.lt_or_ge j k with z | z
    · exact z
    · exact absurd hf (by rw [show k = j by omega]; exact j2)
  have hl := kc_le (gPr4 s) w j
  rw [upd_o (by omega)]
  exact h3 j hj j2 c hc
theorem drI_n {s F : Nat → Int32} {w k : Nat} (h : drI s F w k) (hk : k < 5) (hf : ¬ fam (gPr4 s) w k = true) : drI s (fll (upd F (23 + 166 * k + 4) (npR (gPr4 s) w k)) (23 + 166 * kc (gPr4 s) w k) (fun c => upd F (23 + 166 * k + 4) (npR (gPr4 s) w k) (23 + 166 * k + c)) 166) w (k + 1) := by
  obtain ⟨h1, h2, h3⟩ := h
  have hle := kc_le (gPr4 s) w k
  refine ⟨fun j hj => ?_, fun j j1 j2 c hc => ?_, fun j j1 j2 c hc => ?_⟩
  · unfold fll; rw [if_neg (by omega), upd_o (by omega)]; exact h1 j hj
  · unfold fll; rw [if_neg (by omega), upd_o (by omega)]; exact h2 j (by omega) j2 c hc
  · by_cases hj : j = k
    · subst hj
      unfold fll
      rw [if_pos (by omega)]
      dsimp only
      rw [show 23 + 166 * kc (gPr4 s) w j + c - (23 + 166 * kc (gPr4 s) w j) = c by omega]
      by_cases hc4 : c = 4
      · subst hc4; rw [upd_s, if_pos rfl]
      · rw [upd_o (by omega), if_neg hc4]; exact h2 j (Nat.le_refl _) hk c hc
    · have hl := kc_lt (pr := gPr4 s) (k := w) (p := j) (j := k) (by omega) j2
      unfold fll
      rw [if_neg (by omega), upd_o (by omega)]
      exact h3 j (by omega) j2 c hc
