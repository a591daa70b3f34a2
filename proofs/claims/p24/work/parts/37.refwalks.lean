/-! the reference's steps -/
/-- it stands: it may not step -/
abbrev gStop (s : Nat → Int32) (w : Nat) : Prop := s (w + 3) = 1 ∨ s w = 40
/-- at most d steps of the walk at w: the flat state, the places that came -/
def wkR (w : Nat) : Nat → (Nat → Int32) → (Nat → Int32) × Nat
  | 0, s => (s, 0)
  | d + 1, s => if gStop s w then (s, 0) else if (stR s w).2 = true then ((wkR w d (stR s w).1).1, (wkR w d (stR s w).1).2 + 1) else ((stR s w).1, 0)
theorem gStop_z {s : Nat → Int32} {w z : Nat} (hv : vW s w z) (h : ¬ gStop s w) : z + 1 < 40 := by
  obtain ⟨v1, v2, _⟩ := hv
  rcases Nat.lt_or_ge (z + 1) 40 with h1 | h1
  · exact h1
  · exact absurd (Or.inr (by rw [v1, show z + 1 = 40 by omega]; rfl)) h
theorem gStop_0 {s : Nat → Int32} {w : Nat} (h : ¬ gStop s w) : (if s (w + 3) = 1 then (1 : Int32) else if s w = 40 then 2 else 0) = 0 := by
  rw [if_neg (fun z => h (Or.inl z)), if_neg (fun z => h (Or.inr z))]
theorem gStop_1 {s : Nat → Int32} {w : Nat} (h : gStop s w) : ¬ (if s (w + 3) = 1 then (1 : Int32) else if s w = 40 then 2 else 0) = 0 := by
  rcases h with h | h
  · rw [if_pos h]; decide
  · rw [if_pos h]; split <;> decide
theorem stR_h {s : Nat → Int32} {w z j : Nat} (hv : vW s w z) (hz : z + 1 < 40) (hw : 23 ≤ w) (hj : j < 23) : (stR s w).1 j = s j := stR_o hv hz (by omega)
theorem stR_T {s : Nat → Int32} {w z : Nat} (hv : vW s w z) (hz : z + 1 < 40) (hw : 23 ≤ w) (hT : vT s) (hE : vSe s) : vT (stR s w).1 ∧ vSe (stR s w).1 :=
  ⟨hT.eq (fun j h _ => stR_h hv hz hw h), hE.eq (stR_h hv hz hw (by decide)) (stR_h hv hz hw (by decide)) (stR_h hv hz hw (by decide))⟩
