/-! the reference: its flat state, written -/
theorem up2_va0 {α : Type} (f : Nat → Nat → α) (a j : Nat) (x : α) : up2 f a j x = va_up f a (fun q => if q = j then x else f a q) := rfl
theorem up2_u {i : gI} {a j : Nat} {x : Int32} : up2 i a j x = va_up i a (upd (i a) j x) := rfl
theorem up2_v {i : gI} {a j : Nat} {x : Int32} {F : Nat → Int32} : up2 (va_up i a F) a j x = va_up i a (upd F j x) := by
  funext b q
  by_cases h : b = a <;> simp [up2, va_up, upd, h]
theorem up2_5 {i : gI} {a p1 p2 p3 p4 p5 : Nat} {x1 x2 x3 x4 x5 : Int32} : up2 (up2 (up2 (up2 (up2 i a p1 x1) a p2 x2) a p3 x3) a p4 x4) a p5 x5 = va_up i a (upd (upd (upd (upd (upd (i a) p1 x1) p2 x2) p3 x3) p4 x4) p5 x5) := by
  rw [show up2 i a p1 x1 = va_up i a (upd (i a) p1 x1) from rfl, up2_v, up2_v, up2_v, up2_v]
theorem va_s {i : gI} {a : Nat} {F : Nat → Int32} : va_up i a F a = F := by simp [va_up]
theorem va_o {i : gI} {a b : Nat} {F : Nat → Int32} (h : b ≠ a) : va_up i a F b = i b := by simp [va_up, h]
theorem va_vv {i : gI} {a : Nat} {F H : Nat → Int32} : va_up (va_up i a F) a H = va_up i a H := by
  funext b; by_cases h : b = a <;> simp [va_up, h]
theorem upd_s {f : Nat → Int32} {k : Nat} {x : Int32} : upd f k x k = x := by simp [upd]
theorem upd_o {f : Nat → Int32} {k j : Nat} {x : Int32} (h : j ≠ k) : upd f k x j = f j := by simp [upd, h]
/-- the flat state is F now; the working fields may have moved -/
def frN (m : Nat) (i i' : gI) (F : Nat → Int32) : Prop := (∀ c, c ≠ m → c ≠ m + 1 → i' c = i c) ∧ (∀ j, j ≠ 6 → j ≠ 7 → j ≠ 8 → i' m j = i m j) ∧ i' (m + 1) = F
theorem frN.rf {m : Nat} {i : gI} : frN m i i (i (m + 1)) := ⟨fun _ _ _ => rfl, fun _ _ _ _ => rfl, rfl⟩
theorem frN.tr {m : Nat} {i j k : gI} {F H : Nat → Int32} (h : frN m i j F) (g : frN m j k H) : frN m i k H := ⟨fun c c1 c2 => (g.1 c c1 c2).trans (h.1 c c1 c2), fun q q1 q2 q3 => (g.2.1 q q1 q2 q3).trans (h.2.1 q q1 q2 q3), g.2.2⟩
theorem frN.cor {m : Nat} {i j k : gI} {F : Nat → Int32} (h : frN m i j F) (g : frM m j k) : frN m i k F := ⟨fun c c1 c2 => (g.1 c c1).trans (h.1 c c1 c2), fun q q1 q2 q3 => (g.2 q q1 q2 q3).trans (h.2.1 q q1 q2 q3), (g.1 (m + 1) (by omega)).trans h.2.2⟩
theorem frN.row {m : Nat} {i j : gI} {F H : Nat → Int32} (h : frN m i j F) : frN m i (va_up j (m + 1) H) H := ⟨fun c c1 c2 => by rw [va_o c2]; exact h.1 c c1 c2, fun q q1 q2 q3 => by rw [va_o (by omega)]; exact h.2.1 q q1 q2 q3, va_s⟩
theorem frN.put {m a : Nat} {i j : gI} {F : Nat → Int32} {x : Int32} (h : frN m i j F) : frN m i (up2 j (m + 1) a x) (upd F a x) := by
  rw [up2_u, h.2.2]; exact h.row
theorem mv.flat {s s' : Nat → Int32} {n : Nat} {f : Nat → Int32} {p q : Nat → Nat} (h : mv s n f p q) (h0 : s' 0 = s 0) (hf : ∀ j, 5 ≤ j → j < 23 → s' j = s j) : mv s' n f p q := by
  obtain ⟨h1, h2, h3⟩ := h
  exact ⟨h1, h0.trans h2, fun k hk => by rw [hf _ (by omega) (by omega), hf _ (by omega) (by omega), hf _ (by omega) (by omega)]; exact h3 k hk⟩
/-- a number of a walk, below m of them -/
theorem isW {x : Int32} {m : Nat} (hm : m < 2 ^ 30) : inI x 0 (nI m - 1) ↔ ∃ k, k < m ∧ x = nI k := by
  constructor
  · rintro ⟨h1, h2⟩
    rcases pk_ix x (n := m) (by omega) with z | z | z
    · exact absurd z h1
    · exfalso
      cases m with
      | zero =>
        apply h2
        have h3 : (nI 0 - 1).toInt = -1 := by decide
        rw [Int32.lt_iff_toInt_lt, h3]
        have := Int32.le_iff_toInt_le.mp z
        rw [nI_toInt (by decide)] at this
        omega
      | succ m =>
        apply h2
        rw [nI_pred]
        rw [Int32.lt_iff_toInt_lt]
        have := Int32.le_iff_toInt_le.mp z
        rw [nI_toInt (by omega)] at this ⊢
        omega
    · exact z
  · rintro ⟨k, hk, rfl⟩
    refine ⟨nI_pos (by omega), ?_⟩
    cases m with
    | zero => omega
    | succ m => rw [nI_pred]; exact nI_nlt (by omega) (by omega)
/-- a walk at w, of n places, gets one more -/
def jnF (s : Nat → Int32) (w n : Nat) (x y q k : Int32) : Nat → Int32 := upd (upd (upd (upd (upd s (w + 6 + 4 * n + 0) x) (w + 6 + 4 * n + 1) y) (w + 6 + 4 * n + 2) q) (w + 6 + 4 * n + 3) k) w (nI (n + 1))
def opF (s : Nat → Int32) (k : Nat) (sg p f : Int32) : Nat → Int32 := upd (upd (upd (upd (upd (upd (upd s 1 (nI (k + 1))) (23 + 166 * k + 0) 0) (23 + 166 * k + 1) sg) (23 + 166 * k + 2) (s 2)) (23 + 166 * k + 3) 0) (23 + 166 * k + 4) p) (23 + 166 * k + 5) f
def adF (s : Nat → Int32) (n : Nat) (f x y : Int32) : Nat → Int32 := upd (upd (upd (upd (upd s (5 + 3 * n) f) (5 + 3 * n + 1) x) (5 + 3 * n + 2) y) 0 (nI (n + 1))) 1 0
