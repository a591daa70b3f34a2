/-! bounds -/
/-- at most N from zero -/
def bd (x : Int64) (N : Nat) : Prop := x.toInt.natAbs ≤ N
theorem bmod_id {z : Int} (h : z.natAbs < 2 ^ 63) : z.bmod (2 ^ 64) = z := Int.bmod_eq_of_le (by omega) (by omega)
theorem bd_mulI {x y : Int64} {a b : Nat} (hx : bd x a) (hy : bd y b) (h : a * b < 2 ^ 63) : (x * y).toInt = x.toInt * y.toInt := by
  rw [Int64.toInt_mul]
  apply bmod_id
  rw [Int.natAbs_mul]
  exact Nat.lt_of_le_of_lt (Nat.mul_le_mul hx hy) h
theorem bd_mul {x y : Int64} {a b : Nat} (hx : bd x a) (hy : bd y b) (h : a * b < 2 ^ 63) : bd (x * y) (a * b) := by
  unfold bd
  rw [bd_mulI hx hy h, Int.natAbs_mul]
  exact Nat.mul_le_mul hx hy
theorem bd_addI {x y : Int64} {a b : Nat} (hx : bd x a) (hy : bd y b) (h : a + b < 2 ^ 63) : (x + y).toInt = x.toInt + y.toInt := by
  rw [Int64.toInt_add]
  apply bmod_id
  unfold bd at hx hy
  omega
theorem bd_add {x y : Int64} {a b : Nat} (hx : bd x a) (hy : bd y b) (h : a + b < 2 ^ 63) : bd (x + y) (a + b) := by
  have := bd_addI hx hy h
  unfold bd at *
  omega
theorem bd_mono {x : Int64} {a b : Nat} (h : bd x a) (hab : a ≤ b) : bd x b := Nat.le_trans h hab
theorem bd_lN {n : Nat} (h : n < 2 ^ 31) : bd (lN n) n := by unfold bd; rw [lN_toInt h]; omega
theorem bd_nI {n : Nat} (h : n < 2 ^ 31) : bd (nI n).toInt64 n := by unfold bd; rw [Int32.toInt_toInt64, nI_toInt h]; omega
theorem bd_inB {x : Int64} (h : inB x) : bd x 1024 := by
  obtain ⟨h1, h2⟩ := h
  unfold bd
  rw [Int64.lt_iff_toInt_lt] at h1 h2
  have a1 : (-1024 : Int64).toInt = -1024 := by decide
  have a2 : (1024 : Int64).toInt = 1024 := by decide
  omega
theorem bd_0 {N : Nat} : bd 0 N := by unfold bd; rw [show (0 : Int64).toInt = 0 from rfl]; exact Nat.zero_le _
theorem bd_pow {x : Int64} {a : Nat} (hx : bd x a) : ∀ k, a ^ k < 2 ^ 63 → (∀ j, j ≤ k → a ^ j < 2 ^ 63) → bd (gPow x k) (a ^ k)
  | 0, _, _ => by unfold gPow bd; exact Nat.le_refl _
  | k + 1, h, hj => by
    have h1 := bd_pow hx k (hj k (by omega)) (fun j h2 => hj j (by omega))
    rw [gPow, Nat.pow_succ]
    exact bd_mul h1 hx (by rw [← Nat.pow_succ]; exact h)
theorem bd_p256 {k : Nat} (h : k ≤ 3) : bd (gPow 256 k) (256 ^ k) := by
  rcases (show k = 0 ∨ k = 1 ∨ k = 2 ∨ k = 3 by omega) with rfl | rfl | rfl | rfl <;> (unfold bd; decide +kernel)
theorem bd_p1024 {x : Int64} (hx : bd x 1024) {k : Nat} (h : k ≤ 3) : bd (gPow x k) (1024 ^ k) := by
  refine bd_pow hx k ?_ (fun j hj => ?_)
  · rcases (show k = 0 ∨ k = 1 ∨ k = 2 ∨ k = 3 by omega) with rfl | rfl | rfl | rfl <;> decide
  · rcases (show j = 0 ∨ j = 1 ∨ j = 2 ∨ j = 3 by omega) with rfl | rfl | rfl | rfl <;> decide
theorem bd_term {c : Int64} {x y : Int64} {a b e t : Nat} (hc : bd c 5) (hx : bd x 1024) (hy : bd y 1024) (ha : a ≤ 3) (hb : b ≤ 3) (he : e ≤ 3) (ht : t ≤ 3) (h : 5 * 256 ^ e * t * 1024 ^ a * 1024 ^ b ≤ 15 * 2 ^ 20) : bd (c * gPow 256 e * (nI t).toInt64 * gPow x a * gPow y b) (15 * 2 ^ 20) := by
  refine bd_mono ?_ h
  have e1 : 256 ^ e ≤ 256 ^ 3 := Nat.pow_le_pow_right (by decide) he
  have a1 : 1024 ^ a ≤ 1024 ^ 3 := Nat.pow_le_pow_right (by decide) ha
  have q1 : 5 * 256 ^ e ≤ 5 * 256 ^ 3 := Nat.mul_le_mul_left 5 e1
  have q2 : 5 * 256 ^ e * t ≤ 5 * 256 ^ 3 * 3 := Nat.mul_le_mul q1 ht
  have q3 : 5 * 256 ^ e * t * 1024 ^ a ≤ 5 * 256 ^ 3 * 3 * 1024 ^ 3 := Nat.mul_le_mul q2 a1
  have n1 : 5 * 256 ^ 3 < 2 ^ 63 := by decide
  have n2 : 5 * 256 ^ 3 * 3 < 2 ^ 63 := by decide
  have n3 : 5 * 256 ^ 3 * 3 * 1024 ^ 3 < 2 ^ 63 := by decide
  have n4 : 15 * 2 ^ 20 < 2 ^ 63 := by decide
  have u1 : bd (c * gPow 256 e) (5 * 256 ^ e) := bd_mul hc (bd_p256 he) (Nat.lt_of_le_of_lt q1 n1)
  have u2 : bd (c * gPow 256 e * (nI t).toInt64) (5 * 256 ^ e * t) := bd_mul u1 (bd_nI (by omega)) (Nat.lt_of_le_of_lt q2 n2)
  have u3 : bd (c * gPow 256 e * (nI t).toInt64 * gPow x a) (5 * 256 ^ e * t * 1024 ^ a) := bd_mul u2 (bd_p1024 hx ha) (Nat.lt_of_le_of_lt q3 n3)
  exact bd_mul u3 (bd_p1024 hy hb) (Nat.lt_of_le_of_lt h n4)
/-- factors are small -/
def cf (n : Nat) (f : Nat → Int32) (p q : Nat → Nat) : Prop := ∀ k, k < n → bd (f k).toInt64 5 ∧ p k + q k ≤ 3
theorem bd_gvn {f : Nat → Int32} {p q : Nat → Nat} {x y : Int64} {w k : Nat} (hf : bd (f k).toInt64 5) (hpq : p k + q k ≤ 3) (hx : bd x 1024) (hy : bd y 1024) (hw : w = 1 ∨ w = 2) : bd (gvn f p q x y w k) (15 * 2 ^ 20) := by
  unfold gvn gW
  rcases hw with rfl | rfl
  · rw [if_pos rfl]
    by_cases h0 : p k = 0
    · rw [if_pos h0]; exact bd_0
    · rw [if_neg h0]
      refine bd_term hf hx hy (by omega) (by omega) (by omega) (by omega) ?_
      rcases (show (p k = 1 ∧ q k = 0) ∨ (p k = 1 ∧ q k = 1) ∨ (p k = 1 ∧ q k = 2) ∨ (p k = 2 ∧ q k = 0) ∨ (p k = 2 ∧ q k = 1) ∨ (p k = 3 ∧ q k = 0) by omega) with ⟨e1, e2⟩ | ⟨e1, e2⟩ | ⟨e1, e2⟩ | ⟨e1, e2⟩ | ⟨e1, e2⟩ | ⟨e1, e2⟩ <;> rw [e1, e2] <;> decide
  · rw [if_neg (by decide), if_pos rfl]
    by_cases h0 : q k = 0
    · rw [if_pos h0]; exact bd_0
    · rw [if_neg h0]
      refine bd_term hf hx hy (by omega) (by omega) (by omega) (by omega) ?_
      rcases (show (p k = 0 ∧ q k = 1) ∨ (p k = 1 ∧ q k = 1) ∨ (p k = 0 ∧ q k = 2) ∨ (p k = 1 ∧ q k = 2) ∨ (p k = 2 ∧ q k = 1) ∨ (p k = 0 ∧ q k = 3) by omega) with ⟨e1, e2⟩ | ⟨e1, e2⟩ | ⟨e1, e2⟩ | ⟨e1, e2⟩ | ⟨e1, e2⟩ | ⟨e1, e2⟩ <;> rw [e1, e2] <;> decide
theorem bd_gSum {f : Nat → Int32} {p q : Nat → Nat} {x y : Int64} {w n : Nat} (hc : cf n f p q) (hx : bd x 1024) (hy : bd y 1024) (hw : w = 1 ∨ w = 2) : ∀ m, m ≤ n → m ≤ 6 → bd (gSum f p q x y w m) (m * (15 * 2 ^ 20))
  | 0, _, _ => by rw [gSum]; exact bd_0
  | m + 1, h, h6 => by
    rw [gSum]
    have h1 := bd_gSum hc hx hy hw m (by omega) (by omega)
    have h2 := bd_gvn (w := w) (hc m (by omega)).1 (hc m (by omega)).2 hx hy hw
    exact bd_mono (bd_add h1 h2 (by omega)) (by omega)
theorem bd_S {f : Nat → Int32} {p q : Nat → Nat} {x y : Int64} {w n : Nat} (hn : n ≤ 6) (hc : cf n f p q) (hx : bd x 1024) (hy : bd y 1024) (hw : w = 1 ∨ w = 2) : bd (gSum f p q x y w n) (2 ^ 27) := bd_mono (bd_gSum hc hx hy hw n (Nat.le_refl _) hn) (by omega)
theorem sq_pos {a : Int} : 0 ≤ a * a := by
  rcases Int.le_total 0 a with h | h
  · exact Int.mul_nonneg h h
  · have := Int.mul_nonneg (a := -a) (b := -a) (by omega) (by omega)
    rwa [Int.neg_mul_neg] at this
/-- a sum of two squares, not too big -/
theorem gg_pos {a b : Int64} (ha : bd a (2 ^ 30)) (hb : bd b (2 ^ 30)) (h : ¬ a * a + b * b = 0) : (1 : Int64) ≤ a * a + b * b := by
  have h1 := bd_mulI ha ha (by decide)
  have h2 := bd_mulI hb hb (by decide)
  have h3 := bd_addI (bd_mul ha ha (by decide)) (bd_mul hb hb (by decide)) (by decide)
  rw [Int64.le_iff_toInt_le, h3, h1, h2]
  have h4 : ¬ (a * a + b * b).toInt = 0 := fun z => h (Int64.toInt_inj.mp (z.trans rfl))
  rw [h3, h1, h2] at h4
  have s1 := sq_pos (a := a.toInt)
  have s2 := sq_pos (a := b.toInt)
  rw [show (1 : Int64).toInt = 1 from rfl]
  omega
theorem gRootL_ge {v : Int64} (hv : (1 : Int64) ≤ v) : ∀ j a, j ≤ 31 → a + 2 ^ j ≤ 2 ^ 31 → ∃ b, gRootL v j (lN a) = lN b ∧ a ≤ b ∧ b + 1 ≤ a + 2 ^ j ∧ (1 ≤ j → 1 ≤ b)
  | 0, a, _, h => ⟨a, rfl, Nat.le_refl _, by omega, fun z => absurd z (by decide)⟩
  | j + 1, a, hj, h => by
    rw [Nat.pow_succ] at h
    have hp : 1 ≤ 2 ^ j := Nat.one_le_two_pow
    rw [gRootL]
    by_cases ht : (lN a + lN (2 ^ j)) * (lN a + lN (2 ^ j)) ≤ v
    · rw [if_pos ht, lN_add]
      obtain ⟨b, h1, h2, h3, h4⟩ := gRootL_ge hv j (a + 2 ^ j) (by omega) (by omega)
      exact ⟨b, h1, by omega, by rw [Nat.pow_succ]; omega, fun _ => by omega⟩
    · rw [if_neg ht]
      obtain ⟨b, h1, h2, h3, h4⟩ := gRootL_ge hv j a (by omega) (by omega)
      refine ⟨b, h1, h2, by rw [Nat.pow_succ]; omega, fun _ => ?_⟩
      cases j with
      | succ j => exact h4 (by omega)
      | zero =>
        rcases Nat.eq_zero_or_pos a with z | z
        · subst z; exact absurd hv ht
        · omega
theorem gRoot_of {v : Int64} (hv : (1 : Int64) ≤ v) : ∃ b, 1 ≤ b ∧ b < 2 ^ 31 ∧ gRoot v = lN b := by
  obtain ⟨b, h1, h2, h3, h4⟩ := gRootL_ge hv 31 0 (Nat.le_refl _) (by omega)
  exact ⟨b, h4 (by decide), by omega, h1⟩
theorem gRoot_0 : gRoot 0 = 0 := by decide +kernel
theorem gRoot_n0 {v : Int64} (hv : (1 : Int64) ≤ v) : ¬ gRoot v = 0 := by
  obtain ⟨b, h1, h2, h3⟩ := gRoot_of hv
  rw [h3]
  intro z
  have := (lN_eq (a := b) (b := 0) h2 (by decide)).mp z
  omega
theorem gg_ge {f : Nat → Int32} {p q : Nat → Nat} {x y : Int64} {n : Nat} (hn : n ≤ 6) (hc : cf n f p q) (hx : bd x 1024) (hy : bd y 1024) (h : ¬ gGG f p q n x y = 0) : (1 : Int64) ≤ gGG f p q n x y :=
  gg_pos (bd_mono (bd_S hn hc hx hy (Or.inl rfl)) (by decide)) (bd_mono (bd_S hn hc hx hy (Or.inr rfl)) (by decide)) h
theorem gRk_of {f : Nat → Int32} {p q : Nat → Nat} {n : Nat} (hn : n ≤ 6) (hc : cf n f p q) : gRk f p q n := fun _ _ hx hy h => gRoot_n0 (gg_ge hn hc (bd_inB hx) (bd_inB hy) h)
theorem gRoot_iff {f : Nat → Int32} {p q : Nat → Nat} {n : Nat} (hn : n ≤ 6) (hc : cf n f p q) {x y : Int64} (hx : inB x) (hy : inB y) : gRoot (gGG f p q n x y) = 0 ↔ gGG f p q n x y = 0 := ⟨fun z => Classical.byContradiction (fun h => gRk_of hn hc x y hx hy h z), fun z => by rw [z]; exact gRoot_0⟩
