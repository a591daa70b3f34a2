/-! the class and the reference step alike -/
theorem bd_neg {x : Int64} {a : Nat} (h : bd x a) (ha : a < 2 ^ 63) : bd (-x) a ∧ (-x).toInt = -x.toInt := by
  unfold bd at *
  have : (-x).toInt = -x.toInt := by rw [Int64.toInt_neg]; exact bmod_id (by omega)
  exact ⟨by omega, this⟩
theorem bd_divI {x : Int64} {a b : Nat} (hx : bd x a) (ha : a < 2 ^ 63) (h1 : b < 2 ^ 31) : (x / lN b).toInt = x.toInt.tdiv b := by
  rw [Int64.toInt_div, lN_toInt h1]
  apply bmod_id
  rw [Int.natAbs_tdiv]
  unfold bd at hx
  exact Nat.lt_of_le_of_lt (Nat.le_trans (Nat.div_le_self _ _) hx) ha
theorem neg_div {x : Int64} {a b : Nat} (hx : bd x a) (ha : a < 2 ^ 63) (h1 : b < 2 ^ 31) : (-x) / lN b = -(x / lN b) := by
  obtain ⟨n1, n2⟩ := bd_neg hx ha
  have hd := bd_divI hx ha h1
  have hb : bd (x / lN b) a := by
    unfold bd at *
    rw [hd, Int.natAbs_tdiv]
    exact Nat.le_trans (Nat.div_le_self _ _) hx
  apply Int64.toInt_inj.mp
  rw [bd_divI n1 ha h1, n2, (bd_neg hb ha).2, hd, Int.neg_tdiv]
theorem add_negdiv {u x : Int64} {a b : Nat} (hx : bd x a) (ha : a < 2 ^ 63) (h1 : b < 2 ^ 31) : u + (-x) / lN b = u - x / lN b := by
  rw [neg_div hx ha h1, Int64.sub_eq_add_neg]
theorem bd_sg {s : Int32} (h : s = 1 ∨ s = -1) : bd s.toInt64 1 := by rcases h with rfl | rfl <;> (unfold bd; decide)
theorem tr_eq {f : Nat → Int32} {p q : Nat → Nat} {n m k : Nat} {x y s : Int32} (hn : n ≤ 6) (hc : cf n f p q) (hx : inB x.toInt64) (hy : inB y.toInt64) (hs : s = 1 ∨ s = -1) (hk : k ≤ 128) : gTrA f p q n m x y s (nI k) = gTrR f p q n m x y s (nI k) := by
  unfold gTrA gTrR
  by_cases h : gGG f p q n x.toInt64 y.toInt64 = 0
  · rw [if_pos h, if_pos ((gRoot_iff hn hc hx hy).mpr h)]
  · rw [if_neg h, if_neg (fun z => h ((gRoot_iff hn hc hx hy).mp z))]
    obtain ⟨b, b1, b2, b3⟩ := gRoot_of (gg_ge hn hc (bd_inB hx) (bd_inB hy) h)
    have z1 : bd ((nI k).toInt64 * s.toInt64) (128 * 1) := bd_mul (bd_mono (bd_nI (by omega)) hk) (bd_sg hs) (by decide)
    have y1 := bd_S hn hc (bd_inB hx) (bd_inB hy) (w := 2) (Or.inr rfl)
    unfold gTry
    rw [b3, Int64.mul_neg, add_negdiv (bd_mul z1 y1 (by decide)) (by decide) b2]
    generalize gCor _ _ _ _ _ _ _ _ = o
    cases o <;> rfl
theorem lt0 {x : Int64} : x < 0 ↔ x.toInt < 0 := by rw [Int64.lt_iff_toInt_lt]; exact Iff.rfl
theorem gt0 {x : Int64} : 0 < x ↔ 0 < x.toInt := by rw [Int64.lt_iff_toInt_lt]; exact Iff.rfl
theorem sgn_mul {x y : Int64} {a b : Nat} (hx : bd x a) (hy : bd y b) (h : a * b < 2 ^ 63) : x * y < 0 ↔ (x < 0 ∧ 0 < y) ∨ (0 < x ∧ y < 0) := by
  rw [lt0, lt0, lt0, gt0, gt0, bd_mulI hx hy h]
  generalize x.toInt = u
  generalize y.toInt = v
  constructor
  · intro hu
    rcases Int.lt_trichotomy u 0 with h1 | h1 | h1
    · rcases Int.lt_trichotomy v 0 with h2 | h2 | h2
      · exact absurd (Int.mul_pos_of_neg_of_neg h1 h2) (by omega)
      · rw [h2, Int.mul_zero] at hu; omega
      · exact Or.inl ⟨h1, h2⟩
    · rw [h1, Int.zero_mul] at hu; omega
    · rcases Int.lt_trichotomy v 0 with h2 | h2 | h2
      · exact Or.inr ⟨h1, h2⟩
      · rw [h2, Int.mul_zero] at hu; omega
      · exact absurd (Int.mul_pos h1 h2) (by omega)
  · rintro (⟨h1, h2⟩ | ⟨h1, h2⟩)
    · exact Int.mul_neg_of_neg_of_pos h1 h2
    · exact Int.mul_neg_of_pos_of_neg h1 h2
theorem knd_eq {w x y : Int64} {a b : Nat} (hx : bd x a) (hy : bd y b) (h : a * b < 2 ^ 63) : gKnd w x y = gKr w x y := by
  unfold gKnd gKr
  split
  · rfl
  · by_cases h1 : x * y < 0
    · rw [if_pos h1, if_pos ((sgn_mul hx hy h).mp h1)]
    · rw [if_neg h1, if_neg (fun z => h1 ((sgn_mul hx hy h).mpr z))]
theorem pce_eq {rd pc gl : Int32} : gPce rd pc gl = gPr rd pc gl := by
  unfold gPce gPr gMax gMin
  split
  · split
    · rfl
    · by_cases h : pc / 2 < 1
      · rw [if_pos h, if_neg (Int32.not_le.mpr h)]
      · rw [if_neg h, if_pos (Int32.not_lt.mp h)]
  · rw [Int32.mul_comm pc 2]
    by_cases h : gl < 2 * pc
    · rw [if_pos h, if_neg (Int32.not_le.mpr h)]
    · rw [if_neg h, if_pos (Int32.not_lt.mp h)]
set_option maxHeartbeats 4000000 in
/-- Mover.advance, as the flat state steps -/
theorem c_adv {Γ : gG} {T : gTy} {r : gR} {l : gLg} {i : gI} {Q : gQ} {v b a w z : Nat} {S : Nat → Int32}
  (hM : lyMo T r v) (hA : gN Γ ≤ a) (hB : lyC T r b) (hW : lyW T r a) (hba : b + 9 ≤ a) (hab : a + 5 ≤ b + 34) (hbv : b + 36 ≤ v)
  (hT : vT S) (hE : vSe S) (hv : vW S w z) (hw : 23 ≤ w) (hz : z + 1 < 40) (hV : tv i (b + 1) (tN S) (tF S) (tP S) (tQ S)) (hR : rpS i (b + 34) S) (hr : rpW i a S w (z + 1))
  (hQ : ∀ l' i', (∀ d, d ≠ v + 2 → d ≠ v + 3 → l' d = l d) → (∀ d, d ≠ v + 1 → (d < a ∨ a + 5 ≤ d) → i' d = i d) → rpW i' a (stR S w).1 w (if (stR S w).2 = true then z + 2 else z + 1) → Q (some (.int (gB ((stR S w).2 = true)))) T r l' i') :
  gC Γ MX2_advance [.ref v, .ref b, .ref a] T r l i Q := by
  obtain ⟨v1, v2, v3, ⟨k0, k1, k2⟩, v5, v6⟩ := id hv
  obtain ⟨r1, r2, r3, r4, r5⟩ := id hr
  obtain ⟨_, _, m1, m2, m3⟩ := id hE
  have hn : (S w).toNatClampNeg = z + 1 := by rw [v1, nI_clamp (by omega)]
  have hp : (S (w + 2)).toNatClampNeg = k0 := by rw [k2, nI_clamp (by omega)]
  have ex : i (a + 1) z = S (w + 6 + 4 * z + 0) := r4 z (by omega) 0 (by decide)
  have ey : i (a + 2) z = S (w + 6 + 4 * z + 1) := r4 z (by omega) 1 (by decide)
  have es : i a 5 = S (w + 1) := r3 1 (by decide)
  have ep : i a 6 = nI k0 := (r3 2 (by decide)).trans k2
  have g3 : i (b + 34 + 1) 1 = S 3 := hR 1 (by decide)
  have g4 : i (b + 35) 2 = nI (tM S) := (hR 2 (by decide)).trans m3
  have hsx := (v6 z (Nat.le_refl _)).1
  have hsy := (v6 z (Nat.le_refl _)).2.1
  have ht : ∀ e, gGoP (gTrA (tF S) (tP S) (tQ S) (tN S) (tM S) (i (a + 1) z) (i (a + 2) z) (i a 5)) e k0 = gGoP (gTrR (tF S) (tP S) (tQ S) (tN S) (tM S) (S (w + 6 + 4 * z + 0)) (S (w + 6 + 4 * z + 1)) (S (w + 1))) e k0 := fun e => by
    rw [ex, ey, es]
    exact gGoP_ext (N := 128) (fun k hk => tr_eq hT.1.1 hT.2 hsx hsy v3 hk) e k0 k1
  refine c_X2_advance (f := tF S) (p := tP S) (q := tQ S) (n := tN S) (m := tM S) (z := z) (k0 := k0) hM hA hB hW hba hab hbv hV g4 (by omega) r2 hz ep (by omega) ?_ ?_
  · intro hN l' i' hl h1 h2 h3 h4
    rw [ht] at hN
    have hst : stR S w = (upd (upd S (w + 2) 0) (w + 3) 1, false) := by unfold stR; rw [hn, hp, Nat.add_sub_cancel, hN]
    rw [hst] at hQ
    dsimp only at hQ
    refine hQ l' i' hl (fun d d1 d2 => h1 d d1 (by omega)) ⟨by show z + 1 ≤ 40; omega, (h2 4 (by decide) (by decide)).trans r2, fun j hj => ?_, fun p hp c hc => ?_, Or.inr ?_⟩
    · by_cases e6 : j = 2
      · subst e6; show i' a 6 = _; rw [h3, upd_o (by omega), upd_s]
      · by_cases e7 : j = 3
        · subst e7; show i' a 7 = _; rw [h4, upd_s]
        · rw [h2 (4 + j) (by omega) (by omega), upd_o (by omega), upd_o (by omega)]; exact r3 j hj
    · rw [h1 (a + 1 + c) (by have := hM.2.2.2.1; omega) (by omega), upd_o (by omega), upd_o (by omega)]; exact r4 p hp c hc
    · show upd _ _ _ _ = _; rw [upd_s]
  · intro kk c hS l' i' hl h
    rw [ht] at hS
    have hst : stR S w = (goF (tF S) (tP S) (tQ S) (tN S) S w (z + 1) (S (w + 6 + 4 * z + 0)) (S (w + 6 + 4 * z + 1)) kk c, true) := by unfold stR; rw [hn, hp, Nat.add_sub_cancel, hS]
    rw [hst] at hQ
    dsimp only at hQ
    obtain ⟨q1, q2⟩ := gGoP_some _ _ hS
    obtain ⟨c1, c2, c3, c4⟩ := gTrR_some q2
    obtain ⟨u1, u2, u3, u4, u5, u6, u7, u8, u9, u10, u11⟩ := h
    rw [ex, ey, es] at u3 u11
    have ew : gWc (tF S) (tP S) (tQ S) (tN S) (S (w + 6 + 4 * z + 0)) (S (w + 6 + 4 * z + 1)) (S (w + 1)) c = gWr (tF S) (tP S) (tQ S) (tN S) (S (w + 6 + 4 * z + 0)) (S (w + 6 + 4 * z + 1)) (S (w + 1)) c := by
      unfold gWc gWr; rw [inB_tt c1, inB_tt c2]
    rw [ew] at u3 u11
    rw [pce_eq, g3] at u4
    obtain ⟨p0, p1, p2, p3⟩ := goF_p (f := tF S) (p := tP S) (q := tQ S) (n1 := tN S) (s := S) (w := w) (n := z + 1) (k := kk) (x := S (w + 6 + 4 * z + 0)) (y := S (w + 6 + 4 * z + 1)) (c := c)
    have ek := knd_eq (w := gWr (tF S) (tP S) (tQ S) (tN S) (S (w + 6 + 4 * z + 0)) (S (w + 6 + 4 * z + 1)) (S (w + 1)) c) (bd_S hT.1.1 hT.2 (bd_inB hsx) (bd_inB hsy) (w := 2) (Or.inr rfl)) (bd_S hT.1.1 hT.2 (bd_inB c1) (bd_inB c2) (w := 2) (Or.inr rfl)) (by decide)
    rw [ek] at u11
    rw [inB_tt c1, inB_tt c2] at p3
    have old : ∀ p, p < z + 1 → ∀ e, e < 4 → goF (tF S) (tP S) (tQ S) (tN S) S w (z + 1) (S (w + 6 + 4 * z + 0)) (S (w + 6 + 4 * z + 1)) kk c (w + 6 + 4 * p + e) = S (w + 6 + 4 * p + e) := fun p hp e he => goF_o (by omega) (by omega) (by omega) (by omega)
    refine hQ l' i' hl u1 ⟨by show z + 2 ≤ 40; omega, u2, fun j hj => ?_, fun p hp e he => ?_, ?_⟩
    · rcases (show j = 0 ∨ j = 1 ∨ j = 2 ∨ j = 3 ∨ j = 4 ∨ j = 5 by omega) with rfl | rfl | rfl | rfl | rfl | rfl
      · exact u2.trans goF_w.symm
      · rw [goF_1]; exact u3
      · rw [goF_2 (by omega)]; exact u4
      · rw [goF_o (by omega) (by omega) (by omega) (by omega)]; exact u5.trans (r3 3 (by decide))
      · rw [goF_o (by omega) (by omega) (by omega) (by omega)]; exact u6.trans (r3 4 (by decide))
      · rw [goF_o (by omega) (by omega) (by omega) (by omega)]; exact u7.trans (r3 5 (by decide))
    · have hp2 : p < z + 2 := hp
      rcases (show e = 0 ∨ e = 1 ∨ e = 2 ∨ e = 3 by omega) with rfl | rfl | rfl | rfl
      · show i' (a + 1) p = _; rw [u8]
        by_cases hpe : p = z + 1
        · rw [if_pos hpe, hpe]; exact p0.symm
        · rw [if_neg hpe]; exact (r4 p (by omega) 0 (by decide)).trans (old p (by omega) 0 (by decide)).symm
      · show i' (a + 2) p = _; rw [u9]
        by_cases hpe : p = z + 1
        · rw [if_pos hpe, hpe]; exact p1.symm
        · rw [if_neg hpe]; exact (r4 p (by omega) 1 (by decide)).trans (old p (by omega) 1 (by decide)).symm
      · show i' (a + 3) p = _; rw [u10]
        by_cases hpe : p = z + 1
        · rw [if_pos hpe, hpe]; exact p2.symm
        · rw [if_neg hpe]; exact (r4 p (by omega) 2 (by decide)).trans (old p (by omega) 2 (by decide)).symm
      · show i' (a + 4) p = _; rw [u11]
        by_cases hpe : p = z + 1
        · rw [if_pos hpe, hpe]; exact p3.symm
        · rw [if_neg hpe]; exact (r4 p (by omega) 3 (by decide)).trans (old p (by omega) 3 (by decide)).symm
    · show goF _ _ _ _ _ _ _ _ _ _ _ (w + 3) = 0 ∨ goF _ _ _ _ _ _ _ _ _ _ _ (w + 3) = 1
      rw [goF_o (by omega) (by omega) (by omega) (by omega)]; exact v5
