/-! dropTerm, step -/
theorem rmX_rp {i i' : gI} {b n k : Nat} {ws : Nat → Nat} {S : Nat → Int32} (h1 : rpT i (b + 1) S (n + 1)) (h3 : rpS i (b + 34) S) (hn : n < 6) (hk : k ≤ n) (g : rmI (up2 i (b + 5) 3 0) i' (b + 1) n k n) : rpSt i' b ws (rmF S n k) := by
  obtain ⟨g1, g2, g3⟩ := g
  have e0 : rmF S n k 0 = nI n := by unfold rmF; rw [upd_o (by decide), sh3_r (by omega), upd_s]
  have e1 : rmF S n k 1 = nI 0 := by unfold rmF; rw [upd_s]; rfl
  refine ⟨n, 0, ⟨by omega, g2, e0, fun j hj c hc => ?_⟩, ⟨by decide, ?_, e1, fun k hk => absurd hk (Nat.not_lt_zero k)⟩, fun c hc => ?_⟩
  · rw [g3 j c hc]
    unfold rmF
    rw [upd_o (by omega)]
    unfold sh3
    by_cases h : k ≤ j ∧ j < n
    · rw [if_pos h, if_pos (by omega), upd_o (by omega), up2_ne (by omega), h1.2.2.2 (j + 1) (by omega) c hc, show 5 + 3 * (j + 1) + c = 5 + 3 * j + c + 3 by omega]
    · rw [if_neg h, if_neg (by omega), upd_o (by omega), up2_ne (by omega), h1.2.2.2 j (by omega) c hc]
  · rw [g1 (b + 5) (by omega), up2_self]; rfl
  · rw [g1 (b + 34 + 1) (by omega), up2_ne (by omega), h3 c hc]
    unfold rmF
    rw [upd_o (by omega), sh3_r (by omega), upd_o (by omega)]
set_option maxRecDepth 100000 in
set_option maxHeartbeats 4000000 in
theorem c_X11_dropTerm {Γ : gG} {T : gTy} {r : gR} {l : gLg} {i : gI} {Q : gQ} {x n : Nat} {ws : Nat → Nat} {hs : Nat → Nat → Nat} {S : Nat → Int32} {P : Nat → Nat → Int32} {k : Int32} (hX : lyX T r x ws hs) (hA : gN Γ ≤ x) (hRX : rX i x ws hs S P n) (hS : vS S) (hQ : ∀ l' i', frC x i i' → rX i' x ws hs (nxS S (aDropT S k).2) (nxP n P S (aDropT S k).2) (nxN n (aDropT S k).2) → Q (some (.int (aDropT S k).1)) T r l' i') : gC Γ MX11_dropTerm [.ref x, .int k] T r l i Q := by
  have hX2 := hX
  have hR := hRX.1
  obtain ⟨x0, x1, x2, x3, x4, x5, x6, x7, x8, x9, x10⟩ := hX
  obtain ⟨s0, s1, s2, s3, s4, s5, s6⟩ := id x6
  obtain ⟨t0, t1, t2, t3, t4, t5, t6⟩ := id s4
  obtain ⟨f1, f2, f3, f4⟩ := stF hR hS
  have hT := hS.1
  have hE := hS.2.1
  have hn6 := hT.1.1
  have hn3 := f1.2.1
  obtain ⟨w5, w1, wk⟩ := nW_of hS
  have x7k := x7.1
  have s5k := s5.1
  refine gC_of rfl (Nat.le_of_ble_eq_true rfl) (L := [(0, .ref x), (1, .int k)]) rfl ?_
  refine G_iload_n (pc := 0) 1 dX11_dropTerm_0 rfl ?_
  refine G_if_ge (pc := 1) (tgt := 7) dX11_dropTerm_1 (by decide) (fun h1 => ?_) (fun h1 => ?_)
  · refine G_aload_n (pc := 7) 0 dX11_dropTerm_7 rfl ?_
    refine G_getR (pc := 8) dX11_dropTerm_8 fX11_10 (by assumption) (by assumption) ?_
    refine G_getR (pc := 11) dX11_dropTerm_11 fX11_55 (by assumption) (by assumption) ?_
    refine G_iload_n (pc := 14) 1 dX11_dropTerm_14 rfl ?_
    refine gV1 (pc := 15) (k' := 0) (n' := 0) dX11_dropTerm_15 lkX11_87 ⟨by decide, by decide⟩ (Nat.le_of_ble_eq_true rfl) rfl rfl ⟨by decide, by decide⟩ s4.1 (c_X7_has s4.1 ?_)
    dsimp only [gRt]
    refine G_if_ne (pc := 18) (tgt := 24) dX11_dropTerm_18 (by decide) (fun h18 => ?_) (fun h18 => ?_)
    · refine G_aload_n (pc := 24) 0 dX11_dropTerm_24 rfl ?_
      refine G_getR (pc := 25) dX11_dropTerm_25 fX11_19 (by assumption) (by assumption) ?_
      refine G_aload_n (pc := 28) 0 dX11_dropTerm_28 rfl ?_
      refine G_getR (pc := 29) dX11_dropTerm_29 fX11_10 (by assumption) (by assumption) ?_
      refine gV1 (pc := 32) (k' := 0) (n' := 0) dX11_dropTerm_32 lkX11_66 ⟨by decide, by decide⟩ (Nat.le_of_ble_eq_true rfl) rfl rfl ⟨by decide, by decide⟩ x7k (c_keepX hX2 hA hRX ?_)
      intro i1 k1 k2
      dsimp only [gRt]
      refine G_aload_n (pc := 35) 0 dX11_dropTerm_35 rfl ?_
      refine G_getR (pc := 36) dX11_dropTerm_36 fX11_10 (by assumption) (by assumption) ?_
      refine G_getR (pc := 39) dX11_dropTerm_39 fX11_70 (by assumption) (by assumption) ?_
      refine gV0 (pc := 42) (k' := 0) (n' := 0) dX11_dropTerm_42 lkX11_74 ⟨by decide, by decide⟩ (Nat.le_of_ble_eq_true rfl) rfl rfl ⟨by decide, by decide⟩ s5k (c_X10_clear s5.1 (by omega) ?_)
      dsimp only [gRt]
      refine G_aload_n (pc := 45) 0 dX11_dropTerm_45 rfl ?_
      refine G_getR (pc := 46) dX11_dropTerm_46 fX11_10 (by assumption) (by assumption) ?_
      refine G_getR (pc := 49) dX11_dropTerm_49 fX11_55 (by assumption) (by assumption) ?_
      refine G_iload_n (pc := 52) 1 dX11_dropTerm_52 rfl ?_
      have hin := gB_ne.mp h18
      rw [hn3] at hin
      obtain ⟨j, hj, rfl⟩ : ∃ j, j < tN S ∧ k = nI j := by
        rcases pk_ix k (n := tN S) (by omega) with z | z | z
        · exact absurd z hin.1
        · exact absurd z hin.2
        · exact z
      obtain ⟨b, hb⟩ : ∃ b, tN S = b + 1 := ⟨tN S - 1, by omega⟩
      obtain ⟨j1, j2, j3, j4⟩ := stF k2.1 hS
      rw [hb] at j1
      refine gV1 (pc := 53) (k' := 0) (n' := 0) dX11_dropTerm_53 lkX11_92 ⟨by decide, by decide⟩ (Nat.le_of_ble_eq_true rfl) rfl rfl ⟨by decide, by decide⟩ s4.1 (c_X7_remove (n := b) s4 (by omega) (by rw [up2_ne (by omega)]; exact j1.2.1) (by omega) (by omega) ?_)
      intro i2 g
      dsimp only [gRt]
      refine G_iret (pc := 56) dX11_dropTerm_56 ⟨_, rfl, rfl⟩ ⟨by decide, by decide⟩ ?_
      replace hQ := aDoneX hQ (show aDropT S (nI j) = (S (5 + 3 * j), some (rmF S b j)) by unfold aDropT; rw [if_neg (Int32.not_lt.mpr h1), hb, if_neg (nI_ge (by omega) (by omega)), nI_clamp (by omega)]; rfl)
      have ev : up2 i1 (x + 1 + 5) 3 0 (x + 1 + 1 + 1) j = S (5 + 3 * j) := by rw [up2_ne (by omega)]; exact j1.2.2.2 j (by omega) 0 (by decide)
      rw [ev]
      have hf : ∀ c, (c < x + 1 + 1 ∨ x + 1 + 1 + 4 ≤ c) → c ≠ x + 1 + 5 → i2 c = i1 c := fun c c1 c2 => (g.1 c c1).trans (up2_ne c2)
      exact hQ l _ ((frC.of k1 (by omega) (by omega)).tr (fun c hc => hf c (by omega) (by omega))) (k2.hist hX2 (fun c c1 c2 => hf c (by omega) (by omega)) (rmX_rp j1 j3 (by omega) (by omega) g))
    · refine G_ldc (pc := 21) dX11_dropTerm_21 kcX11_91 ?_
      refine G_iret (pc := 23) dX11_dropTerm_23 ⟨_, rfl, rfl⟩ ⟨by decide, by decide⟩ ?_
      have hle : nI (tN S) ≤ k := by
        have := gB_eq.mp h18
        rw [hn3] at this
        exact Classical.byContradiction (fun z => this ⟨Int32.not_lt.mpr h1, z⟩)
      replace hQ := aDoneX hQ (show aDropT S k = (-1000002, none) by unfold aDropT; rw [if_neg (Int32.not_lt.mpr h1), if_pos hle])
      exact hQ l i frC.rf hRX
  · refine G_ldc (pc := 4) dX11_dropTerm_4 kcX11_52 ?_
    refine G_iret (pc := 6) dX11_dropTerm_6 ⟨_, rfl, rfl⟩ ⟨by decide, by decide⟩ ?_
    replace hQ := aDoneX hQ (show aDropT S k = (-1000001, none) from if_pos (Int32.not_le.mp h1))
    exact hQ l i frC.rf hRX
theorem vS_st {F : Nat → Int32} {a z : Nat} (h : vS F) (ha : a < nW F) (hv : vW F (23 + 166 * a) z) (hz : z + 1 < 40) : vS (stR F (23 + 166 * a)).1 ∧ nW (stR F (23 + 166 * a)).1 = nW F := by
  obtain ⟨w5, w1, wk⟩ := nW_of h
  have e1 : (stR F (23 + 166 * a)).1 1 = F 1 := stR_h hv hz (by omega) (by decide)
  have h2 := stR_T hv hz (by omega) h.1 h.2.1
  refine ⟨⟨h2.1, h2.2, nW F, w5, e1.trans w1, fun k hk => ?_⟩, by unfold nW; rw [e1]⟩
  obtain ⟨⟨y, hy⟩, hp⟩ := wk k hk
  by_cases hka : k = a
  · subst hka
    exact ⟨⟨_, stR_v h.2.1 (by omega) hv hz⟩, by rw [stR_o hv hz (by omega)]; exact hp⟩
  · exact ⟨⟨y, hy.eq (fun j hj => stR_o hv hz (by omega))⟩, by rw [stR_o hv hz (by omega)]; exact hp⟩
theorem stX {T : gTy} {r : gR} {i i' : gI} {b v a m : Nat} {ws : Nat → Nat} {F F' : Nat → Int32} (h : rpSt i b ws F) (hl : lySt T r b ws) (hbv : b + 36 ≤ v) (ha : a < 5) (hf : ∀ d, d ≠ v + 1 → (d < ws a ∨ ws a + 5 ≤ d) → i' d = i d) (hw : rpW i' (ws a) F' (23 + 166 * a) m) (he : ∀ j, (j < 23 + 166 * a ∨ 23 + 166 * a + 166 ≤ j) → F' j = F j) : rpSt i' b ws F' := by
  obtain ⟨n, k, h1, h2, h3⟩ := h
  have h8 := hl.2.2.2.2.2.1.2.2.2.2.2.2.2
  obtain ⟨_, _, a1, a2⟩ := h8.1 a ha
  refine ⟨n, k, ⟨h1.1, ?_, ?_, fun q hq c hc => ?_⟩, ⟨h2.1, ?_, ?_, fun q hq => ?_⟩, fun c hc => ?_⟩
  · rw [hf _ (by omega) (by omega)]; exact h1.2.1
  · rw [he _ (by omega)]; exact h1.2.2.1
  · have := h1.1
    rw [hf _ (by omega) (by omega), he _ (by omega)]; exact h1.2.2.2 q hq c hc
  · rw [hf _ (by omega) (by omega)]; exact h2.2.1
  · rw [he _ (by omega)]; exact h2.2.2.1
  · by_cases hqa : q = a
    · subst hqa; exact ⟨m, hw⟩
    · obtain ⟨y, hy⟩ := h2.2.2.2 q hq
      have hq5 : q < 5 := by have := h2.1; omega
      obtain ⟨_, _, b1, b2⟩ := h8.1 q hq5
      have hd := h8.2 q a hq5 ha hqa
      have he2 : ∀ j, j < 166 → F' (23 + 166 * q + j) = F (23 + 166 * q + j) := fun j hj => he _ (by omega)
      refine ⟨y, hy.1, ?_, fun j hj => ?_, fun p hp c hc => ?_, ?_⟩
      · rw [hf _ (by omega) (by omega)]; exact hy.2.1
      · rw [hf _ (by omega) (by omega), he2 j (by omega)]; exact hy.2.2.1 j hj
      · have := hy.1
        rw [hf _ (by omega) (by omega), show 23 + 166 * q + 6 + 4 * p + c = 23 + 166 * q + (6 + 4 * p + c) by omega, he2 _ (by omega), hy.2.2.2.1 p hp c hc, show 23 + 166 * q + 6 + 4 * p + c = 23 + 166 * q + (6 + 4 * p + c) by omega]
      · rw [he2 3 (by decide)]; exact hy.2.2.2.2
  · rw [hf _ (by omega) (by omega), he _ (by omega)]; exact h3 c hc
