set_option maxRecDepth 100000 in
set_option maxHeartbeats 4000000 in
theorem lp_X11_step {Γ : gG} {T : gTy} {r : gR} {l : gLg} {i : gI} {Q : gQ} {x n a M : Nat} {ws : Nat → Nat} {hs : Nat → Nat → Nat} {S : Nat → Int32} {P : Nat → Nat → Int32} (hX : lyX T r x ws hs) (hA : gN Γ ≤ x) (hM : M ≤ 40) (hQ : ∀ l' i', frC x i i' → rX i' x ws hs (wkR (23 + 166 * a) M S).1 P n → Q (some (.int (nI (wkR (23 + 166 * a) M S).2))) T r l' i') : ∀ d c F l1 i1, c + d = M → frC x i i1 → rX i1 x ws hs F P n → vS F → a < nW F → (wkR (23 + 166 * a) d F).1 = (wkR (23 + 166 * a) M S).1 → c + (wkR (23 + 166 * a) d F).2 = (wkR (23 + 166 * a) M S).2 → G Γ MX11_step 0 0 55 [(0, .ref x), (1, .int (nI a)), (2, .int (nI M)), (3, .ref (ws a)), (4, .int (nI c))] [] T r l1 i1 Q := by
  have hX2 := hX
  obtain ⟨x0, x1, x2, x3, x4, x5, x6, x7, x8, x9, x10⟩ := hX
  obtain ⟨s0, s1, s2, s3, s4, s5, s6⟩ := id x6
  have hB : lyC T r (x + 1) := ⟨s0, s1, s3, s4, s6⟩
  intro d
  induction d with
  | zero =>
    intro c F l1 i1 hk hi hr hSF ha e1 e2
    refine G_iload (pc := 55) 4 dX11_step_55 rfl ?_
    refine G_iload_n (pc := 57) 2 dX11_step_57 rfl ?_
    refine G_icmp_ge (pc := 58) (tgt := 89) dX11_step_58 (by decide) (fun h58 => ?_) (fun h58 => ?_)
    · refine G_iload (pc := 89) 4 dX11_step_89 rfl ?_
      refine G_iret (pc := 91) dX11_step_91 ⟨_, rfl, rfl⟩ ⟨by decide, by decide⟩ ?_
      rw [show c = (wkR (23 + 166 * a) M S).2 by rw [← e2]; rfl]
      exact hQ l1 i1 hi (by rw [← e1]; exact hr)
    · exact absurd (by rw [show M = c by omega]; exact Int32.le_refl _) h58
  | succ d ih =>
    intro c F l1 i1 hk hi hr hSF ha e1 e2
    have hz5 := nW_of hSF
    obtain ⟨w5, w1, wk⟩ := hz5
    obtain ⟨⟨z, hv⟩, hpar⟩ := wk a ha
    have hz40 := hv.2.1
    obtain ⟨f1, f2, f3, f4⟩ := stF hr.1 hSF
    have hw := wsF f2 ha hv
    obtain ⟨wr, hW, wlo, whi⟩ := s5.2.2.2.2.2.2.2.1 a (by omega)
    have hW0 := hW.1
    have g0 : i1 (ws a) 4 = F (23 + 166 * a) := hw.2.2.1 0 (by decide)
    have g3 : i1 (ws a) 7 = F (23 + 166 * a + 3) := hw.2.2.1 3 (by decide)
    by_cases hgs : gStop F (23 + 166 * a)
    · rw [wkR, if_pos hgs] at e1 e2
      refine G_iload (pc := 55) 4 dX11_step_55 rfl ?_
      refine G_iload_n (pc := 57) 2 dX11_step_57 rfl ?_
      refine G_icmp_ge (pc := 58) (tgt := 89) dX11_step_58 (by decide) (fun h58 => ?_) (fun h58 => ?_)
      · exact absurd h58 (nI_ge (by omega) (by omega))
      · refine G_aload_n (pc := 61) 3 dX11_step_61 rfl ?_
        refine gV0 (pc := 62) (k' := 0) (n' := 0) dX11_step_62 lkX11_205 ⟨by decide, by decide⟩ (Nat.le_of_ble_eq_true rfl) rfl rfl ⟨by decide, by decide⟩ hW0 (c_X9_condition hW0 ?_)
        dsimp only [gRt]
        rw [g3, g0, cond_eq hv]
        refine G_if_ne (pc := 65) (tgt := 89) dX11_step_65 (by decide) (fun h65 => ?_) (fun h65 => ?_)
        · refine G_iload (pc := 89) 4 dX11_step_89 rfl ?_
          refine G_iret (pc := 91) dX11_step_91 ⟨_, rfl, rfl⟩ ⟨by decide, by decide⟩ ?_
          rw [show c = (wkR (23 + 166 * a) M S).2 by rw [← e2]; rfl]
          exact hQ l1 i1 hi (by rw [← e1]; exact hr)
        · exact absurd h65 (gStop_1 hgs)
    · have hz := gStop_z hv hgs
      have hst0 := gStop_0 hgs
      rw [wkR, if_neg hgs] at e1 e2
      refine G_iload (pc := 55) 4 dX11_step_55 rfl ?_
      refine G_iload_n (pc := 57) 2 dX11_step_57 rfl ?_
      refine G_icmp_ge (pc := 58) (tgt := 89) dX11_step_58 (by decide) (fun h58 => ?_) (fun h58 => ?_)
      · exact absurd h58 (nI_ge (by omega) (by omega))
      · refine G_aload_n (pc := 61) 3 dX11_step_61 rfl ?_
        refine gV0 (pc := 62) (k' := 0) (n' := 0) dX11_step_62 lkX11_205 ⟨by decide, by decide⟩ (Nat.le_of_ble_eq_true rfl) rfl rfl ⟨by decide, by decide⟩ hW0 (c_X9_condition hW0 ?_)
        dsimp only [gRt]
        rw [g3, g0, cond_eq hv]
        refine G_if_ne (pc := 65) (tgt := 89) dX11_step_65 (by decide) (fun h65 => ?_) (fun h65 => ?_)
        · exact absurd hst0 h65
        · refine G_aload_n (pc := 68) 0 dX11_step_68 rfl ?_
          refine G_getR (pc := 69) dX11_step_69 fX11_26 (by assumption) (by assumption) ?_
          refine G_aload_n (pc := 72) 0 dX11_step_72 rfl ?_
          refine G_getR (pc := 73) dX11_step_73 fX11_10 (by assumption) (by assumption) ?_
          refine G_aload_n (pc := 76) 3 dX11_step_76 rfl ?_
          refine gV2 (pc := 77) (k' := 0) (n' := 0) dX11_step_77 lkX11_209 ⟨by decide, by decide⟩ (Nat.le_of_ble_eq_true rfl) rfl rfl ⟨by decide, by decide⟩ x8.1 (c_adv (v := x + 183) (b := x + 1) (w := 23 + 166 * a) (z := z) (S := F) x8 (by omega) hB hW (by omega) (by omega) (by omega) hSF.1 hSF.2.1 hv (by omega) hz f4 f3 hw ?_)
          intro l2 i2 hl2 hf2 hr2
          dsimp only [gRt]
          have hst := vS_st hSF ha hv hz
          have hfx : ∀ c, c ≠ x + 184 → (c < ws a ∨ ws a + 5 ≤ c) → i2 c = i1 c := fun c c1 c2 => hf2 c c1 c2
          have hi2 : frC x i i2 := hi.tr (fun c hc => hfx c (by omega) (by omega))
          have hr3 : rX i2 x ws hs (stR F (23 + 166 * a)).1 P n := hr.hist hX2 (fun c c1 c2 => hfx c (by omega) (by omega)) (stX (v := x + 183) (b := x + 1) hr.1 x6 (by omega) (by omega) (fun d d1 d2 => hf2 d d1 d2) hr2 (fun j hj => stR_o hv hz (by omega)))
          refine G_if_eq (pc := 80) (tgt := 89) dX11_step_80 (by decide) (fun h80 => ?_) (fun h80 => ?_)
          · have hb := gB_eq.mp h80
            rw [if_neg hb] at e1 e2
            refine G_iload (pc := 89) 4 dX11_step_89 rfl ?_
            refine G_iret (pc := 91) dX11_step_91 ⟨_, rfl, rfl⟩ ⟨by decide, by decide⟩ ?_
            rw [show c = (wkR (23 + 166 * a) M S).2 by rw [← e2]; rfl]
            exact hQ l2 i2 hi2 (by rw [← e1]; exact hr3)
          · have hb := gB_ne.mp h80
            rw [if_pos hb] at e1 e2 hr2
            refine G_inc4 (pc := 83) (v := 1) dX11_step_83 rfl (by decide) rfl ?_
            refine G_goto (pc := 86) (tgt := 55) dX11_step_86 (by decide) ?_
            rw [nI_1]
            exact ih (c + 1) _ l2 i2 (by omega) hi2 hr3 hst.1 (by rw [hst.2]; exact ha) e1 (by rw [← e2]; show c + 1 + _ = c + (_ + 1); omega)
set_option maxRecDepth 100000 in
set_option maxHeartbeats 4000000 in
theorem c_X11_step {Γ : gG} {T : gTy} {r : gR} {l : gLg} {i : gI} {Q : gQ} {x n : Nat} {ws : Nat → Nat} {hs : Nat → Nat → Nat} {S : Nat → Int32} {P : Nat → Nat → Int32} {w k : Int32} (hX : lyX T r x ws hs) (hA : gN Γ ≤ x) (hRX : rX i x ws hs S P n) (hS : vS S) (hQ : ∀ l' i', frC x i i' → rX i' x ws hs (nxS S (aStep S w k).2) (nxP n P S (aStep S w k).2) (nxN n (aStep S w k).2) → Q (some (.int (aStep S w k).1)) T r l' i') : gC Γ MX11_step [.ref x, .int w, .int k] T r l i Q := by
  have hX2 := hX
  have hR := hRX.1
  obtain ⟨x0, x1, x2, x3, x4, x5, x6, x7, x8, x9, x10⟩ := hX
  obtain ⟨s0, s1, s2, s3, s4, s5, s6⟩ := id x6
  obtain ⟨t0, t1, t2, t3, t4, t5, t6⟩ := id s4
  obtain ⟨f1, f2, f3, f4⟩ := stF hR hS
  have hT := hS.1
  have hE := hS.2.1
  have hn6 := hT.1.1
  have hn3 := f1.2.1
  obtain ⟨w5, w1, wk⟩ := nW_of hS
  have x7k := x7.1
  have s5k := s5.1
  refine gC_of rfl (Nat.le_of_ble_eq_true rfl) (L := [(0, .ref x), (1, .int w), (2, .int k)]) rfl ?_
  refine G_aload_n (pc := 0) 0 dX11_step_0 rfl ?_
  refine G_getR (pc := 1) dX11_step_1 fX11_10 (by assumption) (by assumption) ?_
  refine G_getR (pc := 4) dX11_step_4 fX11_70 (by assumption) (by assumption) ?_
  refine G_iload_n (pc := 7) 1 dX11_step_7 rfl ?_
  refine gV1 (pc := 8) (k' := 0) (n' := 0) dX11_step_8 lkX11_163 ⟨by decide, by decide⟩ (Nat.le_of_ble_eq_true rfl) rfl rfl ⟨by decide, by decide⟩ s5.1 (c_X10_at s5 f2.2.1 w5 ?_ ?_)
  · intro a ha haw
    subst haw
    obtain ⟨⟨z, hv⟩, hpar⟩ := wk a ha
    have hz40 := hv.2.1
    have hw := wsF f2 ha hv
    obtain ⟨wr, hW, wlo, whi⟩ := s5.2.2.2.2.2.2.2.1 a (by omega)
    have hW0 := hW.1
    have hw4 := hw.2.1
    obtain ⟨q0, q1, q2, q3, q4, q5, q6, q7, q8⟩ := id hW
    have rows := hw.2.2.2.1
    dsimp only [gRt]
    refine G_sn3 (pc := 11) (gSt_an dX11_step_11 rfl (by decide)) rfl ?_
    refine G_aload_n (pc := 12) 3 dX11_step_12 rfl ?_
    refine G_ifnull (pc := 13) dX11_step_13 ?_
    refine G_iload_n (pc := 16) 2 dX11_step_16 rfl ?_
    refine G_i2l (pc := 17) dX11_step_17 ?_
    refine G_lconst (pc := 18) (v := 1) dX11_step_18 rfl ?_
    refine G_ldc2 (pc := 19) dX11_step_19 kcX11_203 ?_
    refine gS3 (pc := 22) (k' := 0) (n' := 0) dX11_step_22 lkX11_48 ⟨by decide, by decide⟩ (Nat.le_of_ble_eq_true rfl) rfl rfl ⟨by decide, by decide⟩ (c_X11_isWithin ?_)
    dsimp only [gRt]
    refine G_if_ne (pc := 25) (tgt := 31) dX11_step_25 (by decide) (fun h25 => ?_) (fun h25 => ?_)
    · refine G_aload_n (pc := 31) 3 dX11_step_31 rfl ?_
      refine gV0 (pc := 32) (k' := 0) (n' := 0) dX11_step_32 lkX11_205 ⟨by decide, by decide⟩ (Nat.le_of_ble_eq_true rfl) rfl rfl ⟨by decide, by decide⟩ hW0 (c_X9_condition hW0 ?_)
      dsimp only [gRt]
      have g0 : i (ws a) 4 = S (23 + 166 * a) := hw.2.2.1 0 (by decide)
      have g3 : i (ws a) 7 = S (23 + 166 * a + 3) := hw.2.2.1 3 (by decide)
      rw [g3, g0, cond_eq hv]
      have gA : inI (nI a) 0 (S 1 - 1) := by rw [w1]; exact (isW (by omega)).mpr ⟨a, ha, rfl⟩
      have hin := wi40.mp (gB_ne.mp h25)
      obtain ⟨M, M1, M40, rfl⟩ := inI_nat (a := 1) (b := 40) (by decide) (by decide) hin
      replace hQ := aDoneX hQ (show aStep S (nI a) (nI M) = (if gStop S (23 + 166 * a) then (-1000002, none) else (nI (wkR (23 + 166 * a) M S).2, some (wkR (23 + 166 * a) M S).1)) by unfold aStep; rw [if_pos ⟨gA, hin⟩, nI_clamp (by omega), nI_clamp (by omega)])
      refine G_if_eq (pc := 35) (tgt := 41) dX11_step_35 (by decide) (fun h35 => ?_) (fun h35 => ?_)
      · refine G_aload_n (pc := 41) 0 dX11_step_41 rfl ?_
        refine G_getR (pc := 42) dX11_step_42 fX11_19 (by assumption) (by assumption) ?_
        refine G_aload_n (pc := 45) 0 dX11_step_45 rfl ?_
        refine G_getR (pc := 46) dX11_step_46 fX11_10 (by assumption) (by assumption) ?_
        refine gV1 (pc := 49) (k' := 0) (n' := 0) dX11_step_49 lkX11_66 ⟨by decide, by decide⟩ (Nat.le_of_ble_eq_true rfl) rfl rfl ⟨by decide, by decide⟩ x7k (c_keepX hX2 hA hRX ?_)
        intro i1 k1 k2
        dsimp only [gRt]
        refine G_iconst (pc := 52) (v := 0) dX11_step_52 rfl ?_
        refine G_sn4 (pc := 53) (gSt_i dX11_step_53 (by decide)) rfl ?_
        have hgs : ¬ gStop S (23 + 166 * a) := fun u => gStop_1 u h35
        rw [if_neg hgs] at hQ
        exact lp_X11_step (l := l) (i := i) (n := psN n) (P := psP n P S) hX2 hA M40 (fun l' i' g1 g2 => hQ l' i' g1 g2) M 0 S l i1 (Nat.zero_add M) (frC.of k1 (by omega) (by omega)) k2 hS ha rfl (Nat.zero_add _)
      · refine G_ldc (pc := 38) dX11_step_38 kcX11_91 ?_
        refine G_iret (pc := 40) dX11_step_40 ⟨_, rfl, rfl⟩ ⟨by decide, by decide⟩ ?_
        have hgs : gStop S (23 + 166 * a) := Classical.byContradiction (fun u => h35 (gStop_0 u))
        rw [if_pos hgs] at hQ
        exact hQ l i frC.rf hRX
    · refine G_ldc (pc := 28) dX11_step_28 kcX11_52 ?_
      refine G_iret (pc := 30) dX11_step_30 ⟨_, rfl, rfl⟩ ⟨by decide, by decide⟩ ?_
      replace hQ := aDoneX hQ (show aStep S (nI a) k = (-1000001, none) from if_neg (fun z => gB_eq.mp h25 (wi40.mpr z.2)))
      exact hQ l i frC.rf hRX
  · intro hno
    have hnw : ¬ inI w 0 (S 1 - 1) := fun u => by
      obtain ⟨k9, k1, k2⟩ := (isW (m := nW S) (by omega)).mp (w1 ▸ u)
      exact hno k9 k1 k2
    dsimp only [gRt]
    refine G_sn3 (pc := 11) (gSt_anN dX11_step_11 rfl (by decide)) rfl ?_
    refine G_aload_nN (pc := 12) 3 dX11_step_12 rfl ?_
    refine G_ifnullN (pc := 13) (tgt := 28) dX11_step_13 (by decide) ?_
    refine G_ldc (pc := 28) dX11_step_28 kcX11_52 ?_
    refine G_iret (pc := 30) dX11_step_30 ⟨_, rfl, rfl⟩ ⟨by decide, by decide⟩ ?_
    replace hQ := aDoneX hQ (show aStep S w k = (-1000001, none) from if_neg (fun z => hnw z.1))
    exact hQ l i frC.rf hRX
