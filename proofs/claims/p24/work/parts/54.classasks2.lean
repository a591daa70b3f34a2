set_option maxRecDepth 100000 in
set_option maxHeartbeats 4000000 in
theorem c_X11_corrected {Γ : gG} {T : gTy} {r : gR} {l : gLg} {i : gI} {Q : gQ} {x : Nat} {ws : Nat → Nat} {hs : Nat → Nat → Nat} {S : Nat → Int32} {u v w : Int32} (hX : lyX T r x ws hs) (hA : gN Γ ≤ x) (hR : rpSt i (x + 1) ws S) (hS : vS S) (hQ : ∀ l' i', (∀ d, d ≠ x + 184 → i' d = i d) → Q (some (.int (aCorr S u v w))) T r l' i') : gC Γ MX11_corrected [.ref x, .int u, .int v, .int w] T r l i Q := by
  obtain ⟨x0, x1, x2, x3, x4, x5, x6, x7, x8, x9, x10⟩ := hX
  obtain ⟨s0, s1, s2, s3, s4, s5, s6⟩ := id x6
  obtain ⟨t0, t1, t2, t3, t4, t5, t6⟩ := id s4
  obtain ⟨f1, f2, f3, f4⟩ := stF hR hS
  have hT := hS.1
  have hE := hS.2.1
  have hn6 := hT.1.1
  have hn3 := f1.2.1
  obtain ⟨w5, w1, wk⟩ := nW_of hS
  obtain ⟨v0, v1, v2, v3, v4⟩ := id x8
  have v1 : r (x + 183) 0 = some (x + 184) := v1
  have v3 : lyCo T r (x + 184) := v3
  have hB : lyC T r (x + 1) := ⟨s0, s1, s3, s4, s6⟩
  have g4 : i (x + 1 + 35) 2 = nI (tM S) := (f3 2 (by decide)).trans hE.2.2.2.2
  have m20 := hE.2.2.2.1
  refine gC_of rfl (Nat.le_of_ble_eq_true rfl) (L := [(0, .ref x), (1, .int u), (2, .int v), (3, .int w)]) rfl ?_
  refine G_iload_n (pc := 0) 1 dX11_corrected_0 rfl ?_
  refine G_i2l (pc := 1) dX11_corrected_1 ?_
  refine G_iload_n (pc := 2) 2 dX11_corrected_2 rfl ?_
  refine G_i2l (pc := 3) dX11_corrected_3 ?_
  refine gS2 (pc := 4) (k' := 0) (n' := 0) dX11_corrected_4 lkX11_109 ⟨by decide, by decide⟩ (Nat.le_of_ble_eq_true rfl) rfl rfl ⟨by decide, by decide⟩ (c_X11_isPlace ?_)
  dsimp only [gRt]
  refine G_if_eq (pc := 7) (tgt := 22) dX11_corrected_7 (by decide) (fun h7 => ?_) (fun h7 => ?_)
  · refine G_ldc (pc := 22) dX11_corrected_22 kcX11_52 ?_
    refine G_iret (pc := 24) dX11_corrected_24 ⟨_, rfl, rfl⟩ ⟨by decide, by decide⟩ ?_
    replace hQ := hQ l i (fun _ _ => rfl)
    rw [show aCorr S u v w = -1000001 from if_neg (fun z => gB_eq.mp h7 ⟨inI_inB.mp z.1, inI_inB.mp z.2.1⟩)] at hQ
    exact hQ
  · refine G_iload_n (pc := 10) 3 dX11_corrected_10 rfl ?_
    refine G_i2l (pc := 11) dX11_corrected_11 ?_
    refine G_lconst (pc := 12) (v := 0) dX11_corrected_12 rfl ?_
    refine G_ldc2 (pc := 13) dX11_corrected_13 kcX11_96 ?_
    refine gS3 (pc := 16) (k' := 0) (n' := 0) dX11_corrected_16 lkX11_48 ⟨by decide, by decide⟩ (Nat.le_of_ble_eq_true rfl) rfl rfl ⟨by decide, by decide⟩ (c_X11_isWithin ?_)
    dsimp only [gRt]
    refine G_if_ne (pc := 19) (tgt := 25) dX11_corrected_19 (by decide) (fun h19 => ?_) (fun h19 => ?_)
    · refine G_aload_n (pc := 25) 0 dX11_corrected_25 rfl ?_
      refine G_getR (pc := 26) dX11_corrected_26 fX11_26 (by assumption) (by assumption) ?_
      refine G_getR (pc := 29) dX11_corrected_29 fX11_137 (by assumption) (by assumption) ?_
      refine G_sn4 (pc := 32) (gSt_a dX11_corrected_32 (by decide)) rfl ?_
      refine G_aload (pc := 34) 4 dX11_corrected_34 rfl ?_
      refine G_aload_n (pc := 36) 0 dX11_corrected_36 rfl ?_
      refine G_getR (pc := 37) dX11_corrected_37 fX11_10 (by assumption) (by assumption) ?_
      refine G_iload_n (pc := 40) 1 dX11_corrected_40 rfl ?_
      refine G_i2l (pc := 41) dX11_corrected_41 ?_
      refine G_iload_n (pc := 42) 2 dX11_corrected_42 rfl ?_
      refine G_i2l (pc := 43) dX11_corrected_43 ?_
      have hok : okC u v w := ⟨inI_inB.mpr (gB_ne.mp h7).1, inI_inB.mpr (gB_ne.mp h7).2, wi02.mp (gB_ne.mp h19)⟩
      rw [show aCorr S u v w = aCor w (gCor (tF S) (tP S) (tQ S) (tN S) (tM S) 0 u.toInt64 v.toInt64) from if_pos hok] at hQ
      refine gV3 (pc := 44) (k' := 0) (n' := 0) dX11_corrected_44 lkX11_141 ⟨by decide, by decide⟩ (Nat.le_of_ble_eq_true rfl) rfl rfl ⟨by decide, by decide⟩ v3.1 (c_X0_correct (b := x + 1) (c := x + 184) (f := tF S) (p := tP S) (q := tQ S) (n := tN S) (m := tM S) hB v3 (by omega) f4 g4 (by omega) ?_ ?_)
      · intro hc l1 hl1
        rw [hc] at hQ
        dsimp only [gRt]
        refine G_if_ne (pc := 47) (tgt := 53) dX11_corrected_47 (by decide) (fun h47 => ?_) (fun h47 => ?_)
        · exact absurd rfl h47
        · refine G_ldc (pc := 50) dX11_corrected_50 kcX11_98 ?_
          refine G_iret (pc := 52) dX11_corrected_52 ⟨_, rfl, rfl⟩ ⟨by decide, by decide⟩ ?_
          replace hQ := hQ l1 i (fun _ _ => rfl)
          exact hQ
      · intro X Y rd hc l1 hl1 _ _
        rw [hc] at hQ
        generalize hcc : (X, Y, rd) = c at hQ
        obtain ⟨rfl, rfl, rfl⟩ : X = c.1 ∧ Y = c.2.1 ∧ rd = c.2.2 := by rw [← hcc]; exact ⟨rfl, rfl, rfl⟩
        have ec : ∀ d, d ≠ x + 184 → cr3 i (x + 184) c.1.toInt32 c.2.1.toInt32 (nI c.2.2) d = i d := fun d hd => by unfold cr3; simp (disch := omega) only [up2_ne]
        have c1 : cr3 i (x + 184) c.1.toInt32 c.2.1.toInt32 (nI c.2.2) (x + 184) 1 = c.1.toInt32 := by unfold cr3; simp (disch := omega) only [up2_row, up2_self]
        have c2 : cr3 i (x + 184) c.1.toInt32 c.2.1.toInt32 (nI c.2.2) (x + 184) 2 = c.2.1.toInt32 := by unfold cr3; simp (disch := omega) only [up2_row, up2_self]
        have c3 : cr3 i (x + 184) c.1.toInt32 c.2.1.toInt32 (nI c.2.2) (x + 184) 3 = nI c.2.2 := by unfold cr3; simp (disch := omega) only [up2_self]
        have v3k := v3.1
        dsimp only [gRt]
        refine G_if_ne (pc := 47) (tgt := 53) dX11_corrected_47 (by decide) (fun h47 => ?_) (fun h47 => ?_)
        · refine G_iload_n (pc := 53) 3 dX11_corrected_53 rfl ?_
          obtain ⟨e, _, e2, rfl⟩ := inI_nat (a := 0) (b := 2) (by decide) (by decide) hok.2.2
          rcases (show e = 0 ∨ e = 1 ∨ e = 2 by omega) with rfl | rfl | rfl
          · refine G_lookup (pc := 54) (tgt := 80) dX11_corrected_54 (by decide) rfl (by decide) ?_
            refine G_aload (pc := 80) 4 dX11_corrected_80 rfl ?_
            refine G_getI (pc := 82) dX11_corrected_82 fX11_147 (by assumption) ?_
            rw [c1]
            refine G_iret (pc := 85) dX11_corrected_85 ⟨_, rfl, rfl⟩ ⟨by decide, by decide⟩ ?_
            replace hQ := hQ l1 (cr3 i (x + 184) c.1.toInt32 c.2.1.toInt32 (nI c.2.2)) ec
            exact hQ
          · refine G_lookup (pc := 54) (tgt := 86) dX11_corrected_54 (by decide) rfl (by decide) ?_
            refine G_aload (pc := 86) 4 dX11_corrected_86 rfl ?_
            refine G_getI (pc := 88) dX11_corrected_88 fX11_150 (by assumption) ?_
            rw [c2]
            refine G_iret (pc := 91) dX11_corrected_91 ⟨_, rfl, rfl⟩ ⟨by decide, by decide⟩ ?_
            replace hQ := hQ l1 (cr3 i (x + 184) c.1.toInt32 c.2.1.toInt32 (nI c.2.2)) ec
            exact hQ
          · refine G_lookup (pc := 54) (tgt := 92) dX11_corrected_54 (by decide) rfl (by decide) ?_
            refine G_aload (pc := 92) 4 dX11_corrected_92 rfl ?_
            refine G_getI (pc := 94) dX11_corrected_94 fX11_153 (by assumption) ?_
            rw [c3]
            refine G_iret (pc := 97) dX11_corrected_97 ⟨_, rfl, rfl⟩ ⟨by decide, by decide⟩ ?_
            replace hQ := hQ l1 (cr3 i (x + 184) c.1.toInt32 c.2.1.toInt32 (nI c.2.2)) ec
            exact hQ
        · exact absurd h47 (by decide)
    · refine G_ldc (pc := 22) dX11_corrected_22 kcX11_52 ?_
      refine G_iret (pc := 24) dX11_corrected_24 ⟨_, rfl, rfl⟩ ⟨by decide, by decide⟩ ?_
      replace hQ := hQ l i (fun _ _ => rfl)
      rw [show aCorr S u v w = -1000001 from if_neg (fun z => gB_eq.mp h19 (wi02.mpr z.2.2))] at hQ
      exact hQ
set_option maxRecDepth 100000 in
set_option maxHeartbeats 4000000 in
theorem c_X11_placeOf {Γ : gG} {T : gTy} {r : gR} {l : gLg} {i : gI} {Q : gQ} {x : Nat} {ws : Nat → Nat} {hs : Nat → Nat → Nat} {S : Nat → Int32} {w p c : Int32} (hX : lyX T r x ws hs) (hA : gN Γ ≤ x) (hR : rpSt i (x + 1) ws S) (hS : vS S) (hQ : Q (some (.int (aPlaceOf S w p c))) T r l i) : gC Γ MX11_placeOf [.ref x, .int w, .int p, .int c] T r l i Q := by
  obtain ⟨x0, x1, x2, x3, x4, x5, x6, x7, x8, x9, x10⟩ := hX
  obtain ⟨s0, s1, s2, s3, s4, s5, s6⟩ := id x6
  obtain ⟨t0, t1, t2, t3, t4, t5, t6⟩ := id s4
  obtain ⟨f1, f2, f3, f4⟩ := stF hR hS
  have hT := hS.1
  have hE := hS.2.1
  have hn6 := hT.1.1
  have hn3 := f1.2.1
  obtain ⟨w5, w1, wk⟩ := nW_of hS
  refine gC_of rfl (Nat.le_of_ble_eq_true rfl) (L := [(0, .ref x), (1, .int w), (2, .int p), (3, .int c)]) rfl ?_
  refine G_aload_n (pc := 0) 0 dX11_placeOf_0 rfl ?_
  refine G_getR (pc := 1) dX11_placeOf_1 fX11_10 (by assumption) (by assumption) ?_
  refine G_getR (pc := 4) dX11_placeOf_4 fX11_70 (by assumption) (by assumption) ?_
  refine G_iload_n (pc := 7) 1 dX11_placeOf_7 rfl ?_
  refine gV1 (pc := 8) (k' := 0) (n' := 0) dX11_placeOf_8 lkX11_163 ⟨by decide, by decide⟩ (Nat.le_of_ble_eq_true rfl) rfl rfl ⟨by decide, by decide⟩ s5.1 (c_X10_at s5 f2.2.1 w5 ?_ ?_)
  · intro a ha haw
    subst haw
    obtain ⟨⟨z, hv⟩, hpar⟩ := wk a ha
    have hz40 := hv.2.1
    have hw := wsF f2 ha hv
    obtain ⟨wr, hW, wlo, whi⟩ := s5.2.2.2.2.2.2.2.1 a (by omega)
    have hW0 := hW.1
    have hw4 := hw.2.1
    obtain ⟨q0, q1, q2, q3, q4, q5, q6, q7, q8⟩ := id hW
    have rows := hw.2.2.2.1
    dsimp only [gRt]
    refine G_sn4 (pc := 11) (gSt_a dX11_placeOf_11 (by decide)) rfl ?_
    refine G_aload (pc := 13) 4 dX11_placeOf_13 rfl ?_
    refine G_ifnull (pc := 15) dX11_placeOf_15 ?_
    refine G_iload_n (pc := 18) 2 dX11_placeOf_18 rfl ?_
    refine G_if_lt (pc := 19) (tgt := 34) dX11_placeOf_19 (by decide) (fun h19 => ?_) (fun h19 => ?_)
    · refine G_ldc (pc := 34) dX11_placeOf_34 kcX11_52 ?_
      refine G_iret (pc := 36) dX11_placeOf_36 ⟨_, rfl, rfl⟩ ⟨by decide, by decide⟩ ?_
      rw [show aPlaceOf S (nI a) p c = -1000001 from if_neg (fun z => z.2.1 h19)] at hQ
      exact hQ
    · refine G_iload_n (pc := 22) 3 dX11_placeOf_22 rfl ?_
      refine G_i2l (pc := 23) dX11_placeOf_23 ?_
      refine G_lconst (pc := 24) (v := 0) dX11_placeOf_24 rfl ?_
      refine G_ldc2 (pc := 25) dX11_placeOf_25 kcX11_53 ?_
      refine gS3 (pc := 28) (k' := 0) (n' := 0) dX11_placeOf_28 lkX11_48 ⟨by decide, by decide⟩ (Nat.le_of_ble_eq_true rfl) rfl rfl ⟨by decide, by decide⟩ (c_X11_isWithin ?_)
      dsimp only [gRt]
      refine G_if_ne (pc := 31) (tgt := 37) dX11_placeOf_31 (by decide) (fun h31 => ?_) (fun h31 => ?_)
      · refine G_aload (pc := 37) 4 dX11_placeOf_37 rfl ?_
        refine G_iload_n (pc := 39) 2 dX11_placeOf_39 rfl ?_
        refine gV1 (pc := 40) (k' := 0) (n' := 0) dX11_placeOf_40 lkX11_167 ⟨by decide, by decide⟩ (Nat.le_of_ble_eq_true rfl) rfl rfl ⟨by decide, by decide⟩ hW0 (c_X9_has hW0 ?_)
        dsimp only [gRt]
        refine G_if_ne (pc := 43) (tgt := 49) dX11_placeOf_43 (by decide) (fun h43 => ?_) (fun h43 => ?_)
        · refine G_iload_n (pc := 49) 3 dX11_placeOf_49 rfl ?_
          have gA : inI (nI a) 0 (S 1 - 1) := by rw [w1]; exact (isW (by omega)).mpr ⟨a, ha, rfl⟩
          have hpn : p < nI (z + 1) := by
            have := (gB_ne.mp h43).2
            rw [hw4] at this
            exact Int32.not_le.mp this
          obtain ⟨j, hj, rfl⟩ : ∃ j, j < z + 1 ∧ p = nI j := by
            rcases pk_ix p (n := z + 1) (by omega) with u | u | u
            · exact absurd u h19
            · exact absurd hpn (Int32.not_lt.mpr u)
            · exact u
          obtain ⟨e, _, e3, rfl⟩ := inI_nat (a := 0) (b := 3) (by decide) (by decide) (wi03.mp (gB_ne.mp h31))
          rw [show aPlaceOf S (nI a) (nI j) (nI e) = S (23 + 166 * a + 6 + 4 * j + e) by unfold aPlaceOf; rw [if_pos ⟨gA, h19, wi03.mp (gB_ne.mp h31)⟩, nI_clamp (by omega), hv.1, if_pos hpn, nI_clamp (by omega), nI_clamp (by omega)]] at hQ
          rcases (show e = 0 ∨ e = 1 ∨ e = 2 ∨ e = 3 by omega) with rfl | rfl | rfl | rfl
          · refine G_tableIn (pc := 50) (tgt := 76) dX11_placeOf_50 (by decide) (by decide) rfl (by decide) ?_
            refine G_aload (pc := 76) 4 dX11_placeOf_76 rfl ?_
            refine G_getR (pc := 78) dX11_placeOf_78 fX11_246 (by assumption) (by assumption) ?_
            refine G_iload_n (pc := 81) 2 dX11_placeOf_81 rfl ?_
            refine G_ialdJ (pc := 82) (j := j) dX11_placeOf_82 (by assumption) rfl (by first | assumption | omega) (by decide) ?_
            rw [show i (ws a + 1) j = S (23 + 166 * a + 6 + 4 * j + 0) from rows j hj 0 (by decide)]
            refine G_iret (pc := 83) dX11_placeOf_83 ⟨_, rfl, rfl⟩ ⟨by decide, by decide⟩ ?_
            exact hQ
          · refine G_tableIn (pc := 50) (tgt := 84) dX11_placeOf_50 (by decide) (by decide) rfl (by decide) ?_
            refine G_aload (pc := 84) 4 dX11_placeOf_84 rfl ?_
            refine G_getR (pc := 86) dX11_placeOf_86 fX11_249 (by assumption) (by assumption) ?_
            refine G_iload_n (pc := 89) 2 dX11_placeOf_89 rfl ?_
            refine G_ialdJ (pc := 90) (j := j) dX11_placeOf_90 (by assumption) rfl (by first | assumption | omega) (by decide) ?_
            rw [show i (ws a + 2) j = S (23 + 166 * a + 6 + 4 * j + 1) from rows j hj 1 (by decide)]
            refine G_iret (pc := 91) dX11_placeOf_91 ⟨_, rfl, rfl⟩ ⟨by decide, by decide⟩ ?_
            exact hQ
          · refine G_tableIn (pc := 50) (tgt := 92) dX11_placeOf_50 (by decide) (by decide) rfl (by decide) ?_
            refine G_aload (pc := 92) 4 dX11_placeOf_92 rfl ?_
            refine G_getR (pc := 94) dX11_placeOf_94 fX11_252 (by assumption) (by assumption) ?_
            refine G_iload_n (pc := 97) 2 dX11_placeOf_97 rfl ?_
            refine G_ialdJ (pc := 98) (j := j) dX11_placeOf_98 (by assumption) rfl (by first | assumption | omega) (by decide) ?_
            rw [show i (ws a + 3) j = S (23 + 166 * a + 6 + 4 * j + 2) from rows j hj 2 (by decide)]
            refine G_iret (pc := 99) dX11_placeOf_99 ⟨_, rfl, rfl⟩ ⟨by decide, by decide⟩ ?_
            exact hQ
          · refine G_tableOut (pc := 50) (tgt := 100) dX11_placeOf_50 (by decide) (by decide) ?_
            refine G_aload (pc := 100) 4 dX11_placeOf_100 rfl ?_
            refine G_getR (pc := 102) dX11_placeOf_102 fX11_170 (by assumption) (by assumption) ?_
            refine G_iload_n (pc := 105) 2 dX11_placeOf_105 rfl ?_
            refine G_ialdJ (pc := 106) (j := j) dX11_placeOf_106 (by assumption) rfl (by first | assumption | omega) (by decide) ?_
            rw [show i (ws a + 4) j = S (23 + 166 * a + 6 + 4 * j + 3) from rows j hj 3 (by decide)]
            refine G_iret (pc := 107) dX11_placeOf_107 ⟨_, rfl, rfl⟩ ⟨by decide, by decide⟩ ?_
            exact hQ
        · refine G_ldc (pc := 46) dX11_placeOf_46 kcX11_98 ?_
          refine G_iret (pc := 48) dX11_placeOf_48 ⟨_, rfl, rfl⟩ ⟨by decide, by decide⟩ ?_
          have gA : inI (nI a) 0 (S 1 - 1) := by rw [w1]; exact (isW (by omega)).mpr ⟨a, ha, rfl⟩
          have hj : ¬ p < nI (z + 1) := fun u => gB_eq.mp h43 ⟨h19, by rw [hw4]; exact Int32.not_le.mpr u⟩
          rw [show aPlaceOf S (nI a) p c = -1000004 by unfold aPlaceOf; rw [if_pos ⟨gA, h19, wi03.mp (gB_ne.mp h31)⟩, nI_clamp (by omega), hv.1, if_neg hj]] at hQ
          exact hQ
      · refine G_ldc (pc := 34) dX11_placeOf_34 kcX11_52 ?_
        refine G_iret (pc := 36) dX11_placeOf_36 ⟨_, rfl, rfl⟩ ⟨by decide, by decide⟩ ?_
        rw [show aPlaceOf S (nI a) p c = -1000001 from if_neg (fun z => gB_eq.mp h31 (wi03.mpr z.2.2))] at hQ
        exact hQ
  · intro hno
    have hnw : ¬ inI w 0 (S 1 - 1) := fun u => by
      obtain ⟨k9, k1, k2⟩ := (isW (m := nW S) (by omega)).mp (w1 ▸ u)
      exact hno k9 k1 k2
    dsimp only [gRt]
    refine G_sn4 (pc := 11) (gSt_aN dX11_placeOf_11 (by decide)) rfl ?_
    refine G_aloadN (pc := 13) 4 dX11_placeOf_13 rfl ?_
    refine G_ifnullN (pc := 15) (tgt := 34) dX11_placeOf_15 (by decide) ?_
    refine G_ldc (pc := 34) dX11_placeOf_34 kcX11_52 ?_
    refine G_iret (pc := 36) dX11_placeOf_36 ⟨_, rfl, rfl⟩ ⟨by decide, by decide⟩ ?_
    rw [show aPlaceOf S w p c = -1000001 from if_neg (fun z => hnw z.1)] at hQ
    exact hQ
theorem bd_subI {x y : Int64} {a b : Nat} (hx : bd x a) (hy : bd y b) (h : a + b < 2 ^ 63) : (x - y).toInt = x.toInt - y.toInt ∧ bd (x - y) (a + b) := by
  have e : (x - y).toInt = x.toInt - y.toInt := by
    rw [Int64.toInt_sub]
    apply bmod_id
    unfold bd at hx hy
    omega
  refine ⟨e, ?_⟩
  unfold bd at *
  omega
theorem sqT_i {X Y : Nat → Int32} {u v : Int32} {p : Nat} (h0 : inB (X p).toInt64) (h1 : inB (Y p).toInt64) (hu : inB u.toInt64) (hv : inB v.toInt64) : (sqT X Y u.toInt64 v.toInt64 p).toInt = ((X p).toInt - u.toInt) * ((X p).toInt - u.toInt) + ((Y p).toInt - v.toInt) * ((Y p).toInt - v.toInt) := by
  obtain ⟨a1, a2⟩ := bd_subI (bd_inB h0) (bd_inB hu) (by decide)
  obtain ⟨b1, b2⟩ := bd_subI (bd_inB h1) (bd_inB hv) (by decide)
  unfold sqT
  rw [bd_addI (bd_mul a2 a2 (by decide)) (bd_mul b2 b2 (by decide)) (by decide), bd_mulI a2 a2 (by decide), bd_mulI b2 b2 (by decide), a1, b1]
  simp only [Int32.toInt_toInt64]
theorem nr_eq {X Y : Nat → Int32} {u v : Int64} {f : Nat → Int32} : ∀ z, (∀ p, p ≤ z → (sqT X Y u v p).toInt = (f p).toInt) → nrT X Y u v z = nrF f z
  | 0, _ => rfl
  | z + 1, h => by
    have ih := nr_eq z (fun p hp => h p (by omega))
    have hle := nrF_le f z
    rw [nrT, nrF, ih]
    by_cases hc : f (z + 1) < f (nrF f z)
    · rw [if_pos hc, if_pos]
      rw [Int64.lt_iff_toInt_lt, h _ (by omega), h _ (by omega)]
      exact Int32.lt_iff_toInt_lt.mp hc
    · rw [if_neg hc, if_neg]
      rw [Int64.lt_iff_toInt_lt, h _ (by omega), h _ (by omega)]
      exact fun z9 => hc (Int32.lt_iff_toInt_lt.mpr z9)
set_option maxRecDepth 100000 in
set_option maxHeartbeats 4000000 in
theorem c_X11_nearest {Γ : gG} {T : gTy} {r : gR} {l : gLg} {i : gI} {Q : gQ} {x : Nat} {ws : Nat → Nat} {hs : Nat → Nat → Nat} {S : Nat → Int32} {w u v : Int32} (hX : lyX T r x ws hs) (hA : gN Γ ≤ x) (hR : rpSt i (x + 1) ws S) (hS : vS S) (hQ : Q (some (.int (aNear S w u v))) T r l i) : gC Γ MX11_nearest [.ref x, .int w, .int u, .int v] T r l i Q := by
  obtain ⟨x0, x1, x2, x3, x4, x5, x6, x7, x8, x9, x10⟩ := hX
  obtain ⟨s0, s1, s2, s3, s4, s5, s6⟩ := id x6
  obtain ⟨t0, t1, t2, t3, t4, t5, t6⟩ := id s4
  obtain ⟨f1, f2, f3, f4⟩ := stF hR hS
  have hT := hS.1
  have hE := hS.2.1
  have hn6 := hT.1.1
  have hn3 := f1.2.1
  obtain ⟨w5, w1, wk⟩ := nW_of hS
  refine gC_of rfl (Nat.le_of_ble_eq_true rfl) (L := [(0, .ref x), (1, .int w), (2, .int u), (3, .int v)]) rfl ?_
  refine G_aload_n (pc := 0) 0 dX11_nearest_0 rfl ?_
  refine G_getR (pc := 1) dX11_nearest_1 fX11_10 (by assumption) (by assumption) ?_
  refine G_getR (pc := 4) dX11_nearest_4 fX11_70 (by assumption) (by assumption) ?_
  refine G_iload_n (pc := 7) 1 dX11_nearest_7 rfl ?_
  refine gV1 (pc := 8) (k' := 0) (n' := 0) dX11_nearest_8 lkX11_163 ⟨by decide, by decide⟩ (Nat.le_of_ble_eq_true rfl) rfl rfl ⟨by decide, by decide⟩ s5.1 (c_X10_at s5 f2.2.1 w5 ?_ ?_)
  · intro a ha haw
    subst haw
    obtain ⟨⟨z, hv⟩, hpar⟩ := wk a ha
    have hz40 := hv.2.1
    have hw := wsF f2 ha hv
    obtain ⟨wr, hW, wlo, whi⟩ := s5.2.2.2.2.2.2.2.1 a (by omega)
    have hW0 := hW.1
    have hw4 := hw.2.1
    obtain ⟨q0, q1, q2, q3, q4, q5, q6, q7, q8⟩ := id hW
    have rows := hw.2.2.2.1
    dsimp only [gRt]
    refine G_sn4 (pc := 11) (gSt_a dX11_nearest_11 (by decide)) rfl ?_
    refine G_aload (pc := 13) 4 dX11_nearest_13 rfl ?_
    refine G_ifnull (pc := 15) dX11_nearest_15 ?_
    refine G_iload_n (pc := 18) 2 dX11_nearest_18 rfl ?_
    refine G_i2l (pc := 19) dX11_nearest_19 ?_
    refine G_iload_n (pc := 20) 3 dX11_nearest_20 rfl ?_
    refine G_i2l (pc := 21) dX11_nearest_21 ?_
    refine gS2 (pc := 22) (k' := 0) (n' := 0) dX11_nearest_22 lkX11_109 ⟨by decide, by decide⟩ (Nat.le_of_ble_eq_true rfl) rfl rfl ⟨by decide, by decide⟩ (c_X11_isPlace ?_)
    dsimp only [gRt]
    refine G_if_ne (pc := 25) (tgt := 31) dX11_nearest_25 (by decide) (fun h25 => ?_) (fun h25 => ?_)
    · refine G_aload (pc := 31) 4 dX11_nearest_31 rfl ?_
      refine G_iload_n (pc := 33) 2 dX11_nearest_33 rfl ?_
      refine G_i2l (pc := 34) dX11_nearest_34 ?_
      refine G_iload_n (pc := 35) 3 dX11_nearest_35 rfl ?_
      refine G_i2l (pc := 36) dX11_nearest_36 ?_
      refine gV2 (pc := 37) (k' := 0) (n' := 0) dX11_nearest_37 lkX11_276 ⟨by decide, by decide⟩ (Nat.le_of_ble_eq_true rfl) rfl rfl ⟨by decide, by decide⟩ hW0 (c_X9_nearestTo hW hw4 hz40 ?_)
      dsimp only [gRt]
      refine G_iret (pc := 40) dX11_nearest_40 ⟨_, rfl, rfl⟩ ⟨by decide, by decide⟩ ?_
      have gA : inI (nI a) 0 (S 1 - 1) := by rw [w1]; exact (isW (by omega)).mpr ⟨a, ha, rfl⟩
      have hp := gB_ne.mp h25
      have en : nrT (i (ws a + 1)) (i (ws a + 2)) u.toInt64 v.toInt64 z = nrF (farS S (23 + 166 * a) u v) z := nr_eq z (fun p hp9 => by
        obtain ⟨b1, b2, _⟩ := hv.2.2.2.2.2 p hp9
        have r0 : i (ws a + 1) p = S (23 + 166 * a + 6 + 4 * p + 0) := rows p (by omega) 0 (by decide)
        have r1 : i (ws a + 2) p = S (23 + 166 * a + 6 + 4 * p + 1) := rows p (by omega) 1 (by decide)
        rw [sqT_i (by rw [r0]; exact b1) (by rw [r1]; exact b2) hp.1 hp.2, (far_i b1 b2 hp.1 hp.2).1, r0, r1])
      rw [show aNear S (nI a) u v = nI (nrF (farS S (23 + 166 * a) u v) z) by unfold aNear; rw [if_pos ⟨gA, inI_inB.mpr hp.1, inI_inB.mpr hp.2⟩, nI_clamp (by omega), hv.1, nI_clamp (by omega), Nat.add_sub_cancel], ← en] at hQ
      exact hQ
    · refine G_ldc (pc := 28) dX11_nearest_28 kcX11_52 ?_
      refine G_iret (pc := 30) dX11_nearest_30 ⟨_, rfl, rfl⟩ ⟨by decide, by decide⟩ ?_
      rw [show aNear S (nI a) u v = -1000001 from if_neg (fun z => gB_eq.mp h25 ⟨inI_inB.mp z.2.1, inI_inB.mp z.2.2⟩)] at hQ
      exact hQ
  · intro hno
    have hnw : ¬ inI w 0 (S 1 - 1) := fun u => by
      obtain ⟨k9, k1, k2⟩ := (isW (m := nW S) (by omega)).mp (w1 ▸ u)
      exact hno k9 k1 k2
    dsimp only [gRt]
    refine G_sn4 (pc := 11) (gSt_aN dX11_nearest_11 (by decide)) rfl ?_
    refine G_aloadN (pc := 13) 4 dX11_nearest_13 rfl ?_
    refine G_ifnullN (pc := 15) (tgt := 28) dX11_nearest_15 (by decide) ?_
    refine G_ldc (pc := 28) dX11_nearest_28 kcX11_52 ?_
    refine G_iret (pc := 30) dX11_nearest_30 ⟨_, rfl, rfl⟩ ⟨by decide, by decide⟩ ?_
    rw [show aNear S w u v = -1000001 from if_neg (fun z => hnw z.1)] at hQ
    exact hQ
