set_option maxRecDepth 100000 in
set_option maxHeartbeats 4000000 in
theorem c_X11_begin {Γ : gG} {T : gTy} {r : gR} {l : gLg} {i : gI} {Q : gQ} {x n : Nat} {ws : Nat → Nat} {hs : Nat → Nat → Nat} {S : Nat → Int32} {P : Nat → Nat → Int32} {u v sg : Int32} (hX : lyX T r x ws hs) (hA : gN Γ ≤ x) (hRX : rX i x ws hs S P n) (hS : vS S) (hQ : ∀ l' i', frC x i i' → rX i' x ws hs (nxS S (aBegin S u v sg).2) (nxP n P S (aBegin S u v sg).2) (nxN n (aBegin S u v sg).2) → Q (some (.int (aBegin S u v sg).1)) T r l' i') : gC Γ MX11_begin [.ref x, .int u, .int v, .int sg] T r l i Q := by
  have hX2 := hX
  have hR := hRX.1
  obtain ⟨x0, x1, x2, x3, x4, x5, x6, x7, x8, x9, x10⟩ := hX
  obtain ⟨s0, s1, s2, s3, s4, s5, s6⟩ := id x6
  obtain ⟨t0, t1, t2, t3, t4, t5, t6⟩ := id s4
  obtain ⟨f1, f2, f3, f4⟩ := stF hR hS
  have hT := hS.1
  have hE := hS.2.1
  have hn6 := hT.1.1
  have hn3 := f1.2.1
  obtain ⟨w5, w1, wk⟩ := nW_of hS
  have x7k := x7.1
  have s5k := s5.1
  obtain ⟨v0, v1, v2, v3, v4⟩ := id x8
  have v1 : r (x + 183) 0 = some (x + 184) := v1
  have v3k : (T.2 (x + 184)).1 = 0 := v3.1
  have s6k := s6.1
  have v3 : lyCo T r (x + 184) := v3
  have hB : lyC T r (x + 1) := ⟨s0, s1, s3, s4, s6⟩
  have g4 : i (x + 1 + 35) 2 = nI (tM S) := (f3 2 (by decide)).trans hE.2.2.2.2
  have m20 := hE.2.2.2.1
  refine gC_of rfl (Nat.le_of_ble_eq_true rfl) (L := [(0, .ref x), (1, .int u), (2, .int v), (3, .int sg)]) rfl ?_
  refine G_iload_n (pc := 0) 1 dX11_begin_0 rfl ?_
  refine G_i2l (pc := 1) dX11_begin_1 ?_
  refine G_iload_n (pc := 2) 2 dX11_begin_2 rfl ?_
  refine G_i2l (pc := 3) dX11_begin_3 ?_
  refine gS2 (pc := 4) (k' := 0) (n' := 0) dX11_begin_4 lkX11_109 ⟨by decide, by decide⟩ (Nat.le_of_ble_eq_true rfl) rfl rfl ⟨by decide, by decide⟩ (c_X11_isPlace ?_)
  dsimp only [gRt]
  refine G_if_eq (pc := 7) (tgt := 17) dX11_begin_7 (by decide) (fun h7 => ?_) (fun h7 => ?_)
  · refine G_ldc (pc := 17) dX11_begin_17 kcX11_52 ?_
    refine G_iret (pc := 19) dX11_begin_19 ⟨_, rfl, rfl⟩ ⟨by decide, by decide⟩ ?_
    replace hQ := aDoneX hQ (show aBegin S u v sg = (-1000001, none) from if_neg (fun z => gB_eq.mp h7 ⟨inI_inB.mp z.1, inI_inB.mp z.2.1⟩))
    exact hQ l i frC.rf hRX
  · refine G_iload_n (pc := 10) 3 dX11_begin_10 rfl ?_
    refine gS1 (pc := 11) (k' := 0) (n' := 0) dX11_begin_11 lkX11_156 ⟨by decide, by decide⟩ (Nat.le_of_ble_eq_true rfl) rfl rfl ⟨by decide, by decide⟩ (c_X11_isSign ?_)
    dsimp only [gRt]
    refine G_if_ne (pc := 14) (tgt := 20) dX11_begin_14 (by decide) (fun h14 => ?_) (fun h14 => ?_)
    · refine G_aload_n (pc := 20) 0 dX11_begin_20 rfl ?_
      refine G_getR (pc := 21) dX11_begin_21 fX11_26 (by assumption) (by assumption) ?_
      refine G_getR (pc := 24) dX11_begin_24 fX11_137 (by assumption) (by assumption) ?_
      refine G_aload_n (pc := 27) 0 dX11_begin_27 rfl ?_
      refine G_getR (pc := 28) dX11_begin_28 fX11_10 (by assumption) (by assumption) ?_
      refine G_iload_n (pc := 31) 1 dX11_begin_31 rfl ?_
      refine G_i2l (pc := 32) dX11_begin_32 ?_
      refine G_iload_n (pc := 33) 2 dX11_begin_33 rfl ?_
      refine G_i2l (pc := 34) dX11_begin_34 ?_
      have hok : okB u v sg := ⟨inI_inB.mpr (gB_ne.mp h7).1, inI_inB.mpr (gB_ne.mp h7).2, gB_ne.mp h14⟩
      replace hQ := aDoneX hQ (show aBegin S u v sg = aOpen S sg (-1) (-1) (gCor (tF S) (tP S) (tQ S) (tN S) (tM S) 0 u.toInt64 v.toInt64) from if_pos hok)
      refine gV3 (pc := 35) (k' := 0) (n' := 0) dX11_begin_35 lkX11_141 ⟨by decide, by decide⟩ (Nat.le_of_ble_eq_true rfl) rfl rfl ⟨by decide, by decide⟩ v3.1 (c_X0_correct (b := x + 1) (c := x + 184) (f := tF S) (p := tP S) (q := tQ S) (n := tN S) (m := tM S) hB v3 (by omega) f4 g4 (by omega) ?_ ?_)
      · intro hc l1 hl1
        rw [hc] at hQ
        replace hQ := aDoneX hQ (show aOpen S sg (-1) (-1) none = (-1000002, none) from rfl)
        dsimp only [gRt]
        refine G_if_ne (pc := 38) (tgt := 44) dX11_begin_38 (by decide) (fun h38 => ?_) (fun h38 => ?_)
        · exact absurd rfl h38
        · refine G_ldc (pc := 41) dX11_begin_41 kcX11_91 ?_
          refine G_iret (pc := 43) dX11_begin_43 ⟨_, rfl, rfl⟩ ⟨by decide, by decide⟩ ?_
          exact hQ l1 i frC.rf hRX
      · intro X Y rd hc l1 hl1 _ _
        rw [hc] at hQ
        generalize hcc : (X, Y, rd) = c at hQ
        obtain ⟨rfl, rfl, rfl⟩ : X = c.1 ∧ Y = c.2.1 ∧ rd = c.2.2 := by rw [← hcc]; exact ⟨rfl, rfl, rfl⟩
        have ec : ∀ d, d ≠ x + 184 → cr3 i (x + 184) c.1.toInt32 c.2.1.toInt32 (nI c.2.2) d = i d := fun d hd => by unfold cr3; simp (disch := omega) only [up2_ne]
        have c1 : cr3 i (x + 184) c.1.toInt32 c.2.1.toInt32 (nI c.2.2) (x + 184) 1 = c.1.toInt32 := by unfold cr3; simp (disch := omega) only [up2_row, up2_self]
        have c2 : cr3 i (x + 184) c.1.toInt32 c.2.1.toInt32 (nI c.2.2) (x + 184) 2 = c.2.1.toInt32 := by unfold cr3; simp (disch := omega) only [up2_row, up2_self]
        have c3 : cr3 i (x + 184) c.1.toInt32 c.2.1.toInt32 (nI c.2.2) (x + 184) 3 = nI c.2.2 := by unfold cr3; simp (disch := omega) only [up2_self]
        generalize cr3 i (x + 184) c.1.toInt32 c.2.1.toInt32 (nI c.2.2) = i2 at ec c1 c2 c3 ⊢
        have fr2 : frC x i i2 := fun d hd => ec d (by omega)
        have hr2 : rX i2 x ws hs S P n := hRX.hist hX2 (fun d d1 d2 => ec d (by omega)) (hRX.1.kept x6 (fun d d1 d2 => ec d (by omega)))
        dsimp only [gRt]
        refine G_if_ne (pc := 38) (tgt := 44) dX11_begin_38 (by decide) (fun h38 => ?_) (fun h38 => ?_)
        · refine G_aload_n (pc := 44) 0 dX11_begin_44 rfl ?_
          refine G_iload_n (pc := 45) 3 dX11_begin_45 rfl ?_
          refine G_iconst (pc := 46) (v := (-1)) dX11_begin_46 rfl ?_
          refine G_iconst (pc := 47) (v := (-1)) dX11_begin_47 rfl ?_
          refine gV3 (pc := 48) (k' := 0) (n' := 0) dX11_begin_48 lkX11_159 ⟨by decide, by decide⟩ (Nat.le_of_ble_eq_true rfl) rfl rfl ⟨by decide, by decide⟩ (by assumption) (c_X11_startWalk (c := c) hX2 hA hr2 hS c1 c2 c3 ?_)
          intro l' i' g1 g2
          dsimp only [gRt]
          refine G_iret (pc := 51) dX11_begin_51 ⟨_, rfl, rfl⟩ ⟨by decide, by decide⟩ ?_
          exact hQ l' i' (fr2.tr g1) g2
        · exact absurd h38 (by decide)
    · refine G_ldc (pc := 17) dX11_begin_17 kcX11_52 ?_
      refine G_iret (pc := 19) dX11_begin_19 ⟨_, rfl, rfl⟩ ⟨by decide, by decide⟩ ?_
      replace hQ := aDoneX hQ (show aBegin S u v sg = (-1000001, none) from if_neg (fun z => gB_eq.mp h14 z.2.2))
      exact hQ l i frC.rf hRX
set_option maxRecDepth 100000 in
set_option maxHeartbeats 4000000 in
theorem c_X11_undo {Γ : gG} {T : gTy} {r : gR} {l : gLg} {i : gI} {Q : gQ} {x n : Nat} {ws : Nat → Nat} {hs : Nat → Nat → Nat} {S : Nat → Int32} {P : Nat → Nat → Int32} (hX : lyX T r x ws hs) (hA : gN Γ ≤ x) (hRX : rX i x ws hs S P n) (h0 : n = 0 → Q (some (.int (-1000002))) T r l i) (h1 : ∀ b, n = b + 1 → ∀ i', frC x i i' → rX i' x ws hs (P b) P b → Q (some (.int (nI b))) T r l i') : gC Γ MX11_undo [.ref x] T r l i Q := by
  obtain ⟨x0, x1, x2, x3, x4, x5, x6, x7, x8, x9, x10⟩ := hX
  have x7k := x7.1
  obtain ⟨hR, o, hH⟩ := hRX
  have hn := hH.2.2.2.1
  have hn4 := hH.2.1
  refine gC_of rfl (Nat.le_of_ble_eq_true rfl) (L := [(0, .ref x)]) rfl ?_
  refine G_aload_n (pc := 0) 0 dX11_undo_0 rfl ?_
  refine G_getR (pc := 1) dX11_undo_1 fX11_19 (by assumption) (by assumption) ?_
  refine G_getI (pc := 4) dX11_undo_4 fX11_258 (by assumption) ?_
  rw [hn]
  refine G_if_ne (pc := 7) (tgt := 13) dX11_undo_7 (by decide) (fun h7 => ?_) (fun h7 => ?_)
  · have hne : n ≠ 0 := fun z => h7 (by rw [z]; rfl)
    obtain ⟨b, hb⟩ : ∃ b, n = b + 1 := ⟨n - 1, by omega⟩
    subst hb
    refine G_aload_n (pc := 13) 0 dX11_undo_13 rfl ?_
    refine G_getR (pc := 14) dX11_undo_14 fX11_19 (by assumption) (by assumption) ?_
    refine G_aload_n (pc := 17) 0 dX11_undo_17 rfl ?_
    refine G_getR (pc := 18) dX11_undo_18 fX11_10 (by assumption) (by assumption) ?_
    refine gV1 (pc := 21) (k' := 0) (n' := 0) dX11_undo_21 lkX11_280 ⟨by decide, by decide⟩ (Nat.le_of_ble_eq_true rfl) rfl rfl ⟨by decide, by decide⟩ x7k (c_X1_restore (n := b) x7 x6 (by omega) (by omega) (by omega) hH ?_)
    intro i1 k1 k2 k3
    dsimp only [gRt]
    refine G_aload_n (pc := 24) 0 dX11_undo_24 rfl ?_
    refine G_getR (pc := 25) dX11_undo_25 fX11_19 (by assumption) (by assumption) ?_
    refine G_getI (pc := 28) dX11_undo_28 fX11_258 (by assumption) ?_
    rw [k2.2.2.2.1]
    refine G_iret (pc := 31) dX11_undo_31 ⟨_, rfl, rfl⟩ ⟨by decide, by decide⟩ ?_
    exact h1 b rfl i1 (fun c hc => k1 c (by omega) (by omega)) ⟨k3, o, k2⟩
  · have hn0 : n = 0 := (nI_eq (by omega) (by decide)).mp h7
    refine G_ldc (pc := 10) dX11_undo_10 kcX11_91 ?_
    refine G_iret (pc := 12) dX11_undo_12 ⟨_, rfl, rfl⟩ ⟨by decide, by decide⟩ ?_
    exact h0 hn0
theorem wi32 {x : Int32} : (¬ x.toInt64 < 32 ∧ ¬ 126 < x.toInt64) ↔ inI x 32 126 := wi (a := 32) (b := 126)
set_option maxRecDepth 100000 in
set_option maxHeartbeats 4000000 in
theorem c_X11_type {Γ : gG} {T : gTy} {r : gR} {l : gLg} {i : gI} {Q : gQ} {x ln : Nat} {ws : Nat → Nat} {hs : Nat → Nat → Nat} {k : Int32} (hX : lyX T r x ws hs) (hA : gN Γ ≤ x) (hl : i (x + 187) 1 = nI ln) (hl6 : ln ≤ 60) (h0 : ¬ inI k 32 126 → Q (some (.int (-1000001))) T r l i) (h1 : inI k 32 126 → ln = 60 → Q (some (.int (-1000003))) T r l i)
  (h2 : inI k 32 126 → ln < 60 → Q (some (.int (nI (ln + 1)))) T r l (up2 (up2 i (x + 187 + 1) ln k) (x + 187) 1 (nI (ln + 1)))) : gC Γ MX11_type [.ref x, .int k] T r l i Q := by
  obtain ⟨x0, x1, x2, x3, x4, x5, x6, x7, x8, x9, x10⟩ := hX
  have x9k := x9.1
  refine gC_of rfl (Nat.le_of_ble_eq_true rfl) (L := [(0, .ref x), (1, .int k)]) rfl ?_
  refine G_iload_n (pc := 0) 1 dX11_type_0 rfl ?_
  refine G_i2l (pc := 1) dX11_type_1 ?_
  refine G_ldc2 (pc := 2) dX11_type_2 kcX11_283 ?_
  refine G_ldc2 (pc := 5) dX11_type_5 kcX11_285 ?_
  refine gS3 (pc := 8) (k' := 0) (n' := 0) dX11_type_8 lkX11_48 ⟨by decide, by decide⟩ (Nat.le_of_ble_eq_true rfl) rfl rfl ⟨by decide, by decide⟩ (c_X11_isWithin ?_)
  dsimp only [gRt]
  refine G_if_ne (pc := 11) (tgt := 17) dX11_type_11 (by decide) (fun h11 => ?_) (fun h11 => ?_)
  · refine G_aload_n (pc := 17) 0 dX11_type_17 rfl ?_
    refine G_getR (pc := 18) dX11_type_18 fX11_33 (by assumption) (by assumption) ?_
    refine gV0 (pc := 21) (k' := 0) (n' := 0) dX11_type_21 lkX11_287 ⟨by decide, by decide⟩ (Nat.le_of_ble_eq_true rfl) rfl rfl ⟨by decide, by decide⟩ x9k (c_X8_isFull x9k ?_)
    dsimp only [gRt]
    refine G_if_eq (pc := 24) (tgt := 30) dX11_type_24 (by decide) (fun h24 => ?_) (fun h24 => ?_)
    · have hlt : ln < 60 := by
        have := gB_eq.mp h24
        rw [hl] at this
        rcases Nat.lt_or_ge ln 60 with z | z
        · exact z
        · exact absurd this (fun w => w (by rw [show ln = 60 by omega]; decide))
      refine G_aload_n (pc := 30) 0 dX11_type_30 rfl ?_
      refine G_getR (pc := 31) dX11_type_31 fX11_33 (by assumption) (by assumption) ?_
      refine G_iload_n (pc := 34) 1 dX11_type_34 rfl ?_
      refine gV1 (pc := 35) (k' := 0) (n' := 0) dX11_type_35 lkX11_288 ⟨by decide, by decide⟩ (Nat.le_of_ble_eq_true rfl) rfl rfl ⟨by decide, by decide⟩ x9k (c_X8_append x9 (by omega) hl hlt ?_)
      dsimp only [gRt]
      refine G_aload_n (pc := 38) 0 dX11_type_38 rfl ?_
      refine G_getR (pc := 39) dX11_type_39 fX11_33 (by assumption) (by assumption) ?_
      refine G_getI (pc := 42) dX11_type_42 fX11_259 (by assumption) ?_
      rw [up2_self]
      refine G_iret (pc := 45) dX11_type_45 ⟨_, rfl, rfl⟩ ⟨by decide, by decide⟩ ?_
      exact h2 (wi32.mp (gB_ne.mp h11)) hlt
    · have hfl : ln = 60 := by
        have := gB_ne.mp h24
        rw [hl] at this
        rcases Nat.lt_or_ge ln 60 with z | z
        · exact absurd (nI_lt (b := 60) z (by decide)) this
        · omega
      refine G_ldc (pc := 27) dX11_type_27 kcX11_65 ?_
      refine G_iret (pc := 29) dX11_type_29 ⟨_, rfl, rfl⟩ ⟨by decide, by decide⟩ ?_
      exact h1 (wi32.mp (gB_ne.mp h11)) hfl
  · refine G_ldc (pc := 14) dX11_type_14 kcX11_52 ?_
    refine G_iret (pc := 16) dX11_type_16 ⟨_, rfl, rfl⟩ ⟨by decide, by decide⟩ ?_
    exact h0 (fun z => gB_eq.mp h11 (wi32.mpr z))
set_option maxRecDepth 100000 in
set_option maxHeartbeats 4000000 in
theorem c_X11_clearText {Γ : gG} {T : gTy} {r : gR} {l : gLg} {i : gI} {Q : gQ} {x : Nat} {ws : Nat → Nat} {hs : Nat → Nat → Nat} (hX : lyX T r x ws hs) (hA : gN Γ ≤ x) (hQ : Q (some (.int (i (x + 187) 1))) T r l (up2 i (x + 187) 1 0)) : gC Γ MX11_clearText [.ref x] T r l i Q := by
  obtain ⟨x0, x1, x2, x3, x4, x5, x6, x7, x8, x9, x10⟩ := hX
  have x9k := x9.1
  refine gC_of rfl (Nat.le_of_ble_eq_true rfl) (L := [(0, .ref x)]) rfl ?_
  refine G_aload_n (pc := 0) 0 dX11_clearText_0 rfl ?_
  refine G_getR (pc := 1) dX11_clearText_1 fX11_33 (by assumption) (by assumption) ?_
  refine G_getI (pc := 4) dX11_clearText_4 fX11_259 (by assumption) ?_
  refine G_sn1 (pc := 7) (gSt_in dX11_clearText_7 rfl (by decide)) rfl ?_
  refine G_aload_n (pc := 8) 0 dX11_clearText_8 rfl ?_
  refine G_getR (pc := 9) dX11_clearText_9 fX11_33 (by assumption) (by assumption) ?_
  refine G_iconst (pc := 12) (v := 0) dX11_clearText_12 rfl ?_
  refine G_putI (pc := 13) dX11_clearText_13 fX11_259 (by assumption) rfl rfl (by first | assumption | omega) ?_
  refine G_iload_n (pc := 16) 1 dX11_clearText_16 rfl ?_
  refine G_iret (pc := 17) dX11_clearText_17 ⟨_, rfl, rfl⟩ ⟨by decide, by decide⟩ ?_
  exact hQ
