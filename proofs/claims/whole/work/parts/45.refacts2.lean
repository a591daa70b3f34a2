/-! the reference acts on -/
theorem inI_nat {x : Int32} {a b : Nat} (hb : b < 2 ^ 30) (ha : a ≤ b) (h : inI x (nI a) (nI b)) : ∃ j, a ≤ j ∧ j ≤ b ∧ x = nI j := by
  obtain ⟨h1, h2⟩ := h
  rcases pk_ix x (n := b + 1) (by omega) with z | z | ⟨j, hj, rfl⟩
  · exact absurd (Int32.lt_of_lt_of_le z (nI_pos' (n := a) (by omega))) h1
  · exact absurd (Int32.lt_of_lt_of_le (nI_lt (a := b) (b := b + 1) (by omega) (by omega)) z) h2
  · refine ⟨j, ?_, by omega, rfl⟩
    rcases Nat.lt_or_ge j a with z | z
    · exact absurd (nI_lt z (by omega)) h1
    · exact z
theorem nW_of {S : Nat → Int32} (h : vS S) : nW S ≤ 5 ∧ S 1 = nI (nW S) ∧ ∀ k, k < nW S → (∃ z, vW S (23 + 166 * k) z) ∧ (S (23 + 166 * k + 4) = -1 ∨ ∃ q, q < k ∧ S (23 + 166 * k + 4) = nI q) := by
  obtain ⟨_, _, n, n5, n1, nk⟩ := h
  have e : nW S = n := by unfold nW; rw [n1, nI_clamp (by omega)]
  rw [e]
  exact ⟨n5, n1, nk⟩
theorem nI_big5 {c : Int32} (h : bd c.toInt64 5) : ¬ c ≤ -1000001 := by
  intro z
  have := Int32.le_iff_toInt_le.mp z
  unfold bd at h
  rw [Int32.toInt_toInt64] at h
  rw [show (-1000001 : Int32).toInt = -1000001 by decide] at this
  omega
set_option maxRecDepth 100000 in
set_option maxHeartbeats 4000000 in
theorem c_X12_dropTerm {Γ : gG} {T : gTy} {r : gR} {l : gLg} {i : gI} {Q : gQ} {m n : Nat} {S : Nat → Int32} {P : Nat → Nat → Int32} {k : Int32} (hM : lyM T r m) (hA : gN Γ ≤ m) (he : i (m + 1) = S) (hP : rpP i m P n) (hS : vS S) (hQ : ∀ i', rfP m i i' (nxS S (aDropT S k).2) (nxP n P S (aDropT S k).2) (nxN n (aDropT S k).2) → Q (some (.int (aDropT S k).1)) T r l i') : gC Γ MX12_dropTerm [.ref m, .int k] T r l i Q := by
  have hM2 := hM
  obtain ⟨m0, m1, m2, m3, m4, m5, m6, m7, m8, m9, m10⟩ := hM
  have hT := hS.1
  have hE := hS.2.1
  have hn6 := hT.1.1
  have hn0 := hT.1.2.1
  obtain ⟨w5, w1, wk⟩ := nW_of hS
  refine gC_of rfl (Nat.le_of_ble_eq_true rfl) (L := [(0, .ref m), (1, .int k)]) rfl ?_
  refine G_aload_n (pc := 0) 0 dX12_dropTerm_0 rfl ?_
  refine gV0 (pc := 1) (k' := 0) (n' := 0) dX12_dropTerm_1 lkX12_128 ⟨by decide, by decide⟩ (Nat.le_of_ble_eq_true rfl) rfl rfl ⟨by decide, by decide⟩ (by assumption) (c_begX hM2 hA he ?_)
  intro i1 hb e1 e2
  dsimp only [gRt]
  refine G_aload_n (pc := 4) 0 dX12_dropTerm_4 rfl ?_
  refine G_iload_n (pc := 5) 1 dX12_dropTerm_5 rfl ?_
  refine G_if_ge (pc := 6) (tgt := 14) dX12_dropTerm_6 (by decide) (fun h6 => ?_) (fun h6 => ?_)
  · have h6 := Int32.not_lt.mpr h6
    refine G_aload_n (pc := 14) 0 dX12_dropTerm_14 rfl ?_
    refine G_iload_n (pc := 15) 1 dX12_dropTerm_15 rfl ?_
    refine gV1 (pc := 16) (k' := 0) (n' := 0) dX12_dropTerm_16 lkX12_137 ⟨by decide, by decide⟩ (Nat.le_of_ble_eq_true rfl) rfl rfl ⟨by decide, by decide⟩ (by assumption) (c_X12_removes (n := tN S) hM2 hA (by rw [e1]; exact hn0) hn6 ?_ ?_ h6)
    · intro hle
      replace hQ := aDone hQ (show aDropT S k = (-1000002, none) by unfold aDropT; rw [if_neg h6, if_pos hle])
      dsimp only [gRt]
      refine gV1 (pc := 19) (k' := 0) (n' := 0) dX12_dropTerm_19 lkX12_134 ⟨by decide, by decide⟩ (Nat.le_of_ble_eq_true rfl) rfl rfl ⟨by decide, by decide⟩ (by assumption) (c_actN (S := S) hM2 hA hP hb e2 (by decide) (fun k _ => by rw [e1]) ?_)
      intro i' hi'
      dsimp only [gRt]
      refine G_iret (pc := 22) dX12_dropTerm_22 ⟨_, rfl, rfl⟩ ⟨by decide, by decide⟩ ?_
      exact hQ i' hi'
    · intro j b hb1 hjb hj
      subst hj
      have hbig : bd (S (5 + 3 * j)).toInt64 5 := by
        have := (hT.2 j (by omega)).1
        unfold tF at this
        rw [if_pos (by omega)] at this
        exact this
      replace hQ := aDone hQ (show aDropT S (nI j) = (S (5 + 3 * j), some (rmF S b j)) by unfold aDropT; rw [if_neg h6, hb1, if_neg (nI_ge (by omega) (by omega)), nI_clamp (by omega)]; rfl)
      rw [e1]
      dsimp only [gRt]
      refine gV1 (pc := 19) (k' := 0) (n' := 0) dX12_dropTerm_19 lkX12_134 ⟨by decide, by decide⟩ (Nat.le_of_ble_eq_true rfl) rfl rfl ⟨by decide, by decide⟩ (by assumption) (c_actS (S := S) hM2 hA hP hb.F (fun k hk => by rw [va_o (by omega)]; exact e2 k hk) (nI_big5 hbig) va_s ?_)
      intro i' hi'
      dsimp only [gRt]
      refine G_iret (pc := 22) dX12_dropTerm_22 ⟨_, rfl, rfl⟩ ⟨by decide, by decide⟩ ?_
      exact hQ i' hi'
  · replace hQ := aDone hQ (show aDropT S k = (-1000001, none) from if_pos (Int32.not_le.mp h6))
    refine G_ldc (pc := 9) dX12_dropTerm_9 kcX12_29 ?_
    refine G_goto (pc := 11) (tgt := 19) dX12_dropTerm_11 (by decide) ?_
    refine gV1 (pc := 19) (k' := 0) (n' := 0) dX12_dropTerm_19 lkX12_134 ⟨by decide, by decide⟩ (Nat.le_of_ble_eq_true rfl) rfl rfl ⟨by decide, by decide⟩ (by assumption) (c_actN (S := S) hM2 hA hP hb e2 (by decide) (fun k _ => by rw [e1]) ?_)
    intro i' hi'
    dsimp only [gRt]
    refine G_iret (pc := 22) dX12_dropTerm_22 ⟨_, rfl, rfl⟩ ⟨by decide, by decide⟩ ?_
    exact hQ i' hi'

set_option maxRecDepth 100000 in
set_option maxHeartbeats 4000000 in
theorem c_X12_begin {Γ : gG} {T : gTy} {r : gR} {l : gLg} {i : gI} {Q : gQ} {m n : Nat} {S : Nat → Int32} {P : Nat → Nat → Int32} {x y sg : Int32} (hM : lyM T r m) (hA : gN Γ ≤ m) (he : i (m + 1) = S) (hP : rpP i m P n) (hS : vS S) (hQ : ∀ i', rfP m i i' (nxS S (aBegin S x y sg).2) (nxP n P S (aBegin S x y sg).2) (nxN n (aBegin S x y sg).2) → Q (some (.int (aBegin S x y sg).1)) T r l i') : gC Γ MX12_begin [.ref m, .int x, .int y, .int sg] T r l i Q := by
  have hM2 := hM
  obtain ⟨m0, m1, m2, m3, m4, m5, m6, m7, m8, m9, m10⟩ := hM
  have hT := hS.1
  have hE := hS.2.1
  have hn6 := hT.1.1
  have hn0 := hT.1.2.1
  obtain ⟨w5, w1, wk⟩ := nW_of hS
  refine gC_of rfl (Nat.le_of_ble_eq_true rfl) (L := [(0, .ref m), (1, .int x), (2, .int y), (3, .int sg)]) rfl ?_
  refine G_aload_n (pc := 0) 0 dX12_begin_0 rfl ?_
  refine gV0 (pc := 1) (k' := 0) (n' := 0) dX12_begin_1 lkX12_128 ⟨by decide, by decide⟩ (Nat.le_of_ble_eq_true rfl) rfl rfl ⟨by decide, by decide⟩ (by assumption) (c_begX hM2 hA he ?_)
  intro i1 hb e1 e2
  dsimp only [gRt]
  refine G_iload_n (pc := 4) 1 dX12_begin_4 rfl ?_
  refine gS1 (pc := 5) (k' := 0) (n' := 0) dX12_begin_5 lkX12_140 ⟨by decide, by decide⟩ (Nat.le_of_ble_eq_true rfl) rfl rfl ⟨by decide, by decide⟩ (c_X12_isIn ?_)
  dsimp only [gRt]
  refine G_if_eq (pc := 8) (tgt := 25) dX12_begin_8 (by decide) (fun h8 => ?_) (fun h8 => ?_)
  · refine G_ldc (pc := 25) dX12_begin_25 kcX12_29 ?_
    refine G_iret (pc := 27) dX12_begin_27 ⟨_, rfl, rfl⟩ ⟨by decide, by decide⟩ ?_
    replace hQ := aDone hQ (show aBegin S x y sg = (-1000001, none) from if_neg (fun z => gB_eq.mp h8 z.1))
    exact hQ i1 (rfP.same hP hb e1)
  · refine G_iload_n (pc := 11) 2 dX12_begin_11 rfl ?_
    refine gS1 (pc := 12) (k' := 0) (n' := 0) dX12_begin_12 lkX12_140 ⟨by decide, by decide⟩ (Nat.le_of_ble_eq_true rfl) rfl rfl ⟨by decide, by decide⟩ (c_X12_isIn ?_)
    dsimp only [gRt]
    refine G_if_eq (pc := 15) (tgt := 25) dX12_begin_15 (by decide) (fun h15 => ?_) (fun h15 => ?_)
    · refine G_ldc (pc := 25) dX12_begin_25 kcX12_29 ?_
      refine G_iret (pc := 27) dX12_begin_27 ⟨_, rfl, rfl⟩ ⟨by decide, by decide⟩ ?_
      replace hQ := aDone hQ (show aBegin S x y sg = (-1000001, none) from if_neg (fun z => gB_eq.mp h15 z.2.1))
      exact hQ i1 (rfP.same hP hb e1)
    · refine G_iload_n (pc := 18) 3 dX12_begin_18 rfl ?_
      refine gS1 (pc := 19) (k' := 0) (n' := 0) dX12_begin_19 lkX12_143 ⟨by decide, by decide⟩ (Nat.le_of_ble_eq_true rfl) rfl rfl ⟨by decide, by decide⟩ (c_X12_isSide ?_)
      dsimp only [gRt]
      refine G_if_ne (pc := 22) (tgt := 28) dX12_begin_22 (by decide) (fun h22 => ?_) (fun h22 => ?_)
      · refine G_aload_n (pc := 28) 0 dX12_begin_28 rfl ?_
        refine G_aload_n (pc := 29) 0 dX12_begin_29 rfl ?_
        refine G_iload_n (pc := 30) 1 dX12_begin_30 rfl ?_
        refine G_i2l (pc := 31) dX12_begin_31 ?_
        refine G_iload_n (pc := 32) 2 dX12_begin_32 rfl ?_
        refine G_i2l (pc := 33) dX12_begin_33 ?_
        replace hQ := aDone hQ (show aBegin S x y sg = aOpen S sg (-1) (-1) (gCor (tF S) (tP S) (tQ S) (tN S) (tM S) 0 x.toInt64 y.toInt64) from if_pos ⟨gB_ne.mp h8, gB_ne.mp h15, gB_ne.mp h22⟩)
        refine gV2 (pc := 34) (k' := 0) (n' := 0) dX12_begin_34 lkX12_99 ⟨by decide, by decide⟩ (Nat.le_of_ble_eq_true rfl) rfl rfl ⟨by decide, by decide⟩ (by assumption) (c_X12_corrects (f := tF S) (p := tP S) (q := tQ S) (n := tN S) (mm := tM S) hM2 hA (by rw [e1]; exact hT.1) (by rw [e1]; exact hE.2.2.2.2) (by have := hE.2.2.2.1; omega) ?_ ?_)
        · intro hc i2 hi2
          have hF : i2 (m + 1) = S := (hi2.1 (m + 1) (by omega)).trans e1
          have hB2 : ∀ k, k < 853 → i2 (m + 2) k = S k := fun k hk => by rw [hi2.1 (m + 2) (by omega)]; exact e2 k hk
          rw [hc] at hQ
          replace hQ := aDone hQ (show aOpen S sg (-1) (-1) none = (-1000002, none) from rfl)
          dsimp only [gRt]
          refine G_if_eq (pc := 37) (tgt := 50) dX12_begin_37 (by decide) (fun h37 => ?_) (fun h37 => ?_)
          · refine G_ldc (pc := 50) dX12_begin_50 kcX12_116 ?_
            refine gV1 (pc := 52) (k' := 0) (n' := 0) dX12_begin_52 lkX12_134 ⟨by decide, by decide⟩ (Nat.le_of_ble_eq_true rfl) rfl rfl ⟨by decide, by decide⟩ (by assumption) (c_actN (S := S) hM2 hA hP (hb.M hi2) hB2 (by decide) (fun k _ => by rw [hF]) ?_)
            intro i' hi'
            dsimp only [gRt]
            refine G_iret (pc := 55) dX12_begin_55 ⟨_, rfl, rfl⟩ ⟨by decide, by decide⟩ ?_
            exact hQ i' hi'
          · exact absurd rfl h37
        · intro X Y rd hc i2 hi2 e6 e7 e8
          have hF : i2 (m + 1) = S := (hi2.1 (m + 1) (by omega)).trans e1
          have hB2 : ∀ k, k < 853 → i2 (m + 2) k = S k := fun k hk => by rw [hi2.1 (m + 2) (by omega)]; exact e2 k hk
          rw [hc] at hQ
          dsimp only [gRt]
          refine G_if_eq (pc := 37) (tgt := 50) dX12_begin_37 (by decide) (fun h37 => ?_) (fun h37 => ?_)
          · exact absurd h37 (by decide)
          · refine G_aload_n (pc := 40) 0 dX12_begin_40 rfl ?_
            refine G_iload_n (pc := 41) 3 dX12_begin_41 rfl ?_
            refine G_iconst (pc := 42) (v := (-1)) dX12_begin_42 rfl ?_
            refine G_iconst (pc := 43) (v := (-1)) dX12_begin_43 rfl ?_
            refine gV3 (pc := 44) (k' := 0) (n' := 0) dX12_begin_44 lkX12_121 ⟨by decide, by decide⟩ (Nat.le_of_ble_eq_true rfl) rfl rfl ⟨by decide, by decide⟩ (by assumption) (c_X12_opens (k := nW S) hM2 hA (by rw [hF]; exact w1) w5 ?_ ?_)
            · intro h5
              replace hQ := aDone hQ (show aOpen S sg (-1) (-1) (some (X, Y, rd)) = (-1000003, none) from if_pos h5)
              dsimp only [gRt]
              refine G_goto (pc := 47) (tgt := 52) dX12_begin_47 (by decide) ?_
              refine gV1 (pc := 52) (k' := 0) (n' := 0) dX12_begin_52 lkX12_134 ⟨by decide, by decide⟩ (Nat.le_of_ble_eq_true rfl) rfl rfl ⟨by decide, by decide⟩ (by assumption) (c_actN (S := S) hM2 hA hP (hb.M hi2) hB2 (by decide) (fun k _ => by rw [hF]) ?_)
              intro i' hi'
              dsimp only [gRt]
              refine G_iret (pc := 55) dX12_begin_55 ⟨_, rfl, rfl⟩ ⟨by decide, by decide⟩ ?_
              exact hQ i' hi'
            · intro h5
              replace hQ := aDone hQ (show aOpen S sg (-1) (-1) (some (X, Y, rd)) = (nI (nW S), some (oF S (nW S) sg (-1) (-1) (X, Y, rd))) from if_neg (by omega))
              rw [hF, e6, e7, e8]
              dsimp only [gRt]
              refine G_goto (pc := 47) (tgt := 52) dX12_begin_47 (by decide) ?_
              refine gV1 (pc := 52) (k' := 0) (n' := 0) dX12_begin_52 lkX12_134 ⟨by decide, by decide⟩ (Nat.le_of_ble_eq_true rfl) rfl rfl ⟨by decide, by decide⟩ (by assumption) (c_actS (S := S) hM2 hA hP (hb.M hi2).F (fun k hk => by rw [va_o (by omega)]; exact hB2 k hk) (nI_big (by omega)) va_s ?_)
              intro i' hi'
              dsimp only [gRt]
              refine G_iret (pc := 55) dX12_begin_55 ⟨_, rfl, rfl⟩ ⟨by decide, by decide⟩ ?_
              exact hQ i' hi'
      · refine G_ldc (pc := 25) dX12_begin_25 kcX12_29 ?_
        refine G_iret (pc := 27) dX12_begin_27 ⟨_, rfl, rfl⟩ ⟨by decide, by decide⟩ ?_
        replace hQ := aDone hQ (show aBegin S x y sg = (-1000001, none) from if_neg (fun z => gB_eq.mp h22 z.2.2))
        exact hQ i1 (rfP.same hP hb e1)

theorem wkR_le (w : Nat) : ∀ d s, (wkR w d s).2 ≤ d
  | 0, _ => Nat.le_refl _
  | d + 1, s => by
    rw [wkR]
    have := wkR_le w d (stR s w).1
    split
    · exact Nat.zero_le _
    · split
      · show (wkR w d (stR s w).1).2 + 1 ≤ d + 1; omega
      · exact Nat.zero_le _
set_option maxRecDepth 100000 in
set_option maxHeartbeats 4000000 in
theorem c_X12_step {Γ : gG} {T : gTy} {r : gR} {l : gLg} {i : gI} {Q : gQ} {m n : Nat} {S : Nat → Int32} {P : Nat → Nat → Int32} {w k : Int32} (hM : lyM T r m) (hA : gN Γ ≤ m) (he : i (m + 1) = S) (hP : rpP i m P n) (hS : vS S) (hQ : ∀ i', rfP m i i' (nxS S (aStep S w k).2) (nxP n P S (aStep S w k).2) (nxN n (aStep S w k).2) → Q (some (.int (aStep S w k).1)) T r l i') : gC Γ MX12_step [.ref m, .int w, .int k] T r l i Q := by
  have hM2 := hM
  obtain ⟨m0, m1, m2, m3, m4, m5, m6, m7, m8, m9, m10⟩ := hM
  have hT := hS.1
  have hE := hS.2.1
  have hn6 := hT.1.1
  have hn0 := hT.1.2.1
  obtain ⟨w5, w1, wk⟩ := nW_of hS
  refine gC_of rfl (Nat.le_of_ble_eq_true rfl) (L := [(0, .ref m), (1, .int w), (2, .int k)]) rfl ?_
  refine G_aload_n (pc := 0) 0 dX12_step_0 rfl ?_
  refine gV0 (pc := 1) (k' := 0) (n' := 0) dX12_step_1 lkX12_128 ⟨by decide, by decide⟩ (Nat.le_of_ble_eq_true rfl) rfl rfl ⟨by decide, by decide⟩ (by assumption) (c_begX hM2 hA he ?_)
  intro i1 hb e1 e2
  dsimp only [gRt]
  refine G_aload_n (pc := 4) 0 dX12_step_4 rfl ?_
  refine G_aload_n (pc := 5) 0 dX12_step_5 rfl ?_
  refine G_iload_n (pc := 6) 1 dX12_step_6 rfl ?_
  refine gV1 (pc := 7) (k' := 0) (n' := 0) dX12_step_7 lkX12_146 ⟨by decide, by decide⟩ (Nat.le_of_ble_eq_true rfl) rfl rfl ⟨by decide, by decide⟩ (by assumption) (c_X12_isWalk hM2 ?_)
  dsimp only [gRt]
  rw [e1]
  refine G_if_eq (pc := 10) (tgt := 32) dX12_step_10 (by decide) (fun h10 => ?_) (fun h10 => ?_)
  · refine G_ldc (pc := 32) dX12_step_32 kcX12_29 ?_
    replace hQ := aDone hQ (show aStep S w k = (-1000001, none) from if_neg (fun z => gB_eq.mp h10 z.1))
    refine gV1 (pc := 34) (k' := 0) (n' := 0) dX12_step_34 lkX12_134 ⟨by decide, by decide⟩ (Nat.le_of_ble_eq_true rfl) rfl rfl ⟨by decide, by decide⟩ (by assumption) (c_actN (S := S) hM2 hA hP hb e2 (by decide) (fun k _ => by rw [e1]) ?_)
    intro i' hi'
    dsimp only [gRt]
    refine G_iret (pc := 37) dX12_step_37 ⟨_, rfl, rfl⟩ ⟨by decide, by decide⟩ ?_
    exact hQ i' hi'
  · refine G_iload_n (pc := 13) 2 dX12_step_13 rfl ?_
    refine G_iconst (pc := 14) (v := 1) dX12_step_14 rfl ?_
    refine G_bipush (pc := 15) (v := 40) dX12_step_15 rfl ?_
    refine gS3 (pc := 17) (k' := 0) (n' := 0) dX12_step_17 lkX12_25 ⟨by decide, by decide⟩ (Nat.le_of_ble_eq_true rfl) rfl rfl ⟨by decide, by decide⟩ (c_X12_in ?_)
    dsimp only [gRt]
    refine G_if_eq (pc := 20) (tgt := 32) dX12_step_20 (by decide) (fun h20 => ?_) (fun h20 => ?_)
    · refine G_ldc (pc := 32) dX12_step_32 kcX12_29 ?_
      replace hQ := aDone hQ (show aStep S w k = (-1000001, none) from if_neg (fun z => gB_eq.mp h20 z.2))
      refine gV1 (pc := 34) (k' := 0) (n' := 0) dX12_step_34 lkX12_134 ⟨by decide, by decide⟩ (Nat.le_of_ble_eq_true rfl) rfl rfl ⟨by decide, by decide⟩ (by assumption) (c_actN (S := S) hM2 hA hP hb e2 (by decide) (fun k _ => by rw [e1]) ?_)
      intro i' hi'
      dsimp only [gRt]
      refine G_iret (pc := 37) dX12_step_37 ⟨_, rfl, rfl⟩ ⟨by decide, by decide⟩ ?_
      exact hQ i' hi'
    · refine G_aload_n (pc := 23) 0 dX12_step_23 rfl ?_
      refine G_iload_n (pc := 24) 1 dX12_step_24 rfl ?_
      refine G_iload_n (pc := 25) 2 dX12_step_25 rfl ?_
      have hok : inI w 0 (S 1 - 1) ∧ inI k 1 40 := ⟨gB_ne.mp h10, gB_ne.mp h20⟩
      obtain ⟨a, ha, rfl⟩ := (isW (by omega)).mp (w1 ▸ hok.1)
      obtain ⟨M, M1, M40, rfl⟩ := inI_nat (a := 1) (b := 40) (by decide) (by decide) hok.2
      obtain ⟨⟨z, hv⟩, _⟩ := wk a ha
      replace hQ := aDone hQ (show aStep S (nI a) (nI M) = (if gStop S (23 + 166 * a) then (-1000002, none) else (nI (wkR (23 + 166 * a) M S).2, some (wkR (23 + 166 * a) M S).1)) by unfold aStep; rw [if_pos hok, nI_clamp (by omega), nI_clamp (by omega)])
      refine gV2 (pc := 26) (k' := 0) (n' := 0) dX12_step_26 lkX12_152 ⟨by decide, by decide⟩ (Nat.le_of_ble_eq_true rfl) rfl rfl ⟨by decide, by decide⟩ (by assumption) (c_X12_walks (S := S) (z := z) hM2 hA (by omega) M40 e1 hT hE hv ?_ ?_)
      · intro hs
        rw [if_pos hs] at hQ
        dsimp only [gRt]
        refine G_goto (pc := 29) (tgt := 34) dX12_step_29 (by decide) ?_
        refine gV1 (pc := 34) (k' := 0) (n' := 0) dX12_step_34 lkX12_134 ⟨by decide, by decide⟩ (Nat.le_of_ble_eq_true rfl) rfl rfl ⟨by decide, by decide⟩ (by assumption) (c_actN (S := S) hM2 hA hP hb e2 (by decide) (fun k _ => by rw [e1]) ?_)
        intro i' hi'
        dsimp only [gRt]
        refine G_iret (pc := 37) dX12_step_37 ⟨_, rfl, rfl⟩ ⟨by decide, by decide⟩ ?_
        exact hQ i' hi'
      · intro hs i2 hi2
        rw [if_neg hs] at hQ
        have hle := wkR_le (23 + 166 * a) M S
        dsimp only [gRt]
        refine G_goto (pc := 29) (tgt := 34) dX12_step_29 (by decide) ?_
        refine gV1 (pc := 34) (k' := 0) (n' := 0) dX12_step_34 lkX12_134 ⟨by decide, by decide⟩ (Nat.le_of_ble_eq_true rfl) rfl rfl ⟨by decide, by decide⟩ (by assumption) (c_actS (S := S) hM2 hA hP (hb.N hi2) (fun k hk => by rw [hi2.1 (m + 2) (by omega) (by omega)]; exact e2 k hk) (nI_big (by omega)) hi2.2.2 ?_)
        intro i' hi'
        dsimp only [gRt]
        refine G_iret (pc := 37) dX12_step_37 ⟨_, rfl, rfl⟩ ⟨by decide, by decide⟩ ?_
        exact hQ i' hi'

