/-! the law: holds -/
def unF (S : Nat → Int32) (w k : Nat) : Int32 := if aWalkN S k 6 = nI w then 1 + aWalkN S k 8 else 0
theorem unF_y {S : Nat → Int32} {w j : Nat} (h : aWalkN S j 6 = nI w) : gSumI (unF S w) j + (1 + aWalkN S j 8) = gSumI (unF S w) (j + 1) := by rw [gSumI, unF, if_pos h]
theorem unF_n {S : Nat → Int32} {w j : Nat} (h : ¬ aWalkN S j 6 = nI w) : gSumI (unF S w) j + 0 = gSumI (unF S w) (j + 1) := by rw [gSumI, unF, if_neg h]
theorem unF_all {S : Nat → Int32} (h : vS S) {w : Nat} (hw : w < nW S) : gSumI (unF S w) (nW S) = aWalkN S w 8 := under_eq h hw
theorem aCount_2 {S : Nat → Int32} {n ln : Nat} : aCount S n ln 2 = gSumI (fun k => aWalkN S k 0) (nW S) := rfl
theorem aCount_3 {S : Nat → Int32} {n ln : Nat} : aCount S n ln 3 = gSumI (fun k => aWalkN S k 4) (nW S) := swS_1
theorem aCount_4 {S : Nat → Int32} {n ln : Nat} : aCount S n ln 4 = gSumI (fun k => aWalkN S k 5) (nW S) := swS_2
/-- stuck, or full, or neither -/
theorem st_of {S : Nat → Int32} (h : vS S) (hx : xS S) {w : Nat} (hw : w < nW S) : (nI (szW S (23 + 166 * w)) = 40 ↔ aWalkOf S (nI w) 3 = 2) ∧ (aWalkOf S (nI w) 2 = 0 ↔ aWalkOf S (nI w) 3 = 1) ∧ aWalkOf S (nI w) 0 = nI (szW S (23 + 166 * w)) := by
  obtain ⟨⟨z, hz⟩, _⟩ := (nW_of h).2.2 w hw
  have e3 : aWalkOf S (nI w) 3 = stS S (23 + 166 * w) := aWalkOf_at h hw (c := 3) (by decide)
  have e2 : aWalkOf S (nI w) 2 = S (23 + 166 * w + 2) := aWalkOf_at h hw (c := 2) (by decide)
  have e0 : aWalkOf S (nI w) 0 = S (23 + 166 * w) := aWalkOf_at h hw (c := 0) (by decide)
  have es : S (23 + 166 * w) = nI (szW S (23 + 166 * w)) := by rw [szW_v hz]; exact hz.1
  obtain ⟨x1, x2, x3, x4⟩ := (hx w hw).1
  refine ⟨?_, ?_, e0.trans es⟩
  · rw [e3, ← es]
    show _ ↔ (if S (23 + 166 * w + 3) = 1 then (1 : Int32) else if S (23 + 166 * w) = 40 then 2 else 0) = 2
    by_cases h3 : S (23 + 166 * w + 3) = 1
    · rw [if_pos h3]
      exact ⟨fun q => absurd q (x4 h3), fun q => absurd q (by decide)⟩
    · rw [if_neg h3]
      by_cases h4 : S (23 + 166 * w) = 40
      · rw [if_pos h4]; exact ⟨fun _ => rfl, fun _ => h4⟩
      · rw [if_neg h4]; exact ⟨fun q => absurd q h4, fun q => absurd q (by decide)⟩
  · rw [e3, e2, ← x3]
    show _ ↔ (if S (23 + 166 * w + 3) = 1 then (1 : Int32) else if S (23 + 166 * w) = 40 then 2 else 0) = 1
    by_cases h3 : S (23 + 166 * w + 3) = 1
    · rw [if_pos h3]; exact ⟨fun _ => rfl, fun _ => h3⟩
    · rw [if_neg h3]
      refine ⟨fun q => absurd q h3, fun q => ?_⟩
      split at q <;> exact absurd q (by decide)
/-- what a walk was begun from -/
theorem par_of {S : Nat → Int32} (h : vS S) (hx : xS S) {w : Nat} (hw : w < nW S) : (aWalkOf S (nI w) 6 = -1000004 ↔ aWalkOf S (nI w) 7 = -1000004) ∧ ¬ nI w ≤ aWalkOf S (nI w) 6 ∧ (¬ aWalkOf S (nI w) 6 < 0 → aPlaceOf S (aWalkOf S (nI w) 6) (aWalkOf S (nI w) 7) 3 = 2) := by
  have h5 := (nW_of h).1
  have e6 : aWalkOf S (nI w) 6 = if S (23 + 166 * w + 4) < 0 then -1000004 else S (23 + 166 * w + 4) := aWalkOf_at h hw (c := 6) (by decide)
  have e7 : aWalkOf S (nI w) 7 = if S (23 + 166 * w + 4) < 0 then -1000004 else S (23 + 166 * w + 5) := aWalkOf_at h hw (c := 7) (by decide)
  rcases (hx w hw).2 with e | ⟨q, f, hq, a4, a5, hf, hk⟩
  · rw [e, if_pos (show (-1 : Int32) < 0 by decide)] at e6 e7
    rw [e6, e7]
    refine ⟨Iff.rfl, fun z => ?_, fun z => absurd (show (-1000004 : Int32) < 0 by decide) z⟩
    rw [Int32.le_iff_toInt_le, nI_toInt (by omega), show (-1000004 : Int32).toInt = -1000004 by decide] at z
    omega
  · have f40 := (sz40 h (k := q) (by omega)).2
    rw [a4, if_neg (nI_pos (by omega))] at e6
    rw [a4, if_neg (nI_pos (by omega)), a5] at e7
    rw [e6, e7]
    have n6 : ∀ g, g < 100 → ¬ nI g = -1000004 := fun g hg z => absurd (show nI g < 0 by rw [z]; decide) (nI_pos (by omega))
    refine ⟨⟨fun z => absurd z (n6 q (by omega)), fun z => absurd z (n6 f (by omega))⟩, nI_ge hq (by omega), fun _ => ?_⟩
    exact (aPlaceOf_at h (w := q) (by omega) hf (c := 3) (by decide)).trans hk
set_option maxRecDepth 100000 in
set_option maxHeartbeats 4000000 in
theorem lp_L_holds_u {Γ : gG} {T : gTy} {r : gR} {l : gLg} {Q : gQ} {x n ln : Nat} {S : Nat → Int32} {P : Nat → Nat → Int32} {tx : Nat → Int32} {w : Nat} {v v3 v4 v5 v7 v8 v9 : Int32} (hA : gN Γ ≤ x) (hS : vS S) (hw : w < nW S) (hK : ∀ i', lwX T r i' x S P n tx ln → G Γ ML_holds 0 0 102 [(0, .ref x), (1, .int v), (2, .int (nI (nW S))), (3, .int v3), (4, .int v4), (5, .int v5), (6, .int (nI w)), (7, .int v7), (8, .int v8), (9, .int v9), (10, .int (aWalkN S w 8)), (11, .int (nI (nW S)))] [] T r l i' Q) : ∀ d j i, j + d = nW S → lwX T r i x S P n tx ln → G Γ ML_holds 0 0 58 [(0, .ref x), (1, .int v), (2, .int (nI (nW S))), (3, .int v3), (4, .int v4), (5, .int v5), (6, .int (nI w)), (7, .int v7), (8, .int v8), (9, .int v9), (10, .int (gSumI (unF S w) j)), (11, .int (nI j))] [] T r l i Q := by
  intro d
  induction d with
  | zero =>
    intro j i hj hX
    obtain rfl : j = nW S := by omega
    rw [unF_all hS hw]
    refine G_iload (pc := 58) 11 dL_holds_58 rfl ?_
    refine G_iload_n (pc := 60) 2 dL_holds_60 rfl ?_
    refine G_icmp_ge (pc := 61) (tgt := 102) dL_holds_61 (by decide) (fun h61 => ?_) (fun h61 => ?_)
    · exact hK i hX
    · exact absurd (Int32.le_refl _) h61
  | succ d ih =>
    intro j i hj hX
    have h5 := (nW_of hS).1
    have hj2 : j < nW S := by omega
    refine G_iload (pc := 58) 11 dL_holds_58 rfl ?_
    refine G_iload_n (pc := 60) 2 dL_holds_60 rfl ?_
    refine G_icmp_ge (pc := 61) (tgt := 102) dL_holds_61 (by decide) (fun h61 => ?_) (fun h61 => ?_)
    · exact absurd h61 (nI_ge (by omega) (by omega))
    · refine G_iload (pc := 64) 10 dL_holds_64 rfl ?_
      refine G_aload_n (pc := 66) 0 dL_holds_66 rfl ?_
      refine G_iload (pc := 67) 11 dL_holds_67 rfl ?_
      refine G_bipush (pc := 69) (v := 6) dL_holds_69 rfl ?_
      refine gV2 (pc := 71) (k' := 0) (n' := 0) dL_holds_71 lkL_23 ⟨by decide, by decide⟩ (Nat.le_of_ble_eq_true rfl) rfl rfl ⟨by decide, by decide⟩ hX.k (q_walkOf hA hX ?_)
      intro i hX
      dsimp only [gRt]
      rw [show aWalkOf S (nI j) 6 = aWalkN S j 6 from aWalkOf_at hS hj2 (c := 6) (by decide)]
      refine G_iload (pc := 74) 6 dL_holds_74 rfl ?_
      refine G_icmp_ne (pc := 76) (tgt := 92) dL_holds_76 (by decide) (fun h76 => ?_) (fun h76 => ?_)
      · refine G_iconst (pc := 92) (v := 0) dL_holds_92 rfl ?_
        refine G_iadd (pc := 93) dL_holds_93 ?_
        refine G_st10 (pc := 94) (gSt_i dL_holds_94 (by decide)) rfl ?_
        refine G_inc11 (pc := 96) (v := 1) dL_holds_96 rfl (by decide) rfl ?_
        refine G_goto (pc := 99) (tgt := 58) dL_holds_99 (by decide) ?_
        rw [nI_1, unF_n h76]
        exact ih (j + 1) i (by omega) hX
      · refine G_iconst (pc := 79) (v := 1) dL_holds_79 rfl ?_
        refine G_aload_n (pc := 80) 0 dL_holds_80 rfl ?_
        refine G_iload (pc := 81) 11 dL_holds_81 rfl ?_
        refine G_bipush (pc := 83) (v := 8) dL_holds_83 rfl ?_
        refine gV2 (pc := 85) (k' := 0) (n' := 0) dL_holds_85 lkL_23 ⟨by decide, by decide⟩ (Nat.le_of_ble_eq_true rfl) rfl rfl ⟨by decide, by decide⟩ hX.k (q_walkOf hA hX ?_)
        intro i hX
        dsimp only [gRt]
        rw [show aWalkOf S (nI j) 8 = aWalkN S j 8 from aWalkOf_at hS hj2 (c := 8) (by decide)]
        refine G_iadd (pc := 88) dL_holds_88 ?_
        refine G_goto (pc := 89) (tgt := 93) dL_holds_89 (by decide) ?_
        refine G_iadd (pc := 93) dL_holds_93 ?_
        refine G_st10 (pc := 94) (gSt_i dL_holds_94 (by decide)) rfl ?_
        refine G_inc11 (pc := 96) (v := 1) dL_holds_96 rfl (by decide) rfl ?_
        refine G_goto (pc := 99) (tgt := 58) dL_holds_99 (by decide) ?_
        rw [nI_1, unF_y h76]
        exact ih (j + 1) i (by omega) hX

set_option maxRecDepth 100000 in
set_option maxHeartbeats 4000000 in
theorem lp_L_holds {Γ : gG} {T : gTy} {r : gR} {Q : gQ} {x n ln : Nat} {S : Nat → Int32} {P : Nat → Nat → Int32} {tx : Nat → Int32} {v : Int32} (hA : gN Γ ≤ x) (hS : vS S) (hx : xS S) (hQ : ∀ l' i', lwX T r i' x S P n tx ln → Q (some (.int 1)) T r l' i') : ∀ d w l i, w + d = nW S → lwX T r i x S P n tx ln → G Γ ML_holds 0 0 17 [(0, .ref x), (1, .int v), (2, .int (nI (nW S))), (3, .int (gSumI (fun k => aWalkN S k 0) w)), (4, .int (gSumI (fun k => aWalkN S k 4) w)), (5, .int (gSumI (fun k => aWalkN S k 5) w)), (6, .int (nI w))] [] T r l i Q := by
  intro d
  induction d with
  | zero =>
    intro w l i hk hX
    obtain rfl : w = nW S := by omega
    refine G_iload (pc := 17) 6 dL_holds_17 rfl ?_
    refine G_iload_n (pc := 19) 2 dL_holds_19 rfl ?_
    refine G_icmp_ge (pc := 20) (tgt := 379) dL_holds_20 (by decide) (fun h20 => ?_) (fun h20 => ?_)
    · refine G_iload_n (pc := 379) 3 dL_holds_379 rfl ?_
      refine G_aload_n (pc := 380) 0 dL_holds_380 rfl ?_
      refine G_iconst (pc := 381) (v := 2) dL_holds_381 rfl ?_
      refine gV1 (pc := 382) (k' := 0) (n' := 0) dL_holds_382 lkL_13 ⟨by decide, by decide⟩ (Nat.le_of_ble_eq_true rfl) rfl rfl ⟨by decide, by decide⟩ hX.k (q_count hA hX ?_)
      dsimp only [gRt]
      rw [aCount_2]
      refine G_icmp_ne (pc := 385) (tgt := 412) dL_holds_385 (by decide) (fun h385 => ?_) (fun h385 => ?_)
      · exact absurd rfl h385
      · refine G_iload (pc := 388) 4 dL_holds_388 rfl ?_
        refine G_aload_n (pc := 390) 0 dL_holds_390 rfl ?_
        refine G_iconst (pc := 391) (v := 3) dL_holds_391 rfl ?_
        refine gV1 (pc := 392) (k' := 0) (n' := 0) dL_holds_392 lkL_13 ⟨by decide, by decide⟩ (Nat.le_of_ble_eq_true rfl) rfl rfl ⟨by decide, by decide⟩ hX.k (q_count hA hX ?_)
        dsimp only [gRt]
        rw [aCount_3]
        refine G_icmp_ne (pc := 395) (tgt := 412) dL_holds_395 (by decide) (fun h395 => ?_) (fun h395 => ?_)
        · exact absurd rfl h395
        · refine G_iload (pc := 398) 5 dL_holds_398 rfl ?_
          refine G_aload_n (pc := 400) 0 dL_holds_400 rfl ?_
          refine G_iconst (pc := 401) (v := 4) dL_holds_401 rfl ?_
          refine gV1 (pc := 402) (k' := 0) (n' := 0) dL_holds_402 lkL_13 ⟨by decide, by decide⟩ (Nat.le_of_ble_eq_true rfl) rfl rfl ⟨by decide, by decide⟩ hX.k (q_count hA hX ?_)
          dsimp only [gRt]
          rw [aCount_4]
          refine G_icmp_ne (pc := 405) (tgt := 412) dL_holds_405 (by decide) (fun h405 => ?_) (fun h405 => ?_)
          · exact absurd rfl h405
          · refine G_iconst (pc := 408) (v := 1) dL_holds_408 rfl ?_
            refine G_goto (pc := 409) (tgt := 413) dL_holds_409 (by decide) ?_
            refine G_iret (pc := 413) dL_holds_413 ⟨_, rfl, rfl⟩ ⟨by decide, by decide⟩ ?_
            exact hQ l i hX
    · exact absurd (Int32.le_refl _) h20
  | succ d ih =>
    intro w l i hk hX
    have hw : w < nW S := by omega
    have h5 := (nW_of hS).1
    obtain ⟨s1, s2⟩ := sz40 hS hw
    obtain ⟨⟨z, hz⟩, _⟩ := (nW_of hS).2.2 w hw
    obtain ⟨f1, f2, e0⟩ := st_of hS hx hw
    obtain ⟨g1, g2, g3⟩ := par_of hS hx hw
    have e00 : aWalkN S w 0 = nI (szW S (23 + 166 * w)) := (aWalkOf_at hS hw (c := 0) (by decide)).symm.trans e0
    refine G_iload (pc := 17) 6 dL_holds_17 rfl ?_
    refine G_iload_n (pc := 19) 2 dL_holds_19 rfl ?_
    refine G_icmp_ge (pc := 20) (tgt := 379) dL_holds_20 (by decide) (fun h20 => ?_) (fun h20 => ?_)
    · exact absurd h20 (nI_ge (by omega) (by omega))
    · refine G_aload_n (pc := 23) 0 dL_holds_23 rfl ?_
      refine G_iload (pc := 24) 6 dL_holds_24 rfl ?_
      refine G_iconst (pc := 26) (v := 0) dL_holds_26 rfl ?_
      refine gV2 (pc := 27) (k' := 0) (n' := 0) dL_holds_27 lkL_23 ⟨by decide, by decide⟩ (Nat.le_of_ble_eq_true rfl) rfl rfl ⟨by decide, by decide⟩ hX.k (q_walkOf hA hX ?_)
      intro i hX
      dsimp only [gRt]
      rw [e0]
      refine G_sn7 (pc := 30) (gSt_i dL_holds_30 (by decide)) rfl ?_
      refine G_aload_n (pc := 32) 0 dL_holds_32 rfl ?_
      refine G_iload (pc := 33) 6 dL_holds_33 rfl ?_
      refine G_bipush (pc := 35) (v := 6) dL_holds_35 rfl ?_
      refine gV2 (pc := 37) (k' := 0) (n' := 0) dL_holds_37 lkL_23 ⟨by decide, by decide⟩ (Nat.le_of_ble_eq_true rfl) rfl rfl ⟨by decide, by decide⟩ hX.k (q_walkOf hA hX ?_)
      intro i hX
      dsimp only [gRt]
      refine G_sn8 (pc := 40) (gSt_i dL_holds_40 (by decide)) rfl ?_
      refine G_aload_n (pc := 42) 0 dL_holds_42 rfl ?_
      refine G_iload (pc := 43) 6 dL_holds_43 rfl ?_
      refine G_bipush (pc := 45) (v := 7) dL_holds_45 rfl ?_
      refine gV2 (pc := 47) (k' := 0) (n' := 0) dL_holds_47 lkL_23 ⟨by decide, by decide⟩ (Nat.le_of_ble_eq_true rfl) rfl rfl ⟨by decide, by decide⟩ hX.k (q_walkOf hA hX ?_)
      intro i hX
      dsimp only [gRt]
      refine G_sn9 (pc := 50) (gSt_i dL_holds_50 (by decide)) rfl ?_
      refine G_iconst (pc := 52) (v := 0) dL_holds_52 rfl ?_
      refine G_sn10 (pc := 53) (gSt_i dL_holds_53 (by decide)) rfl ?_
      refine G_iconst (pc := 55) (v := 0) dL_holds_55 rfl ?_
      refine G_sn11 (pc := 56) (gSt_i dL_holds_56 (by decide)) rfl ?_
      refine lp_L_holds_u hA hS hw (fun i hX => ?_) (nW S) 0 i (Nat.zero_add _) hX
      refine G_iload_n (pc := 102) 3 dL_holds_102 rfl ?_
      refine G_iload (pc := 103) 7 dL_holds_103 rfl ?_
      refine G_iadd (pc := 105) dL_holds_105 ?_
      refine G_st3 (pc := 106) (gSt_in dL_holds_106 rfl (by decide)) rfl ?_
      refine G_iload (pc := 107) 4 dL_holds_107 rfl ?_
      refine G_aload_n (pc := 109) 0 dL_holds_109 rfl ?_
      refine G_iload (pc := 110) 6 dL_holds_110 rfl ?_
      refine G_iconst (pc := 112) (v := 4) dL_holds_112 rfl ?_
      refine gV2 (pc := 113) (k' := 0) (n' := 0) dL_holds_113 lkL_23 ⟨by decide, by decide⟩ (Nat.le_of_ble_eq_true rfl) rfl rfl ⟨by decide, by decide⟩ hX.k (q_walkOf hA hX ?_)
      intro i hX
      dsimp only [gRt]
      rw [show aWalkOf S (nI w) 4 = aWalkN S w 4 from aWalkOf_at hS hw (c := 4) (by decide)]
      refine G_iadd (pc := 116) dL_holds_116 ?_
      refine G_st4 (pc := 117) (gSt_i dL_holds_117 (by decide)) rfl ?_
      refine G_iload (pc := 119) 5 dL_holds_119 rfl ?_
      refine G_aload_n (pc := 121) 0 dL_holds_121 rfl ?_
      refine G_iload (pc := 122) 6 dL_holds_122 rfl ?_
      refine G_iconst (pc := 124) (v := 5) dL_holds_124 rfl ?_
      refine gV2 (pc := 125) (k' := 0) (n' := 0) dL_holds_125 lkL_23 ⟨by decide, by decide⟩ (Nat.le_of_ble_eq_true rfl) rfl rfl ⟨by decide, by decide⟩ hX.k (q_walkOf hA hX ?_)
      intro i hX
      dsimp only [gRt]
      rw [show aWalkOf S (nI w) 5 = aWalkN S w 5 from aWalkOf_at hS hw (c := 5) (by decide)]
      refine G_iadd (pc := 128) dL_holds_128 ?_
      refine G_st5 (pc := 129) (gSt_i dL_holds_129 (by decide)) rfl ?_
      refine G_iload_n (pc := 131) 1 dL_holds_131 rfl ?_
      refine G_iload (pc := 132) 6 dL_holds_132 rfl ?_
      refine G_ishr (pc := 134) dL_holds_134 ?_
      refine G_iload (pc := 135) 7 dL_holds_135 rfl ?_
      refine gS2 (pc := 137) (k' := 0) (n' := 0) dL_holds_137 lkL_36 ⟨by decide, by decide⟩ (Nat.le_of_ble_eq_true rfl) rfl rfl ⟨by decide, by decide⟩ (c_L_low s1 (by omega) ?_)
      intro j hj
      dsimp only [gRt]
      refine G_st11 (pc := 140) (gSt_i dL_holds_140 (by decide)) rfl ?_
      refine G_aload_n (pc := 142) 0 dL_holds_142 rfl ?_
      refine G_iload (pc := 143) 6 dL_holds_143 rfl ?_
      refine G_iload (pc := 145) 11 dL_holds_145 rfl ?_
      refine G_iconst (pc := 147) (v := 0) dL_holds_147 rfl ?_
      refine gV3 (pc := 148) (k' := 0) (n' := 0) dL_holds_148 lkL_28 ⟨by decide, by decide⟩ (Nat.le_of_ble_eq_true rfl) rfl rfl ⟨by decide, by decide⟩ hX.k (q_placeOf hA hX ?_)
      dsimp only [gRt]
      rw [show aPlaceOf S (nI w) (nI j) 0 = S (23 + 166 * w + 6 + 4 * j + 0) from aPlaceOf_at hS hw hj (c := 0) (by decide)]
      refine G_sn12 (pc := 151) (gSt_i dL_holds_151 (by decide)) rfl ?_
      refine G_aload_n (pc := 153) 0 dL_holds_153 rfl ?_
      refine G_iload (pc := 154) 6 dL_holds_154 rfl ?_
      refine G_iload (pc := 156) 11 dL_holds_156 rfl ?_
      refine G_iconst (pc := 158) (v := 1) dL_holds_158 rfl ?_
      refine gV3 (pc := 159) (k' := 0) (n' := 0) dL_holds_159 lkL_28 ⟨by decide, by decide⟩ (Nat.le_of_ble_eq_true rfl) rfl rfl ⟨by decide, by decide⟩ hX.k (q_placeOf hA hX ?_)
      dsimp only [gRt]
      rw [show aPlaceOf S (nI w) (nI j) 1 = S (23 + 166 * w + 6 + 4 * j + 1) from aPlaceOf_at hS hw hj (c := 1) (by decide)]
      obtain ⟨b0, b1, _⟩ := hz.2.2.2.2.2 j (by rw [szW_v hz] at hj; omega)
      obtain ⟨c0, c2⟩ := aCorr_fx hS b0 b1 ((hx w hw).1.1 j hj)
      obtain ⟨jn, hjn, en⟩ := aNear_at hS hw hj
      refine G_sn13 (pc := 162) (gSt_i dL_holds_162 (by decide)) rfl ?_
      refine G_iload (pc := 164) 7 dL_holds_164 rfl ?_
      refine G_if_le (pc := 166) (tgt := 292) dL_holds_166 (by decide) (fun h166 => ?_) (fun h166 => ?_)
      · exact absurd h166 (nI_nle (by omega) (by omega))
      · refine G_iload (pc := 169) 7 dL_holds_169 rfl ?_
        refine G_bipush (pc := 171) (v := 40) dL_holds_171 rfl ?_
        refine G_icmp_gt (pc := 173) (tgt := 292) dL_holds_173 (by decide) (fun h173 => ?_) (fun h173 => ?_)
        · exact absurd h173 (nI_nlt (a := 40) s2 (by decide))
        · refine G_aload_n (pc := 176) 0 dL_holds_176 rfl ?_
          refine G_iload (pc := 177) 6 dL_holds_177 rfl ?_
          refine G_bipush (pc := 179) (v := 8) dL_holds_179 rfl ?_
          refine gV2 (pc := 181) (k' := 0) (n' := 0) dL_holds_181 lkL_23 ⟨by decide, by decide⟩ (Nat.le_of_ble_eq_true rfl) rfl rfl ⟨by decide, by decide⟩ hX.k (q_walkOf hA hX ?_)
          intro i hX
          dsimp only [gRt]
          rw [show aWalkOf S (nI w) 8 = aWalkN S w 8 from aWalkOf_at hS hw (c := 8) (by decide)]
          refine G_iload (pc := 184) 10 dL_holds_184 rfl ?_
          refine G_icmp_ne (pc := 186) (tgt := 292) dL_holds_186 (by decide) (fun h186 => ?_) (fun h186 => ?_)
          · exact absurd rfl h186
          · refine G_iload (pc := 189) 8 dL_holds_189 rfl ?_
            refine G_ldc (pc := 191) dL_holds_191 kcL_41 ?_
            refine G_diaN (pc := 193) (va := 1) (vb := 0) (fun kt kf => G_icmp_ne (pc := 193) (tgt := 200) dL_holds_193 (by decide) kt kf) dL_holds_196 rfl dL_holds_197 (by decide) dL_holds_200 rfl rfl ?_
            refine G_iload (pc := 201) 9 dL_holds_201 rfl ?_
            refine G_ldc (pc := 203) dL_holds_203 kcL_41 ?_
            refine G_diaN (pc := 205) (va := 1) (vb := 0) (fun kt kf => G_icmp_ne (pc := 205) (tgt := 212) dL_holds_205 (by decide) kt kf) dL_holds_208 rfl dL_holds_209 (by decide) dL_holds_212 rfl rfl ?_
            refine G_icmp_ne (pc := 213) (tgt := 292) dL_holds_213 (by decide) (fun h213 => ?_) (fun h213 => ?_)
            · exact absurd (by simp only [g1]) h213
            · refine G_iload (pc := 216) 8 dL_holds_216 rfl ?_
              refine G_iload (pc := 218) 6 dL_holds_218 rfl ?_
              refine G_icmp_ge (pc := 220) (tgt := 292) dL_holds_220 (by decide) (fun h220 => ?_) (fun h220 => ?_)
              · exact absurd h220 g2
              · refine G_iload (pc := 223) 7 dL_holds_223 rfl ?_
                refine G_bipush (pc := 225) (v := 40) dL_holds_225 rfl ?_
                refine G_diaN (pc := 227) (va := 1) (vb := 0) (fun kt kf => G_icmp_ne (pc := 227) (tgt := 234) dL_holds_227 (by decide) kt kf) dL_holds_230 rfl dL_holds_231 (by decide) dL_holds_234 rfl rfl ?_
                refine G_aload_n (pc := 235) 0 dL_holds_235 rfl ?_
                refine G_iload (pc := 236) 6 dL_holds_236 rfl ?_
                refine G_iconst (pc := 238) (v := 3) dL_holds_238 rfl ?_
                refine gV2 (pc := 239) (k' := 0) (n' := 0) dL_holds_239 lkL_23 ⟨by decide, by decide⟩ (Nat.le_of_ble_eq_true rfl) rfl rfl ⟨by decide, by decide⟩ hX.k (q_walkOf hA hX ?_)
                intro i hX
                dsimp only [gRt]
                refine G_iconst (pc := 242) (v := 2) dL_holds_242 rfl ?_
                refine G_diaN (pc := 243) (va := 1) (vb := 0) (fun kt kf => G_icmp_ne (pc := 243) (tgt := 250) dL_holds_243 (by decide) kt kf) dL_holds_246 rfl dL_holds_247 (by decide) dL_holds_250 rfl rfl ?_
                refine G_icmp_ne (pc := 251) (tgt := 292) dL_holds_251 (by decide) (fun h251 => ?_) (fun h251 => ?_)
                · exact absurd (by simp only [f1]) h251
                · refine G_aload_n (pc := 254) 0 dL_holds_254 rfl ?_
                  refine G_iload (pc := 255) 6 dL_holds_255 rfl ?_
                  refine G_iconst (pc := 257) (v := 2) dL_holds_257 rfl ?_
                  refine gV2 (pc := 258) (k' := 0) (n' := 0) dL_holds_258 lkL_23 ⟨by decide, by decide⟩ (Nat.le_of_ble_eq_true rfl) rfl rfl ⟨by decide, by decide⟩ hX.k (q_walkOf hA hX ?_)
                  intro i hX
                  dsimp only [gRt]
                  refine G_diaN (pc := 261) (va := 1) (vb := 0) (fun kt kf => G_if_ne (pc := 261) (tgt := 268) dL_holds_261 (by decide) kt kf) dL_holds_264 rfl dL_holds_265 (by decide) dL_holds_268 rfl rfl ?_
                  refine G_aload_n (pc := 269) 0 dL_holds_269 rfl ?_
                  refine G_iload (pc := 270) 6 dL_holds_270 rfl ?_
                  refine G_iconst (pc := 272) (v := 3) dL_holds_272 rfl ?_
                  refine gV2 (pc := 273) (k' := 0) (n' := 0) dL_holds_273 lkL_23 ⟨by decide, by decide⟩ (Nat.le_of_ble_eq_true rfl) rfl rfl ⟨by decide, by decide⟩ hX.k (q_walkOf hA hX ?_)
                  intro i hX
                  dsimp only [gRt]
                  refine G_iconst (pc := 276) (v := 1) dL_holds_276 rfl ?_
                  refine G_diaN (pc := 277) (va := 1) (vb := 0) (fun kt kf => G_icmp_ne (pc := 277) (tgt := 284) dL_holds_277 (by decide) kt kf) dL_holds_280 rfl dL_holds_281 (by decide) dL_holds_284 rfl rfl ?_
                  refine G_icmp_ne (pc := 285) (tgt := 292) dL_holds_285 (by decide) (fun h285 => ?_) (fun h285 => ?_)
                  · exact absurd (by simp only [f2]) h285
                  · refine G_iconst (pc := 288) (v := 1) dL_holds_288 rfl ?_
                    refine G_goto (pc := 289) (tgt := 293) dL_holds_289 (by decide) ?_
                    refine G_sn14 (pc := 293) (gSt_i dL_holds_293 (by decide)) rfl ?_
                    refine G_iload (pc := 295) 14 dL_holds_295 rfl ?_
                    refine G_if_eq (pc := 297) (tgt := 371) dL_holds_297 (by decide) (fun h297 => ?_) (fun h297 => ?_)
                    · exact absurd h297 (by decide)
                    · refine G_iload (pc := 300) 8 dL_holds_300 rfl ?_
                      refine G_if_lt (pc := 302) (tgt := 318) dL_holds_302 (by decide) (fun h302 => ?_) (fun h302 => ?_)
                      · refine G_aload_n (pc := 318) 0 dL_holds_318 rfl ?_
                        refine G_iload (pc := 319) 6 dL_holds_319 rfl ?_
                        refine G_iconst (pc := 321) (v := 0) dL_holds_321 rfl ?_
                        refine G_iconst (pc := 322) (v := 3) dL_holds_322 rfl ?_
                        refine gV3 (pc := 323) (k' := 0) (n' := 0) dL_holds_323 lkL_28 ⟨by decide, by decide⟩ (Nat.le_of_ble_eq_true rfl) rfl rfl ⟨by decide, by decide⟩ hX.k (q_placeOf hA hX ?_)
                        dsimp only [gRt]
                        rw [show aPlaceOf S (nI w) 0 3 = 0 from (aPlaceOf_at hS hw (p := 0) (by omega) (c := 3) (by decide)).trans (hx w hw).1.2.1]
                        refine G_if_ne (pc := 326) (tgt := 371) dL_holds_326 (by decide) (fun h326 => ?_) (fun h326 => ?_)
                        · exact absurd rfl h326
                        · refine G_aload_n (pc := 329) 0 dL_holds_329 rfl ?_
                          refine G_iload (pc := 330) 12 dL_holds_330 rfl ?_
                          refine G_iload (pc := 332) 13 dL_holds_332 rfl ?_
                          refine G_iconst (pc := 334) (v := 2) dL_holds_334 rfl ?_
                          refine gV3 (pc := 335) (k' := 0) (n' := 0) dL_holds_335 lkL_42 ⟨by decide, by decide⟩ (Nat.le_of_ble_eq_true rfl) rfl rfl ⟨by decide, by decide⟩ hX.k (q_corrected hA hX ?_)
                          intro l i hX
                          dsimp only [gRt]
                          rw [c2]
                          refine G_iconst (pc := 338) (v := 1) dL_holds_338 rfl ?_
                          refine G_icmp_ne (pc := 339) (tgt := 371) dL_holds_339 (by decide) (fun h339 => ?_) (fun h339 => ?_)
                          · exact absurd rfl h339
                          · refine G_aload_n (pc := 342) 0 dL_holds_342 rfl ?_
                            refine G_iload (pc := 343) 12 dL_holds_343 rfl ?_
                            refine G_iload (pc := 345) 13 dL_holds_345 rfl ?_
                            refine G_iconst (pc := 347) (v := 0) dL_holds_347 rfl ?_
                            refine gV3 (pc := 348) (k' := 0) (n' := 0) dL_holds_348 lkL_42 ⟨by decide, by decide⟩ (Nat.le_of_ble_eq_true rfl) rfl rfl ⟨by decide, by decide⟩ hX.k (q_corrected hA hX ?_)
                            intro l i hX
                            dsimp only [gRt]
                            rw [c0]
                            refine G_iload (pc := 351) 12 dL_holds_351 rfl ?_
                            refine G_icmp_ne (pc := 353) (tgt := 371) dL_holds_353 (by decide) (fun h353 => ?_) (fun h353 => ?_)
                            · exact absurd rfl h353
                            · refine G_aload_n (pc := 356) 0 dL_holds_356 rfl ?_
                              refine G_iload (pc := 357) 6 dL_holds_357 rfl ?_
                              refine G_iload (pc := 359) 12 dL_holds_359 rfl ?_
                              refine G_iload (pc := 361) 13 dL_holds_361 rfl ?_
                              refine gV3 (pc := 363) (k' := 0) (n' := 0) dL_holds_363 lkL_45 ⟨by decide, by decide⟩ (Nat.le_of_ble_eq_true rfl) rfl rfl ⟨by decide, by decide⟩ hX.k (q_nearest hA hX ?_)
                              dsimp only [gRt]
                              rw [en]
                              refine G_iload (pc := 366) 11 dL_holds_366 rfl ?_
                              refine G_icmp_le (pc := 368) (tgt := 373) dL_holds_368 (by decide) (fun h368 => ?_) (fun h368 => ?_)
                              · refine G_inc6 (pc := 373) (v := 1) dL_holds_373 rfl (by decide) rfl ?_
                                refine G_goto (pc := 376) (tgt := 17) dL_holds_376 (by decide) ?_
                                refine G_drop14 ?_
                                refine G_drop13 ?_
                                refine G_drop12 ?_
                                refine G_drop11 ?_
                                refine G_drop10 ?_
                                refine G_drop9 ?_
                                refine G_drop8 ?_
                                refine G_drop7 ?_
                                rw [nI_1, show gSumI (fun k => aWalkN S k 0) w + nI (szW S (23 + 166 * w)) = gSumI (fun k => aWalkN S k 0) (w + 1) from by rw [← e00]; rfl]
                                exact ih (w + 1) l i (by omega) hX
                              · exact absurd (nI_le hjn (by omega)) h368
                      · refine G_aload_n (pc := 305) 0 dL_holds_305 rfl ?_
                        refine G_iload (pc := 306) 8 dL_holds_306 rfl ?_
                        refine G_iload (pc := 308) 9 dL_holds_308 rfl ?_
                        refine G_iconst (pc := 310) (v := 3) dL_holds_310 rfl ?_
                        refine gV3 (pc := 311) (k' := 0) (n' := 0) dL_holds_311 lkL_28 ⟨by decide, by decide⟩ (Nat.le_of_ble_eq_true rfl) rfl rfl ⟨by decide, by decide⟩ hX.k (q_placeOf hA hX ?_)
                        dsimp only [gRt]
                        refine G_iconst (pc := 314) (v := 2) dL_holds_314 rfl ?_
                        refine G_icmp_ne (pc := 315) (tgt := 371) dL_holds_315 (by decide) (fun h315 => ?_) (fun h315 => ?_)
                        · exact absurd (g3 h302) h315
                        · refine G_aload_n (pc := 318) 0 dL_holds_318 rfl ?_
                          refine G_iload (pc := 319) 6 dL_holds_319 rfl ?_
                          refine G_iconst (pc := 321) (v := 0) dL_holds_321 rfl ?_
                          refine G_iconst (pc := 322) (v := 3) dL_holds_322 rfl ?_
                          refine gV3 (pc := 323) (k' := 0) (n' := 0) dL_holds_323 lkL_28 ⟨by decide, by decide⟩ (Nat.le_of_ble_eq_true rfl) rfl rfl ⟨by decide, by decide⟩ hX.k (q_placeOf hA hX ?_)
                          dsimp only [gRt]
                          rw [show aPlaceOf S (nI w) 0 3 = 0 from (aPlaceOf_at hS hw (p := 0) (by omega) (c := 3) (by decide)).trans (hx w hw).1.2.1]
                          refine G_if_ne (pc := 326) (tgt := 371) dL_holds_326 (by decide) (fun h326 => ?_) (fun h326 => ?_)
                          · exact absurd rfl h326
                          · refine G_aload_n (pc := 329) 0 dL_holds_329 rfl ?_
                            refine G_iload (pc := 330) 12 dL_holds_330 rfl ?_
                            refine G_iload (pc := 332) 13 dL_holds_332 rfl ?_
                            refine G_iconst (pc := 334) (v := 2) dL_holds_334 rfl ?_
                            refine gV3 (pc := 335) (k' := 0) (n' := 0) dL_holds_335 lkL_42 ⟨by decide, by decide⟩ (Nat.le_of_ble_eq_true rfl) rfl rfl ⟨by decide, by decide⟩ hX.k (q_corrected hA hX ?_)
                            intro l i hX
                            dsimp only [gRt]
                            rw [c2]
                            refine G_iconst (pc := 338) (v := 1) dL_holds_338 rfl ?_
                            refine G_icmp_ne (pc := 339) (tgt := 371) dL_holds_339 (by decide) (fun h339 => ?_) (fun h339 => ?_)
                            · exact absurd rfl h339
                            · refine G_aload_n (pc := 342) 0 dL_holds_342 rfl ?_
                              refine G_iload (pc := 343) 12 dL_holds_343 rfl ?_
                              refine G_iload (pc := 345) 13 dL_holds_345 rfl ?_
                              refine G_iconst (pc := 347) (v := 0) dL_holds_347 rfl ?_
                              refine gV3 (pc := 348) (k' := 0) (n' := 0) dL_holds_348 lkL_42 ⟨by decide, by decide⟩ (Nat.le_of_ble_eq_true rfl) rfl rfl ⟨by decide, by decide⟩ hX.k (q_corrected hA hX ?_)
                              intro l i hX
                              dsimp only [gRt]
                              rw [c0]
                              refine G_iload (pc := 351) 12 dL_holds_351 rfl ?_
                              refine G_icmp_ne (pc := 353) (tgt := 371) dL_holds_353 (by decide) (fun h353 => ?_) (fun h353 => ?_)
                              · exact absurd rfl h353
                              · refine G_aload_n (pc := 356) 0 dL_holds_356 rfl ?_
                                refine G_iload (pc := 357) 6 dL_holds_357 rfl ?_
                                refine G_iload (pc := 359) 12 dL_holds_359 rfl ?_
                                refine G_iload (pc := 361) 13 dL_holds_361 rfl ?_
                                refine gV3 (pc := 363) (k' := 0) (n' := 0) dL_holds_363 lkL_45 ⟨by decide, by decide⟩ (Nat.le_of_ble_eq_true rfl) rfl rfl ⟨by decide, by decide⟩ hX.k (q_nearest hA hX ?_)
                                dsimp only [gRt]
                                rw [en]
                                refine G_iload (pc := 366) 11 dL_holds_366 rfl ?_
                                refine G_icmp_le (pc := 368) (tgt := 373) dL_holds_368 (by decide) (fun h368 => ?_) (fun h368 => ?_)
                                · refine G_inc6 (pc := 373) (v := 1) dL_holds_373 rfl (by decide) rfl ?_
                                  refine G_goto (pc := 376) (tgt := 17) dL_holds_376 (by decide) ?_
                                  refine G_drop14 ?_
                                  refine G_drop13 ?_
                                  refine G_drop12 ?_
                                  refine G_drop11 ?_
                                  refine G_drop10 ?_
                                  refine G_drop9 ?_
                                  refine G_drop8 ?_
                                  refine G_drop7 ?_
                                  rw [nI_1, show gSumI (fun k => aWalkN S k 0) w + nI (szW S (23 + 166 * w)) = gSumI (fun k => aWalkN S k 0) (w + 1) from by rw [← e00]; rfl]
                                  exact ih (w + 1) l i (by omega) hX
                                · exact absurd (nI_le hjn (by omega)) h368

set_option maxRecDepth 100000 in
set_option maxHeartbeats 4000000 in
theorem c_L_holds {Γ : gG} {T : gTy} {r : gR} {l : gLg} {i : gI} {Q : gQ} {x n ln : Nat} {S : Nat → Int32} {P : Nat → Nat → Int32} {tx : Nat → Int32} {v : Int32} (hA : gN Γ ≤ x) (hX : lwX T r i x S P n tx ln) (hx : xS S) (hQ : ∀ l' i', lwX T r i' x S P n tx ln → Q (some (.int 1)) T r l' i') : gC Γ ML_holds [.ref x, .int v] T r l i Q := by
  have hS := hX.v.1
  refine gC_of rfl (Nat.le_of_ble_eq_true rfl) (L := [(0, .ref x), (1, .int v)]) rfl ?_
  refine G_aload_n (pc := 0) 0 dL_holds_0 rfl ?_
  refine G_iconst (pc := 1) (v := 1) dL_holds_1 rfl ?_
  refine gV1 (pc := 2) (k' := 0) (n' := 0) dL_holds_2 lkL_13 ⟨by decide, by decide⟩ (Nat.le_of_ble_eq_true rfl) rfl rfl ⟨by decide, by decide⟩ hX.k (q_count hA hX ?_)
  dsimp only [gRt]
  rw [aCount_1 hS]
  refine G_sn2 (pc := 5) (gSt_in dL_holds_5 rfl (by decide)) rfl ?_
  refine G_iconst (pc := 6) (v := 0) dL_holds_6 rfl ?_
  refine G_sn3 (pc := 7) (gSt_in dL_holds_7 rfl (by decide)) rfl ?_
  refine G_iconst (pc := 8) (v := 0) dL_holds_8 rfl ?_
  refine G_sn4 (pc := 9) (gSt_i dL_holds_9 (by decide)) rfl ?_
  refine G_iconst (pc := 11) (v := 0) dL_holds_11 rfl ?_
  refine G_sn5 (pc := 12) (gSt_i dL_holds_12 (by decide)) rfl ?_
  refine G_iconst (pc := 14) (v := 0) dL_holds_14 rfl ?_
  refine G_sn6 (pc := 15) (gSt_i dL_holds_15 (by decide)) rfl ?_
  exact lp_L_holds hA hS hx hQ (nW S) 0 l i (Nat.zero_add _) hX

