/-! the reference answers on -/
abbrev stS (S : Nat → Int32) (w : Nat) : Int32 := if S (w + 3) = 1 then 1 else if S w = 40 then 2 else 0
def aWalkN (S : Nat → Int32) (a : Nat) : Nat → Int32
  | 0 => S (23 + 166 * a)
  | 1 => S (23 + 166 * a + 1)
  | 2 => S (23 + 166 * a + 2)
  | 3 => stS S (23 + 166 * a)
  | 4 => nI (cntK (kdS S (23 + 166 * a)) 1 (S (23 + 166 * a)).toNatClampNeg)
  | 5 => nI (cntK (kdS S (23 + 166 * a)) 2 (S (23 + 166 * a)).toNatClampNeg)
  | 6 => if S (23 + 166 * a + 4) < 0 then -1000004 else S (23 + 166 * a + 4)
  | 7 => if S (23 + 166 * a + 4) < 0 then -1000004 else S (23 + 166 * a + 5)
  | _ => nI (cBg (gPr4 S) a (nW S))
def aWalkOf (S : Nat → Int32) (w x : Int32) : Int32 := if inI w 0 (S 1 - 1) ∧ inI x 0 8 then aWalkN S w.toNatClampNeg x.toNatClampNeg else -1000001
abbrev swS (S : Nat → Int32) (v : Int32) : Int32 := gSumI (fun k => if v = 0 then S (23 + 166 * k) else nI (cntK (kdS S (23 + 166 * k)) v (S (23 + 166 * k)).toNatClampNeg)) (nW S)
def aCountN (S : Nat → Int32) (n ln : Nat) : Nat → Int32
  | 0 => S 0
  | 1 => S 1
  | 2 => swS S 0
  | 3 => swS S 1
  | 4 => swS S 2
  | 5 => nI n
  | 6 => nI ln
  | 10 => S 2
  | 11 => S 3
  | 12 => S 4
  | _ => -1000001
def aCount (S : Nat → Int32) (n ln : Nat) (x : Int32) : Int32 := if x < 0 then -1000001 else aCountN S n ln x.toNatClampNeg
theorem aCountN_o {S : Nat → Int32} {n ln j : Nat} (h : 7 ≤ j) (h2 : j < 10 ∨ 12 < j) : aCountN S n ln j = -1000001 := by
  unfold aCountN
  split <;> first | rfl | omega
set_option maxRecDepth 100000 in
set_option maxHeartbeats 4000000 in
theorem c_X12_walkOf {Γ : gG} {T : gTy} {r : gR} {l : gLg} {i : gI} {Q : gQ} {m : Nat} {S : Nat → Int32} {w x : Int32} (hM : lyM T r m) (he : i (m + 1) = S) (hS : vS S) (hQ : Q (some (.int (aWalkOf S w x))) T r l i) : gC Γ MX12_walkOf [.ref m, .int w, .int x] T r l i Q := by
  have hM2 := hM
  obtain ⟨m0, m1, m2, m3, m4, m5, m6, m7, m8, m9, m10⟩ := hM
  subst he
  have hT := hS.1
  have hE := hS.2.1
  have hn6 := hT.1.1
  have hn0 := hT.1.2.1
  obtain ⟨w5, w1, wk⟩ := nW_of hS
  refine gC_of rfl (Nat.le_of_ble_eq_true rfl) (L := [(0, .ref m), (1, .int w), (2, .int x)]) rfl ?_
  refine G_aload_n (pc := 0) 0 dX12_walkOf_0 rfl ?_
  refine G_iload_n (pc := 1) 1 dX12_walkOf_1 rfl ?_
  refine gV1 (pc := 2) (k' := 0) (n' := 0) dX12_walkOf_2 lkX12_146 ⟨by decide, by decide⟩ (Nat.le_of_ble_eq_true rfl) rfl rfl ⟨by decide, by decide⟩ (by assumption) (c_X12_isWalk hM2 ?_)
  dsimp only [gRt]
  refine G_if_eq (pc := 5) (tgt := 18) dX12_walkOf_5 (by decide) (fun h5 => ?_) (fun h5 => ?_)
  · refine G_ldc (pc := 18) dX12_walkOf_18 kcX12_29 ?_
    refine G_iret (pc := 20) dX12_walkOf_20 ⟨_, rfl, rfl⟩ ⟨by decide, by decide⟩ ?_
    rw [show aWalkOf (i (m + 1)) w x = -1000001 from if_neg (fun z => gB_eq.mp h5 z.1)] at hQ
    exact hQ
  · obtain ⟨a, ha, rfl⟩ := (isW (by omega)).mp (w1 ▸ gB_ne.mp h5)
    obtain ⟨⟨z, hv⟩, _⟩ := wk a ha
    have hz40 := hv.2.1
    refine G_iload_n (pc := 8) 2 dX12_walkOf_8 rfl ?_
    refine G_iconst (pc := 9) (v := 0) dX12_walkOf_9 rfl ?_
    refine G_bipush (pc := 10) (v := 8) dX12_walkOf_10 rfl ?_
    refine gS3 (pc := 12) (k' := 0) (n' := 0) dX12_walkOf_12 lkX12_25 ⟨by decide, by decide⟩ (Nat.le_of_ble_eq_true rfl) rfl rfl ⟨by decide, by decide⟩ (c_X12_in ?_)
    dsimp only [gRt]
    refine G_if_ne (pc := 15) (tgt := 21) dX12_walkOf_15 (by decide) (fun h15 => ?_) (fun h15 => ?_)
    · refine G_iload_n (pc := 21) 2 dX12_walkOf_21 rfl ?_
      obtain ⟨e, _, e8, rfl⟩ := inI_nat (a := 0) (b := 8) (by decide) (by decide) (gB_ne.mp h15)
      rw [show aWalkOf (i (m + 1)) (nI a) (nI e) = aWalkN (i (m + 1)) a e by unfold aWalkOf; rw [if_pos ⟨gB_ne.mp h5, gB_ne.mp h15⟩, nI_clamp (by omega), nI_clamp (by omega)]] at hQ
      rcases (show e = 0 ∨ e = 1 ∨ e = 2 ∨ e = 3 ∨ e = 4 ∨ e = 5 ∨ e = 6 ∨ e = 7 ∨ e = 8 by omega) with rfl | rfl | rfl | rfl | rfl | rfl | rfl | rfl | rfl
      · refine G_tableIn (pc := 22) (tgt := 68) dX12_walkOf_22 (by decide) (by decide) rfl (by decide) ?_
        refine G_aload_n (pc := 68) 0 dX12_walkOf_68 rfl ?_
        refine G_iload_n (pc := 69) 1 dX12_walkOf_69 rfl ?_
        refine G_iload_n (pc := 70) 2 dX12_walkOf_70 rfl ?_
        refine gV2 (pc := 71) (k' := 0) (n' := 0) dX12_walkOf_71 lkX12_92 ⟨by decide, by decide⟩ (Nat.le_of_ble_eq_true rfl) rfl rfl ⟨by decide, by decide⟩ (by assumption) (c_X12_walkPart (k := a) (j := 0) hM2 (by omega) ?_)
        dsimp only [gRt]
        refine G_iret (pc := 74) dX12_walkOf_74 ⟨_, rfl, rfl⟩ ⟨by decide, by decide⟩ ?_
        exact hQ
      · refine G_tableIn (pc := 22) (tgt := 68) dX12_walkOf_22 (by decide) (by decide) rfl (by decide) ?_
        refine G_aload_n (pc := 68) 0 dX12_walkOf_68 rfl ?_
        refine G_iload_n (pc := 69) 1 dX12_walkOf_69 rfl ?_
        refine G_iload_n (pc := 70) 2 dX12_walkOf_70 rfl ?_
        refine gV2 (pc := 71) (k' := 0) (n' := 0) dX12_walkOf_71 lkX12_92 ⟨by decide, by decide⟩ (Nat.le_of_ble_eq_true rfl) rfl rfl ⟨by decide, by decide⟩ (by assumption) (c_X12_walkPart (k := a) (j := 1) hM2 (by omega) ?_)
        dsimp only [gRt]
        refine G_iret (pc := 74) dX12_walkOf_74 ⟨_, rfl, rfl⟩ ⟨by decide, by decide⟩ ?_
        exact hQ
      · refine G_tableIn (pc := 22) (tgt := 68) dX12_walkOf_22 (by decide) (by decide) rfl (by decide) ?_
        refine G_aload_n (pc := 68) 0 dX12_walkOf_68 rfl ?_
        refine G_iload_n (pc := 69) 1 dX12_walkOf_69 rfl ?_
        refine G_iload_n (pc := 70) 2 dX12_walkOf_70 rfl ?_
        refine gV2 (pc := 71) (k' := 0) (n' := 0) dX12_walkOf_71 lkX12_92 ⟨by decide, by decide⟩ (Nat.le_of_ble_eq_true rfl) rfl rfl ⟨by decide, by decide⟩ (by assumption) (c_X12_walkPart (k := a) (j := 2) hM2 (by omega) ?_)
        dsimp only [gRt]
        refine G_iret (pc := 74) dX12_walkOf_74 ⟨_, rfl, rfl⟩ ⟨by decide, by decide⟩ ?_
        exact hQ
      · refine G_tableIn (pc := 22) (tgt := 75) dX12_walkOf_22 (by decide) (by decide) rfl (by decide) ?_
        refine G_aload_n (pc := 75) 0 dX12_walkOf_75 rfl ?_
        refine G_iload_n (pc := 76) 1 dX12_walkOf_76 rfl ?_
        refine gV1 (pc := 77) (k' := 0) (n' := 0) dX12_walkOf_77 lkX12_113 ⟨by decide, by decide⟩ (Nat.le_of_ble_eq_true rfl) rfl rfl ⟨by decide, by decide⟩ (by assumption) (c_X12_stateOf hM2 (by omega) ?_)
        dsimp only [gRt]
        refine G_iret (pc := 80) dX12_walkOf_80 ⟨_, rfl, rfl⟩ ⟨by decide, by decide⟩ ?_
        exact hQ
      · refine G_tableIn (pc := 22) (tgt := 81) dX12_walkOf_22 (by decide) (by decide) rfl (by decide) ?_
        refine G_aload_n (pc := 81) 0 dX12_walkOf_81 rfl ?_
        refine G_iload_n (pc := 82) 1 dX12_walkOf_82 rfl ?_
        refine G_iload_n (pc := 83) 2 dX12_walkOf_83 rfl ?_
        refine G_iconst (pc := 84) (v := 3) dX12_walkOf_84 rfl ?_
        refine G_isub (pc := 85) dX12_walkOf_85 ?_
        rw [show (nI 4 : Int32) - 3 = 1 from by decide]
        refine gV2 (pc := 86) (k' := 0) (n' := 0) dX12_walkOf_86 lkX12_166 ⟨by decide, by decide⟩ (Nat.le_of_ble_eq_true rfl) rfl rfl ⟨by decide, by decide⟩ (by assumption) (c_X12_ofKind (n := z + 1) hM2 (by omega) hv.1 hv.2.1 ?_)
        dsimp only [gRt]
        refine G_iret (pc := 89) dX12_walkOf_89 ⟨_, rfl, rfl⟩ ⟨by decide, by decide⟩ ?_
        rw [show aWalkN (i (m + 1)) a 4 = nI (cntK (kdS (i (m + 1)) (23 + 166 * a)) 1 (i (m + 1) (23 + 166 * a)).toNatClampNeg) from rfl, hv.1, nI_clamp (by omega)] at hQ
        exact hQ
      · refine G_tableIn (pc := 22) (tgt := 81) dX12_walkOf_22 (by decide) (by decide) rfl (by decide) ?_
        refine G_aload_n (pc := 81) 0 dX12_walkOf_81 rfl ?_
        refine G_iload_n (pc := 82) 1 dX12_walkOf_82 rfl ?_
        refine G_iload_n (pc := 83) 2 dX12_walkOf_83 rfl ?_
        refine G_iconst (pc := 84) (v := 3) dX12_walkOf_84 rfl ?_
        refine G_isub (pc := 85) dX12_walkOf_85 ?_
        rw [show (nI 5 : Int32) - 3 = 2 from by decide]
        refine gV2 (pc := 86) (k' := 0) (n' := 0) dX12_walkOf_86 lkX12_166 ⟨by decide, by decide⟩ (Nat.le_of_ble_eq_true rfl) rfl rfl ⟨by decide, by decide⟩ (by assumption) (c_X12_ofKind (n := z + 1) hM2 (by omega) hv.1 hv.2.1 ?_)
        dsimp only [gRt]
        refine G_iret (pc := 89) dX12_walkOf_89 ⟨_, rfl, rfl⟩ ⟨by decide, by decide⟩ ?_
        rw [show aWalkN (i (m + 1)) a 5 = nI (cntK (kdS (i (m + 1)) (23 + 166 * a)) 2 (i (m + 1) (23 + 166 * a)).toNatClampNeg) from rfl, hv.1, nI_clamp (by omega)] at hQ
        exact hQ
      · refine G_tableIn (pc := 22) (tgt := 90) dX12_walkOf_22 (by decide) (by decide) rfl (by decide) ?_
        refine G_aload_n (pc := 90) 0 dX12_walkOf_90 rfl ?_
        refine G_iload_n (pc := 91) 1 dX12_walkOf_91 rfl ?_
        refine G_iconst (pc := 92) (v := 4) dX12_walkOf_92 rfl ?_
        refine gV2 (pc := 93) (k' := 0) (n' := 0) dX12_walkOf_93 lkX12_92 ⟨by decide, by decide⟩ (Nat.le_of_ble_eq_true rfl) rfl rfl ⟨by decide, by decide⟩ (by assumption) (c_X12_walkPart (k := a) (j := 4) hM2 (by omega) ?_)
        dsimp only [gRt]
        refine G_if_ge (pc := 96) (tgt := 104) dX12_walkOf_96 (by decide) (fun h96 => ?_) (fun h96 => ?_)
        · refine G_aload_n (pc := 104) 0 dX12_walkOf_104 rfl ?_
          refine G_iload_n (pc := 105) 1 dX12_walkOf_105 rfl ?_
          refine G_iload_n (pc := 106) 2 dX12_walkOf_106 rfl ?_
          refine G_iconst (pc := 107) (v := 2) dX12_walkOf_107 rfl ?_
          refine G_isub (pc := 108) dX12_walkOf_108 ?_
          rw [show (nI 6 : Int32) - 2 = nI 4 from by decide]
          refine gV2 (pc := 109) (k' := 0) (n' := 0) dX12_walkOf_109 lkX12_92 ⟨by decide, by decide⟩ (Nat.le_of_ble_eq_true rfl) rfl rfl ⟨by decide, by decide⟩ (by assumption) (c_X12_walkPart (k := a) (j := 4) hM2 (by omega) ?_)
          dsimp only [gRt]
          refine G_iret (pc := 112) dX12_walkOf_112 ⟨_, rfl, rfl⟩ ⟨by decide, by decide⟩ ?_
          rw [show aWalkN (i (m + 1)) a 6 = i (m + 1) (23 + 166 * a + 4) from if_neg (Int32.not_lt.mpr h96)] at hQ
          exact hQ
        · refine G_ldc (pc := 99) dX12_walkOf_99 kcX12_161 ?_
          refine G_goto (pc := 101) (tgt := 112) dX12_walkOf_101 (by decide) ?_
          refine G_iret (pc := 112) dX12_walkOf_112 ⟨_, rfl, rfl⟩ ⟨by decide, by decide⟩ ?_
          rw [show aWalkN (i (m + 1)) a 6 = -1000004 from if_pos (Int32.not_le.mp h96)] at hQ
          exact hQ
      · refine G_tableIn (pc := 22) (tgt := 90) dX12_walkOf_22 (by decide) (by decide) rfl (by decide) ?_
        refine G_aload_n (pc := 90) 0 dX12_walkOf_90 rfl ?_
        refine G_iload_n (pc := 91) 1 dX12_walkOf_91 rfl ?_
        refine G_iconst (pc := 92) (v := 4) dX12_walkOf_92 rfl ?_
        refine gV2 (pc := 93) (k' := 0) (n' := 0) dX12_walkOf_93 lkX12_92 ⟨by decide, by decide⟩ (Nat.le_of_ble_eq_true rfl) rfl rfl ⟨by decide, by decide⟩ (by assumption) (c_X12_walkPart (k := a) (j := 4) hM2 (by omega) ?_)
        dsimp only [gRt]
        refine G_if_ge (pc := 96) (tgt := 104) dX12_walkOf_96 (by decide) (fun h96 => ?_) (fun h96 => ?_)
        · refine G_aload_n (pc := 104) 0 dX12_walkOf_104 rfl ?_
          refine G_iload_n (pc := 105) 1 dX12_walkOf_105 rfl ?_
          refine G_iload_n (pc := 106) 2 dX12_walkOf_106 rfl ?_
          refine G_iconst (pc := 107) (v := 2) dX12_walkOf_107 rfl ?_
          refine G_isub (pc := 108) dX12_walkOf_108 ?_
          rw [show (nI 7 : Int32) - 2 = nI 5 from by decide]
          refine gV2 (pc := 109) (k' := 0) (n' := 0) dX12_walkOf_109 lkX12_92 ⟨by decide, by decide⟩ (Nat.le_of_ble_eq_true rfl) rfl rfl ⟨by decide, by decide⟩ (by assumption) (c_X12_walkPart (k := a) (j := 5) hM2 (by omega) ?_)
          dsimp only [gRt]
          refine G_iret (pc := 112) dX12_walkOf_112 ⟨_, rfl, rfl⟩ ⟨by decide, by decide⟩ ?_
          rw [show aWalkN (i (m + 1)) a 7 = i (m + 1) (23 + 166 * a + 5) from if_neg (Int32.not_lt.mpr h96)] at hQ
          exact hQ
        · refine G_ldc (pc := 99) dX12_walkOf_99 kcX12_161 ?_
          refine G_goto (pc := 101) (tgt := 112) dX12_walkOf_101 (by decide) ?_
          refine G_iret (pc := 112) dX12_walkOf_112 ⟨_, rfl, rfl⟩ ⟨by decide, by decide⟩ ?_
          rw [show aWalkN (i (m + 1)) a 7 = -1000004 from if_pos (Int32.not_le.mp h96)] at hQ
          exact hQ
      · refine G_tableOut (pc := 22) (tgt := 113) dX12_walkOf_22 (by decide) (by decide) ?_
        refine G_aload_n (pc := 113) 0 dX12_walkOf_113 rfl ?_
        refine G_iload_n (pc := 114) 1 dX12_walkOf_114 rfl ?_
        refine gV1 (pc := 115) (k' := 0) (n' := 0) dX12_walkOf_115 lkX12_169 ⟨by decide, by decide⟩ (Nat.le_of_ble_eq_true rfl) rfl rfl ⟨by decide, by decide⟩ (by assumption) (c_X12_begunFrom (n := nW (i (m + 1))) hM2 w1 w5 (by omega) (fun j hj => (wk j hj).2) ?_)
        dsimp only [gRt]
        refine G_iret (pc := 118) dX12_walkOf_118 ⟨_, rfl, rfl⟩ ⟨by decide, by decide⟩ ?_
        exact hQ
    · refine G_ldc (pc := 18) dX12_walkOf_18 kcX12_29 ?_
      refine G_iret (pc := 20) dX12_walkOf_20 ⟨_, rfl, rfl⟩ ⟨by decide, by decide⟩ ?_
      rw [show aWalkOf (i (m + 1)) (nI a) x = -1000001 from if_neg (fun z => gB_eq.mp h15 z.2)] at hQ
      exact hQ

set_option maxRecDepth 100000 in
set_option maxHeartbeats 4000000 in
theorem c_X12_count {Γ : gG} {T : gTy} {r : gR} {l : gLg} {i : gI} {Q : gQ} {m n ln : Nat} {S : Nat → Int32} {P : Nat → Nat → Int32} {x : Int32} (hM : lyM T r m) (he : i (m + 1) = S) (hS : vS S) (hP : rpP i m P n) (hl : i m 5 = nI ln) (hQ : Q (some (.int (aCount S n ln x))) T r l i) : gC Γ MX12_count [.ref m, .int x] T r l i Q := by
  have hM2 := hM
  obtain ⟨m0, m1, m2, m3, m4, m5, m6, m7, m8, m9, m10⟩ := hM
  subst he
  have hT := hS.1
  have hE := hS.2.1
  have hn6 := hT.1.1
  have hn0 := hT.1.2.1
  obtain ⟨w5, w1, wk⟩ := nW_of hS
  have p2 := hP.2.1
  refine gC_of rfl (Nat.le_of_ble_eq_true rfl) (L := [(0, .ref m), (1, .int x)]) rfl ?_
  refine G_iload_n (pc := 0) 1 dX12_count_0 rfl ?_
  have hzz : ∀ k, k < nW (i (m + 1)) → ∃ z, z ≤ 40 ∧ i (m + 1) (23 + 166 * k) = nI z := fun k hk => by
    obtain ⟨⟨z, hv⟩, _⟩ := wk k hk
    exact ⟨z + 1, hv.2.1, hv.1⟩
  by_cases hx : ∃ e, e < 7 ∧ x = nI e
  · obtain ⟨e, he, rfl⟩ := hx
    rcases (show e = 0 ∨ e = 1 ∨ e = 2 ∨ e = 3 ∨ e = 4 ∨ e = 5 ∨ e = 6 by omega) with rfl | rfl | rfl | rfl | rfl | rfl | rfl
    · rw [show aCount (i (m + 1)) n ln (nI 0) = aCountN (i (m + 1)) n ln 0 from rfl] at hQ
      refine G_tableIn (pc := 1) (tgt := 44) dX12_count_1 (by decide) (by decide) rfl (by decide) ?_
      refine G_aload_n (pc := 44) 0 dX12_count_44 rfl ?_
      refine G_getR (pc := 45) dX12_count_45 fX12_7 (by assumption) (by assumption) ?_
      refine G_iload_n (pc := 48) 1 dX12_count_48 rfl ?_
      refine G_ialdJ (pc := 49) (j := 0) dX12_count_49 (by assumption) rfl (by first | assumption | omega) (by decide) ?_
      refine G_iret (pc := 50) dX12_count_50 ⟨_, rfl, rfl⟩ ⟨by decide, by decide⟩ ?_
      exact hQ
    · rw [show aCount (i (m + 1)) n ln (nI 1) = aCountN (i (m + 1)) n ln 1 from rfl] at hQ
      refine G_tableIn (pc := 1) (tgt := 44) dX12_count_1 (by decide) (by decide) rfl (by decide) ?_
      refine G_aload_n (pc := 44) 0 dX12_count_44 rfl ?_
      refine G_getR (pc := 45) dX12_count_45 fX12_7 (by assumption) (by assumption) ?_
      refine G_iload_n (pc := 48) 1 dX12_count_48 rfl ?_
      refine G_ialdJ (pc := 49) (j := 1) dX12_count_49 (by assumption) rfl (by first | assumption | omega) (by decide) ?_
      refine G_iret (pc := 50) dX12_count_50 ⟨_, rfl, rfl⟩ ⟨by decide, by decide⟩ ?_
      exact hQ
    · rw [show aCount (i (m + 1)) n ln (nI 2) = aCountN (i (m + 1)) n ln 2 from rfl] at hQ
      refine G_tableIn (pc := 1) (tgt := 51) dX12_count_1 (by decide) (by decide) rfl (by decide) ?_
      refine G_aload_n (pc := 51) 0 dX12_count_51 rfl ?_
      refine G_iload_n (pc := 52) 1 dX12_count_52 rfl ?_
      refine G_iconst (pc := 53) (v := 2) dX12_count_53 rfl ?_
      refine G_isub (pc := 54) dX12_count_54 ?_
      rw [show (nI 2 : Int32) - 2 = 0 from by decide]
      refine gV1 (pc := 55) (k' := 0) (n' := 0) dX12_count_55 lkX12_172 ⟨by decide, by decide⟩ (Nat.le_of_ble_eq_true rfl) rfl rfl ⟨by decide, by decide⟩ (by assumption) (c_X12_ofWalks (n := nW (i (m + 1))) hM2 w1 w5 hzz ?_)
      dsimp only [gRt]
      refine G_iret (pc := 58) dX12_count_58 ⟨_, rfl, rfl⟩ ⟨by decide, by decide⟩ ?_
      exact hQ
    · rw [show aCount (i (m + 1)) n ln (nI 3) = aCountN (i (m + 1)) n ln 3 from rfl] at hQ
      refine G_tableIn (pc := 1) (tgt := 51) dX12_count_1 (by decide) (by decide) rfl (by decide) ?_
      refine G_aload_n (pc := 51) 0 dX12_count_51 rfl ?_
      refine G_iload_n (pc := 52) 1 dX12_count_52 rfl ?_
      refine G_iconst (pc := 53) (v := 2) dX12_count_53 rfl ?_
      refine G_isub (pc := 54) dX12_count_54 ?_
      rw [show (nI 3 : Int32) - 2 = 1 from by decide]
      refine gV1 (pc := 55) (k' := 0) (n' := 0) dX12_count_55 lkX12_172 ⟨by decide, by decide⟩ (Nat.le_of_ble_eq_true rfl) rfl rfl ⟨by decide, by decide⟩ (by assumption) (c_X12_ofWalks (n := nW (i (m + 1))) hM2 w1 w5 hzz ?_)
      dsimp only [gRt]
      refine G_iret (pc := 58) dX12_count_58 ⟨_, rfl, rfl⟩ ⟨by decide, by decide⟩ ?_
      exact hQ
    · rw [show aCount (i (m + 1)) n ln (nI 4) = aCountN (i (m + 1)) n ln 4 from rfl] at hQ
      refine G_tableIn (pc := 1) (tgt := 51) dX12_count_1 (by decide) (by decide) rfl (by decide) ?_
      refine G_aload_n (pc := 51) 0 dX12_count_51 rfl ?_
      refine G_iload_n (pc := 52) 1 dX12_count_52 rfl ?_
      refine G_iconst (pc := 53) (v := 2) dX12_count_53 rfl ?_
      refine G_isub (pc := 54) dX12_count_54 ?_
      rw [show (nI 4 : Int32) - 2 = 2 from by decide]
      refine gV1 (pc := 55) (k' := 0) (n' := 0) dX12_count_55 lkX12_172 ⟨by decide, by decide⟩ (Nat.le_of_ble_eq_true rfl) rfl rfl ⟨by decide, by decide⟩ (by assumption) (c_X12_ofWalks (n := nW (i (m + 1))) hM2 w1 w5 hzz ?_)
      dsimp only [gRt]
      refine G_iret (pc := 58) dX12_count_58 ⟨_, rfl, rfl⟩ ⟨by decide, by decide⟩ ?_
      exact hQ
    · rw [show aCount (i (m + 1)) n ln (nI 5) = aCountN (i (m + 1)) n ln 5 from rfl] at hQ
      refine G_tableIn (pc := 1) (tgt := 59) dX12_count_1 (by decide) (by decide) rfl (by decide) ?_
      refine G_aload_n (pc := 59) 0 dX12_count_59 rfl ?_
      refine G_getI (pc := 60) dX12_count_60 fX12_33 (by assumption) ?_
      rw [p2]
      refine G_iret (pc := 63) dX12_count_63 ⟨_, rfl, rfl⟩ ⟨by decide, by decide⟩ ?_
      exact hQ
    · rw [show aCount (i (m + 1)) n ln (nI 6) = aCountN (i (m + 1)) n ln 6 from rfl] at hQ
      refine G_tableIn (pc := 1) (tgt := 64) dX12_count_1 (by decide) (by decide) rfl (by decide) ?_
      refine G_aload_n (pc := 64) 0 dX12_count_64 rfl ?_
      refine G_getI (pc := 65) dX12_count_65 fX12_175 (by assumption) ?_
      rw [hl]
      refine G_iret (pc := 68) dX12_count_68 ⟨_, rfl, rfl⟩ ⟨by decide, by decide⟩ ?_
      exact hQ
  · by_cases hin : inI x 10 12
    · obtain ⟨j, j1, j2, rfl⟩ := inI_nat (a := 10) (b := 12) (by decide) (by decide) hin
      rcases (show j = 10 ∨ j = 11 ∨ j = 12 by omega) with rfl | rfl | rfl
      · refine G_tableOut (pc := 1) (tgt := 69) dX12_count_1 (by decide) (by decide) ?_
        refine G_iload_n (pc := 69) 1 dX12_count_69 rfl ?_
        refine G_bipush (pc := 70) (v := 10) dX12_count_70 rfl ?_
        refine G_bipush (pc := 72) (v := 12) dX12_count_72 rfl ?_
        refine gS3 (pc := 74) (k' := 0) (n' := 0) dX12_count_74 lkX12_25 ⟨by decide, by decide⟩ (Nat.le_of_ble_eq_true rfl) rfl rfl ⟨by decide, by decide⟩ (c_X12_in ?_)
        dsimp only [gRt]
        refine G_if_eq (pc := 77) (tgt := 94) dX12_count_77 (by decide) (fun h77 => ?_) (fun h77 => ?_)
        · exact absurd h77 (by decide)
        · refine G_aload_n (pc := 80) 0 dX12_count_80 rfl ?_
          refine G_getR (pc := 81) dX12_count_81 fX12_7 (by assumption) (by assumption) ?_
          refine G_iconst (pc := 84) (v := 2) dX12_count_84 rfl ?_
          refine G_iload_n (pc := 85) 1 dX12_count_85 rfl ?_
          refine G_iadd (pc := 86) dX12_count_86 ?_
          rw [show (2 : Int32) + nI 10 = nI 12 from by decide]
          refine G_bipush (pc := 87) (v := 10) dX12_count_87 rfl ?_
          refine G_isub (pc := 89) dX12_count_89 ?_
          rw [show (nI 12 : Int32) - 10 = nI 2 from by decide]
          refine G_ialdJ (pc := 90) (j := 2) dX12_count_90 (by assumption) rfl (by first | assumption | omega) (by decide) ?_
          refine G_goto (pc := 91) (tgt := 96) dX12_count_91 (by decide) ?_
          refine G_iret (pc := 96) dX12_count_96 ⟨_, rfl, rfl⟩ ⟨by decide, by decide⟩ ?_
          exact hQ
      · refine G_tableOut (pc := 1) (tgt := 69) dX12_count_1 (by decide) (by decide) ?_
        refine G_iload_n (pc := 69) 1 dX12_count_69 rfl ?_
        refine G_bipush (pc := 70) (v := 10) dX12_count_70 rfl ?_
        refine G_bipush (pc := 72) (v := 12) dX12_count_72 rfl ?_
        refine gS3 (pc := 74) (k' := 0) (n' := 0) dX12_count_74 lkX12_25 ⟨by decide, by decide⟩ (Nat.le_of_ble_eq_true rfl) rfl rfl ⟨by decide, by decide⟩ (c_X12_in ?_)
        dsimp only [gRt]
        refine G_if_eq (pc := 77) (tgt := 94) dX12_count_77 (by decide) (fun h77 => ?_) (fun h77 => ?_)
        · exact absurd h77 (by decide)
        · refine G_aload_n (pc := 80) 0 dX12_count_80 rfl ?_
          refine G_getR (pc := 81) dX12_count_81 fX12_7 (by assumption) (by assumption) ?_
          refine G_iconst (pc := 84) (v := 2) dX12_count_84 rfl ?_
          refine G_iload_n (pc := 85) 1 dX12_count_85 rfl ?_
          refine G_iadd (pc := 86) dX12_count_86 ?_
          rw [show (2 : Int32) + nI 11 = nI 13 from by decide]
          refine G_bipush (pc := 87) (v := 10) dX12_count_87 rfl ?_
          refine G_isub (pc := 89) dX12_count_89 ?_
          rw [show (nI 13 : Int32) - 10 = nI 3 from by decide]
          refine G_ialdJ (pc := 90) (j := 3) dX12_count_90 (by assumption) rfl (by first | assumption | omega) (by decide) ?_
          refine G_goto (pc := 91) (tgt := 96) dX12_count_91 (by decide) ?_
          refine G_iret (pc := 96) dX12_count_96 ⟨_, rfl, rfl⟩ ⟨by decide, by decide⟩ ?_
          exact hQ
      · refine G_tableOut (pc := 1) (tgt := 69) dX12_count_1 (by decide) (by decide) ?_
        refine G_iload_n (pc := 69) 1 dX12_count_69 rfl ?_
        refine G_bipush (pc := 70) (v := 10) dX12_count_70 rfl ?_
        refine G_bipush (pc := 72) (v := 12) dX12_count_72 rfl ?_
        refine gS3 (pc := 74) (k' := 0) (n' := 0) dX12_count_74 lkX12_25 ⟨by decide, by decide⟩ (Nat.le_of_ble_eq_true rfl) rfl rfl ⟨by decide, by decide⟩ (c_X12_in ?_)
        dsimp only [gRt]
        refine G_if_eq (pc := 77) (tgt := 94) dX12_count_77 (by decide) (fun h77 => ?_) (fun h77 => ?_)
        · exact absurd h77 (by decide)
        · refine G_aload_n (pc := 80) 0 dX12_count_80 rfl ?_
          refine G_getR (pc := 81) dX12_count_81 fX12_7 (by assumption) (by assumption) ?_
          refine G_iconst (pc := 84) (v := 2) dX12_count_84 rfl ?_
          refine G_iload_n (pc := 85) 1 dX12_count_85 rfl ?_
          refine G_iadd (pc := 86) dX12_count_86 ?_
          rw [show (2 : Int32) + nI 12 = nI 14 from by decide]
          refine G_bipush (pc := 87) (v := 10) dX12_count_87 rfl ?_
          refine G_isub (pc := 89) dX12_count_89 ?_
          rw [show (nI 14 : Int32) - 10 = nI 4 from by decide]
          refine G_ialdJ (pc := 90) (j := 4) dX12_count_90 (by assumption) rfl (by first | assumption | omega) (by decide) ?_
          refine G_goto (pc := 91) (tgt := 96) dX12_count_91 (by decide) ?_
          refine G_iret (pc := 96) dX12_count_96 ⟨_, rfl, rfl⟩ ⟨by decide, by decide⟩ ?_
          exact hQ
    · have hout : x.toInt < 0 ∨ 6 < x.toInt := by
        rcases pk_ix x (n := 7) (by omega) with z | z | z
        · exact Or.inl (Int32.lt_iff_toInt_lt.mp z)
        · have := Int32.le_iff_toInt_le.mp z
          rw [nI_toInt (by decide)] at this
          exact Or.inr (by omega)
        · exact absurd z hx
      have hno : aCount (i (m + 1)) n ln x = -1000001 := by
        unfold aCount
        by_cases h0 : x < 0
        · rw [if_pos h0]
        · rw [if_neg h0]
          obtain ⟨j, hj, rfl⟩ := nI_of h0
          rw [nI_clamp hj]
          have a1 : ¬ j < 7 := fun z => hx ⟨j, z, rfl⟩
          exact aCountN_o (by omega) (by
            rcases Nat.lt_or_ge j 10 with z | z
            · exact Or.inl z
            · rcases Nat.lt_or_ge 12 j with y | y
              · exact Or.inr y
              · exact absurd ⟨nI_nlt (a := j) (b := 10) z (by omega), nI_nlt (a := 12) (b := j) y (by omega)⟩ hin)
      refine G_tableOut (pc := 1) (tgt := 69) dX12_count_1 hout (by decide) ?_
      refine G_iload_n (pc := 69) 1 dX12_count_69 rfl ?_
      refine G_bipush (pc := 70) (v := 10) dX12_count_70 rfl ?_
      refine G_bipush (pc := 72) (v := 12) dX12_count_72 rfl ?_
      refine gS3 (pc := 74) (k' := 0) (n' := 0) dX12_count_74 lkX12_25 ⟨by decide, by decide⟩ (Nat.le_of_ble_eq_true rfl) rfl rfl ⟨by decide, by decide⟩ (c_X12_in ?_)
      dsimp only [gRt]
      refine G_if_eq (pc := 77) (tgt := 94) dX12_count_77 (by decide) (fun h77 => ?_) (fun h77 => ?_)
      · refine G_ldc (pc := 94) dX12_count_94 kcX12_29 ?_
        refine G_iret (pc := 96) dX12_count_96 ⟨_, rfl, rfl⟩ ⟨by decide, by decide⟩ ?_
        rw [show aCount (i (m + 1)) n ln x = -1000001 from hno] at hQ
        exact hQ
      · exact absurd (gB_ne.mp h77) hin

