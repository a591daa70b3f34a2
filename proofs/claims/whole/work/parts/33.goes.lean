/-! the reference goes -/
/-- what a walk at (x, y) with sign s tries at pace k, by the reference -/
def gTrR (f : Nat → Int32) (p q : Nat → Nat) (n m : Nat) (x y s : Int32) (k : Int32) : Option (Int64 × Int64 × Nat) :=
  if gGG f p q n x.toInt64 y.toInt64 = 0 then none else match gCor f p q n m 0 (x.toInt64 - k.toInt64 * s.toInt64 * gSum f p q x.toInt64 y.toInt64 2 n / gRoot (gGG f p q n x.toInt64 y.toInt64)) (y.toInt64 + k.toInt64 * s.toInt64 * gSum f p q x.toInt64 y.toInt64 1 n / gRoot (gGG f p q n x.toInt64 y.toInt64)) with
  | none => none
  | some c => if c.1.toInt32 = x ∧ c.2.1.toInt32 = y then none else some c
/-- no steep place has the root 0 -/
def gRk (f : Nat → Int32) (p q : Nat → Nat) (n : Nat) : Prop := ∀ x y : Int64, inB x → inB y → ¬ gGG f p q n x y = 0 → ¬ gRoot (gGG f p q n x y) = 0
set_option maxRecDepth 100000 in
set_option maxHeartbeats 4000000 in
theorem c_X12_tries {Γ : gG} {T : gTy} {r : gR} {l : gLg} {i : gI} {Q : gQ} {m k n mm : Nat} {x y : Int32} {f : Nat → Int32} {p q : Nat → Nat} (hM : lyM T r m) (hA : gN Γ ≤ m) (hV : mv (i (m + 1)) n f p q) (hm : i (m + 1) 4 = nI mm) (hm2 : mm < 2 ^ 30) (hk : k < 5) (hR : gRk f p q n) (hx : inB x.toInt64) (hy : inB y.toInt64)
  (h0 : gTrR f p q n mm x y (i (m + 1) (23 + 166 * k + 1)) (i (m + 1) (23 + 166 * k + 2)) = none → ∀ i', frM m i i' → Q (some (.int 0)) T r l i')
  (h1 : ∀ c, gTrR f p q n mm x y (i (m + 1) (23 + 166 * k + 1)) (i (m + 1) (23 + 166 * k + 2)) = some c → ∀ i', frM m i i' → i' m 6 = c.1.toInt32 → i' m 7 = c.2.1.toInt32 → i' m 8 = nI c.2.2 → Q (some (.int 1)) T r l i') : gC Γ MX12_tries [.ref m, .int (nI k), .int x, .int y] T r l i Q := by
  have hM2 := hM
  obtain ⟨m0, m1, m2, m3, m4, m5, m6, m7, m8, m9, m10⟩ := hM
  refine gC_of rfl (Nat.le_of_ble_eq_true rfl) (L := [(0, .ref m), (1, .int (nI k)), (2, .int x), (3, .int y)]) rfl ?_
  refine G_aload_n (pc := 0) 0 dX12_tries_0 rfl ?_
  refine G_iload_n (pc := 1) 2 dX12_tries_1 rfl ?_
  refine G_iload_n (pc := 2) 3 dX12_tries_2 rfl ?_
  refine G_iconst (pc := 3) (v := 1) dX12_tries_3 rfl ?_
  refine gV3 (pc := 4) (k' := 0) (n' := 0) dX12_tries_4 lkX12_61 ⟨by decide, by decide⟩ (Nat.le_of_ble_eq_true rfl) rfl rfl ⟨by decide, by decide⟩ (by assumption) (c_X12_sum (w := 1) hM2 hV (by decide) ?_)
  dsimp only [gRt]
  refine G_sn4 (pc := 7) (gSt_l dX12_tries_7 (by decide)) rfl ?_
  refine G_aload_n (pc := 9) 0 dX12_tries_9 rfl ?_
  refine G_iload_n (pc := 10) 2 dX12_tries_10 rfl ?_
  refine G_iload_n (pc := 11) 3 dX12_tries_11 rfl ?_
  refine G_iconst (pc := 12) (v := 2) dX12_tries_12 rfl ?_
  refine gV3 (pc := 13) (k' := 0) (n' := 0) dX12_tries_13 lkX12_61 ⟨by decide, by decide⟩ (Nat.le_of_ble_eq_true rfl) rfl rfl ⟨by decide, by decide⟩ (by assumption) (c_X12_sum (w := 2) hM2 hV (by decide) ?_)
  dsimp only [gRt]
  refine G_sn5 (pc := 16) (gSt_l dX12_tries_16 (by decide)) rfl ?_
  refine G_lload (pc := 18) 4 dX12_tries_18 rfl ?_
  refine G_lload (pc := 20) 4 dX12_tries_20 rfl ?_
  refine G_lmul (pc := 22) dX12_tries_22 ?_
  refine G_lload (pc := 23) 5 dX12_tries_23 rfl ?_
  refine G_lload (pc := 25) 5 dX12_tries_25 rfl ?_
  refine G_lmul (pc := 27) dX12_tries_27 ?_
  refine G_ladd (pc := 28) dX12_tries_28 ?_
  refine G_sn6 (pc := 29) (gSt_l dX12_tries_29 (by decide)) rfl ?_
  refine G_lload (pc := 31) 6 dX12_tries_31 rfl ?_
  refine G_lconst (pc := 33) (v := 0) dX12_tries_33 rfl ?_
  refine G_lif_ne (pc := 34) (tgt := 40) dX12_tries_34 dX12_tries_35 (by decide) (fun h34 => ?_) (fun h34 => ?_)
  · refine G_aload_n (pc := 40) 0 dX12_tries_40 rfl ?_
    refine G_iload_n (pc := 41) 1 dX12_tries_41 rfl ?_
    refine G_iconst (pc := 42) (v := 2) dX12_tries_42 rfl ?_
    refine gV2 (pc := 43) (k' := 0) (n' := 0) dX12_tries_43 lkX12_92 ⟨by decide, by decide⟩ (Nat.le_of_ble_eq_true rfl) rfl rfl ⟨by decide, by decide⟩ (by assumption) (c_X12_walkPart (j := 2) hM2 (by omega) ?_)
    dsimp only [gRt]
    refine G_i2l (pc := 46) dX12_tries_46 ?_
    refine G_aload_n (pc := 47) 0 dX12_tries_47 rfl ?_
    refine G_iload_n (pc := 48) 1 dX12_tries_48 rfl ?_
    refine G_iconst (pc := 49) (v := 1) dX12_tries_49 rfl ?_
    refine gV2 (pc := 50) (k' := 0) (n' := 0) dX12_tries_50 lkX12_92 ⟨by decide, by decide⟩ (Nat.le_of_ble_eq_true rfl) rfl rfl ⟨by decide, by decide⟩ (by assumption) (c_X12_walkPart (j := 1) hM2 (by omega) ?_)
    dsimp only [gRt]
    refine G_i2l (pc := 53) dX12_tries_53 ?_
    refine G_lmul (pc := 54) dX12_tries_54 ?_
    refine G_sn7 (pc := 55) (gSt_l dX12_tries_55 (by decide)) rfl ?_
    refine G_lload (pc := 57) 6 dX12_tries_57 rfl ?_
    refine gS1 (pc := 59) (k' := 0) (n' := 0) dX12_tries_59 lkX12_95 ⟨by decide, by decide⟩ (Nat.le_of_ble_eq_true rfl) rfl rfl ⟨by decide, by decide⟩ (c_X12_root ?_)
    dsimp only [gRt]
    refine G_sn8 (pc := 62) (gSt_l dX12_tries_62 (by decide)) rfl ?_
    refine G_aload_n (pc := 64) 0 dX12_tries_64 rfl ?_
    refine G_iload_n (pc := 65) 2 dX12_tries_65 rfl ?_
    refine G_i2l (pc := 66) dX12_tries_66 ?_
    refine G_lload (pc := 67) 7 dX12_tries_67 rfl ?_
    refine G_lload (pc := 69) 5 dX12_tries_69 rfl ?_
    refine G_lmul (pc := 71) dX12_tries_71 ?_
    refine G_lload (pc := 72) 8 dX12_tries_72 rfl ?_
    refine G_ldiv (pc := 74) dX12_tries_74 (hR _ _ hx hy h34) ?_
    refine G_lsub (pc := 75) dX12_tries_75 ?_
    refine G_iload_n (pc := 76) 3 dX12_tries_76 rfl ?_
    refine G_i2l (pc := 77) dX12_tries_77 ?_
    refine G_lload (pc := 78) 7 dX12_tries_78 rfl ?_
    refine G_lload (pc := 80) 4 dX12_tries_80 rfl ?_
    refine G_lmul (pc := 82) dX12_tries_82 ?_
    refine G_lload (pc := 83) 8 dX12_tries_83 rfl ?_
    refine G_ldiv (pc := 85) dX12_tries_85 (hR _ _ hx hy h34) ?_
    refine G_ladd (pc := 86) dX12_tries_86 ?_
    refine gV2 (pc := 87) (k' := 0) (n' := 0) dX12_tries_87 lkX12_99 ⟨by decide, by decide⟩ (Nat.le_of_ble_eq_true rfl) rfl rfl ⟨by decide, by decide⟩ (by assumption) (c_X12_corrects hM2 hA hV hm hm2 ?_ ?_)
    · intro hc i2 hi2
      dsimp only [gRt]
      refine G_if_eq (pc := 90) (tgt := 113) dX12_tries_90 (by decide) (fun h90 => ?_) (fun h90 => ?_)
      · refine G_iconst (pc := 113) (v := 0) dX12_tries_113 rfl ?_
        refine G_iret (pc := 114) dX12_tries_114 ⟨_, rfl, rfl⟩ ⟨by decide, by decide⟩ ?_
        exact h0 (by unfold gTrR; rw [if_neg h34, hc]) i2 hi2
      · exact absurd rfl h90
    · intro X Y rd hc i2 hi2 e6 e7 e8
      dsimp only [gRt]
      refine G_if_eq (pc := 90) (tgt := 113) dX12_tries_90 (by decide) (fun h90 => ?_) (fun h90 => ?_)
      · exact absurd h90 (by decide)
      · refine G_aload_n (pc := 93) 0 dX12_tries_93 rfl ?_
        refine G_getI (pc := 94) dX12_tries_94 fX12_55 (by assumption) ?_
        refine G_iload_n (pc := 97) 2 dX12_tries_97 rfl ?_
        refine G_icmp_ne (pc := 98) (tgt := 109) dX12_tries_98 (by decide) (fun h98 => ?_) (fun h98 => ?_)
        · refine G_iconst (pc := 109) (v := 1) dX12_tries_109 rfl ?_
          refine G_goto (pc := 110) (tgt := 114) dX12_tries_110 (by decide) ?_
          refine G_iret (pc := 114) dX12_tries_114 ⟨_, rfl, rfl⟩ ⟨by decide, by decide⟩ ?_
          exact h1 (X, Y, rd) (by unfold gTrR; rw [if_neg h34, hc]; exact if_neg (fun z => h98 (e6.trans z.1))) i2 hi2 e6 e7 e8
        · refine G_aload_n (pc := 101) 0 dX12_tries_101 rfl ?_
          refine G_getI (pc := 102) dX12_tries_102 fX12_58 (by assumption) ?_
          refine G_iload_n (pc := 105) 3 dX12_tries_105 rfl ?_
          refine G_icmp_eq (pc := 106) (tgt := 113) dX12_tries_106 (by decide) (fun h106 => ?_) (fun h106 => ?_)
          · refine G_iconst (pc := 113) (v := 0) dX12_tries_113 rfl ?_
            refine G_iret (pc := 114) dX12_tries_114 ⟨_, rfl, rfl⟩ ⟨by decide, by decide⟩ ?_
            exact h0 (by unfold gTrR; rw [if_neg h34, hc]; exact if_pos ⟨e6.symm.trans h98, e7.symm.trans h106⟩) i2 hi2
          · refine G_iconst (pc := 109) (v := 1) dX12_tries_109 rfl ?_
            refine G_goto (pc := 110) (tgt := 114) dX12_tries_110 (by decide) ?_
            refine G_iret (pc := 114) dX12_tries_114 ⟨_, rfl, rfl⟩ ⟨by decide, by decide⟩ ?_
            exact h1 (X, Y, rd) (by unfold gTrR; rw [if_neg h34, hc]; exact if_neg (fun z => h106 (e7.trans z.2))) i2 hi2 e6 e7 e8
  · refine G_iconst (pc := 38) (v := 0) dX12_tries_38 rfl ?_
    refine G_iret (pc := 39) dX12_tries_39 ⟨_, rfl, rfl⟩ ⟨by decide, by decide⟩ ?_
    exact h0 (by unfold gTrR; rw [if_pos h34]) i frM.rfl'

