/-! lengths -/
def flK (n : Nat) : Nat := if n = 0 then 0 else (119 + n.log2) * 8388608 + (n * 2 ^ (23 - n.log2) - 8388608)
theorem fl_h {n : Nat} (h0 : n ≠ 0) (h : n < 2 ^ 24) : 2 ^ n.log2 ≤ n ∧ n < 2 ^ (n.log2 + 1) ∧ n.log2 ≤ 23 := by
  obtain ⟨h1, h2⟩ := (Nat.log2_eq_iff h0).mp (rfl : n.log2 = n.log2)
  refine ⟨h1, h2, ?_⟩
  rcases Nat.lt_or_ge 23 n.log2 with z | z
  · have := Nat.pow_le_pow_right (n := 2) (by decide) (show 24 ≤ n.log2 from z)
    omega
  · exact z
theorem fl_bits {n : Nat} (h : n < 2 ^ 24) : (FP.fdiv (FP.i2f (nI n)) 1132462080).toNat = flK n := by
  unfold flK
  by_cases h0 : n = 0
  · subst h0; rw [if_pos rfl]; decide +kernel
  · rw [if_neg h0]
    obtain ⟨a, b, c⟩ := fl_h h0 h
    exact fl_div a b c
theorem fl_K {n : Nat} (h : n < 2 ^ 24) : flK n < 1199570944 := by
  unfold flK
  by_cases h0 : n = 0
  · rw [if_pos h0]; decide
  · rw [if_neg h0]
    obtain ⟨a, b, c⟩ := fl_h h0 h
    obtain ⟨c1, c2⟩ := fl_c a b c
    omega
theorem fl_n32 {n : Nat} (h : n < 2 ^ 24) : vf_n32 (FP.fdiv (FP.i2f (nI n)) 1132462080) := by
  have hk := fl_K h
  have hb := fl_bits h
  unfold vf_n32
  rw [UInt32.le_iff_toNat_le, UInt32.toNat_and, hb]
  have := Nat.and_le_left (n := flK n) (m := (0x7fffffff : UInt32).toNat)
  rw [show (0x7f800000 : UInt32).toNat = 2139095040 by decide +kernel]
  omega
theorem fl_dat {n : Nat} (h : n < 2 ^ 24) : ∃ c q, Jvm.FP.Core.decode Jvm.FP.Core.b32 (FP.fdiv (FP.i2f (nI n)) 1132462080).toNat = .fin false c q := by
  rw [fl_bits h]
  unfold flK
  by_cases h0 : n = 0
  · rw [if_pos h0]; exact ⟨0, -149, by decide +kernel⟩
  · rw [if_neg h0]
    obtain ⟨a, b, c⟩ := fl_h h0 h
    obtain ⟨c1, c2⟩ := fl_c a b c
    exact ⟨_, _, fl_dec (by omega) (by omega) (by omega)⟩
theorem fl_cmp {n : Nat} (h : n < 2 ^ 24) : FP.fcmp (FP.fdiv (FP.i2f (nI n)) 1132462080) (FP.fdiv (FP.i2f (nI n)) 1132462080) = some .eq := by
  obtain ⟨c, q, hd⟩ := fl_dat h
  show Jvm.FP.Core.order (Jvm.FP.Core.decode Jvm.FP.Core.b32 (FP.fdiv (FP.i2f (nI n)) 1132462080).toNat) (Jvm.FP.Core.decode Jvm.FP.Core.b32 (FP.fdiv (FP.i2f (nI n)) 1132462080).toNat) = _
  rw [hd]
  unfold Jvm.FP.Core.order
  dsimp only
  rw [Int.compare_eq_eq.mpr rfl]
/-- the root is not too great -/
theorem gRootL_le {v : Int64} {N : Nat} (hN : N < 2 ^ 31) (hv : v ≤ lN N) : ∀ j a, j ≤ 31 → a + 2 ^ j ≤ 2 ^ 31 → a * a ≤ N → ∃ b, gRootL v j (lN a) = lN b ∧ b * b ≤ N
  | 0, a, _, _, h => ⟨a, rfl, h⟩
  | j + 1, a, hj, h, h2 => by
    rw [Nat.pow_succ] at h
    have hp : 1 ≤ 2 ^ j := Nat.one_le_two_pow
    rw [gRootL]
    by_cases ht : (lN a + lN (2 ^ j)) * (lN a + lN (2 ^ j)) ≤ v
    · rw [if_pos ht, lN_add]
      refine gRootL_le hN hv j (a + 2 ^ j) (by omega) (by omega) ?_
      rw [lN_add, lN_mul] at ht
      have h3 : (a + 2 ^ j) * (a + 2 ^ j) < 2 ^ 63 := by
        have := Nat.mul_le_mul (show a + 2 ^ j ≤ 2 ^ 31 by omega) (show a + 2 ^ j ≤ 2 ^ 31 by omega)
        omega
      exact (pk_lLE h3 (by omega)).mp (Int64.le_trans ht hv)
    · rw [if_neg ht]
      exact gRootL_le hN hv j a (by omega) (by omega) h2
theorem gRoot_le {v : Int64} {N : Nat} (hN : N < 2 ^ 31) (hv : v ≤ lN N) : ∃ b, gRoot v = lN b ∧ b * b ≤ N := gRootL_le hN hv 31 0 (Nat.le_refl _) (by omega) (Nat.zero_le _)
def lnT (s : Nat → Int32) (w p : Nat) : Int32 := (gRoot ((s (w + 6 + 4 * (p + 1) + 0) - s (w + 6 + 4 * p + 0)) * (s (w + 6 + 4 * (p + 1) + 0) - s (w + 6 + 4 * p + 0)) + (s (w + 6 + 4 * (p + 1) + 1) - s (w + 6 + 4 * p + 1)) * (s (w + 6 + 4 * (p + 1) + 1) - s (w + 6 + 4 * p + 1)) : Int32).toInt64).toInt32
def lnR (s : Nat → Int32) (w : Nat) : Nat → Int32
  | 0 => 0
  | p + 1 => lnR s w p + lnT s w p
theorem lnT_le {s : Nat → Int32} {w z p : Nat} (hv : vW s w z) (hp : p + 1 ≤ z) : ∃ b, b ≤ 4096 ∧ lnT s w p = nI b := by
  obtain ⟨a1, a2, _⟩ := hv.2.2.2.2.2 (p + 1) hp
  obtain ⟨b1, b2, _⟩ := hv.2.2.2.2.2 p (by omega)
  obtain ⟨c1, c2, c3⟩ := sq_i a1 b1
  obtain ⟨d1, d2, d3⟩ := sq_i a2 b2
  have hs : ((s (w + 6 + 4 * (p + 1) + 0) - s (w + 6 + 4 * p + 0)) * (s (w + 6 + 4 * (p + 1) + 0) - s (w + 6 + 4 * p + 0)) + (s (w + 6 + 4 * (p + 1) + 1) - s (w + 6 + 4 * p + 1)) * (s (w + 6 + 4 * (p + 1) + 1) - s (w + 6 + 4 * p + 1)) : Int32).toInt64 ≤ lN 8388608 := by
    rw [Int64.le_iff_toInt_le, Int32.toInt_toInt64, Int32.toInt_add, bmod_i (by omega), lN_toInt (by decide)]
    omega
  obtain ⟨b, e1, e2⟩ := gRoot_le (by decide) hs
  refine ⟨b, ?_, ?_⟩
  · rcases Nat.lt_or_ge 4096 b with h | h
    · have := Nat.mul_le_mul (Nat.le_of_lt h) (Nat.le_of_lt h)
      omega
    · exact h
  · unfold lnT; rw [e1, lN_i]
theorem lnR_le {s : Nat → Int32} {w z : Nat} (hv : vW s w z) : ∀ p, p ≤ z → ∃ b, b ≤ 4096 * p ∧ lnR s w p = nI b
  | 0, _ => ⟨0, Nat.le_refl _, rfl⟩
  | p + 1, h => by
    obtain ⟨b, b1, b2⟩ := lnR_le hv p (by omega)
    obtain ⟨c, c1, c2⟩ := lnT_le hv h
    exact ⟨b + c, by omega, by rw [lnR, b2, c2, nI_add]⟩
def aLen (S : Nat → Int32) (w : Int32) : Int32 := if inI w 0 (S 1 - 1) then (FP.fdiv (FP.i2f (lnR S (23 + 166 * w.toNatClampNeg) ((S (23 + 166 * w.toNatClampNeg)).toNatClampNeg - 1))) 1132462080).toInt32 else -1000001
set_option maxRecDepth 100000 in
set_option maxHeartbeats 4000000 in
theorem c_Jxf58ca_isNaN_12338 {Γ : gG} {T : gTy} {r : gR} {l : gLg} {i : gI} {Q : gQ} {x : UInt32} (hx : FP.fcmp x x = some .eq) (hQ : Q (some (.int 0)) T r l i) : gC Γ MJxf58ca_isNaN_12338 [.float x] T r l i Q := by
  refine gC_ofF (by decide +kernel) (Nat.le_of_ble_eq_true rfl) (L := [(0, .float x)]) rfl ?_
  refine G_fload_n (pc := 0) 0 dJxf58ca_isNaN_12338_0 rfl ?_
  refine G_fload_n (pc := 1) 0 dJxf58ca_isNaN_12338_1 rfl ?_
  refine G_fcmp (pc := 2) dJxf58ca_isNaN_12338_2 ?_
  rw [hx]
  refine G_if_eq (pc := 3) (tgt := 10) dJxf58ca_isNaN_12338_3 (by decide) (fun h3 => ?_) (fun h3 => ?_)
  · refine G_iconst (pc := 10) (v := 0) dJxf58ca_isNaN_12338_10 rfl ?_
    refine G_iret (pc := 11) dJxf58ca_isNaN_12338_11 ⟨_, rfl, rfl⟩ ⟨by decide, by decide⟩ ?_
    exact hQ
  · exact absurd (by decide) h3

set_option maxRecDepth 100000 in
set_option maxHeartbeats 4000000 in
theorem c_Jxf58ca_floatToIntBits_5c35a {Γ : gG} {T : gTy} {r : gR} {l : gLg} {i : gI} {Q : gQ} {x : UInt32} (hx : FP.fcmp x x = some .eq) (hQ : Q (some (.int x.toInt32)) T r l i) : gC Γ MJxf58ca_floatToIntBits_5c35a [.float x] T r l i Q := by
  refine gC_ofF (by decide +kernel) (Nat.le_of_ble_eq_true rfl) (L := [(0, .float x)]) rfl ?_
  refine G_fload_n (pc := 0) 0 dJxf58ca_floatToIntBits_5c35a_0 rfl ?_
  refine gS1 (pc := 1) (k' := 0) (n' := 0) dJxf58ca_floatToIntBits_5c35a_1 lkJxf58ca_59 ⟨by decide, by decide⟩ (Nat.le_of_ble_eq_true rfl) rfl rfl ⟨by decide, by decide⟩ (c_Jxf58ca_isNaN_12338 hx ?_)
  dsimp only [gRt]
  refine G_if_ne (pc := 4) (tgt := 12) dJxf58ca_floatToIntBits_5c35a_4 (by decide) (fun h4 => ?_) (fun h4 => ?_)
  · exact absurd rfl h4
  · refine G_fload_n (pc := 7) 0 dJxf58ca_floatToIntBits_5c35a_7 rfl ?_
    refine G_f2i (pc := 8) dJxf58ca_floatToIntBits_5c35a_8 mlJxf58ca_74 rawn raws rawi (by decide) (by decide) ?_
    refine G_iret (pc := 11) dJxf58ca_floatToIntBits_5c35a_11 ⟨_, rfl, rfl⟩ ⟨by decide, by decide⟩ ?_
    exact hQ

set_option maxRecDepth 100000 in
set_option maxHeartbeats 4000000 in
theorem lp_X12_lengthBits {Γ : gG} {T : gTy} {r : gR} {l : gLg} {i : gI} {Q : gQ} {m a z : Nat} (hM : lyM T r m) (ha : a < 5) (hn : i (m + 1) (23 + 166 * a) = nI (z + 1)) (hz : z + 1 ≤ 40) (hb : ∃ b, b < 2 ^ 24 ∧ (lnR (i (m + 1)) (23 + 166 * a) z) = nI b) (hQ : Q (some (.int (FP.fdiv (FP.i2f (lnR (i (m + 1)) (23 + 166 * a) z)) 1132462080).toInt32)) T r l i) : ∀ d k, k + d = z → G Γ MX12_lengthBits 0 0 15 [(0, .ref m), (1, .int (nI a)), (2, .int (lnR (i (m + 1)) (23 + 166 * a) k)), (3, .int (nI (k + 1)))] [] T r l i Q := by
  have hM2 := hM
  obtain ⟨m0, m1, m2, m3, m4, m5, m6, m7, m8, m9, m10⟩ := hM
  intro d
  induction d with
  | zero =>
    intro k hk
    obtain rfl : k = z := by omega
    obtain ⟨b, hb1, hb2⟩ := hb
    rw [hb2] at hQ ⊢
    refine G_iload_n (pc := 15) 3 dX12_lengthBits_15 rfl ?_
    refine G_aload_n (pc := 16) 0 dX12_lengthBits_16 rfl ?_
    refine G_iload_n (pc := 17) 1 dX12_lengthBits_17 rfl ?_
    refine gV1 (pc := 18) (k' := 0) (n' := 0) dX12_lengthBits_18 lkX12_80 ⟨by decide, by decide⟩ (Nat.le_of_ble_eq_true rfl) rfl rfl ⟨by decide, by decide⟩ (by assumption) (c_X12_places (k := a) hM2 (by omega) ?_)
    dsimp only [gRt]
    rw [hn]
    refine G_icmp_ge (pc := 21) (tgt := 87) dX12_lengthBits_21 (by decide) (fun h21 => ?_) (fun h21 => ?_)
    · refine G_iload_n (pc := 87) 2 dX12_lengthBits_87 rfl ?_
      refine G_i2f (pc := 88) dX12_lengthBits_88 ?_
      refine G_st3 (pc := 89) (gSt_fn dX12_lengthBits_89 rfl (by decide)) rfl ?_
      refine G_fload_n (pc := 90) 3 dX12_lengthBits_90 rfl ?_
      refine G_ldcf (pc := 91) dX12_lengthBits_91 kcX12_181 ?_
      refine G_fdiv (pc := 93) dX12_lengthBits_93 (fl_n32 hb1) ?_
      refine gS1 (pc := 94) (k' := 0) (n' := 0) dX12_lengthBits_94 lkX12_182 ⟨by decide, by decide⟩ (Nat.le_of_ble_eq_true rfl) rfl rfl ⟨by decide, by decide⟩ (c_Jxf58ca_floatToIntBits_5c35a (fl_cmp hb1) ?_)
      dsimp only [gRt]
      refine G_iret (pc := 97) dX12_lengthBits_97 ⟨_, rfl, rfl⟩ ⟨by decide, by decide⟩ ?_
      exact hQ
    · exact absurd (Int32.le_refl _) h21
  | succ d ih =>
    intro k hk
    refine G_iload_n (pc := 15) 3 dX12_lengthBits_15 rfl ?_
    refine G_aload_n (pc := 16) 0 dX12_lengthBits_16 rfl ?_
    refine G_iload_n (pc := 17) 1 dX12_lengthBits_17 rfl ?_
    refine gV1 (pc := 18) (k' := 0) (n' := 0) dX12_lengthBits_18 lkX12_80 ⟨by decide, by decide⟩ (Nat.le_of_ble_eq_true rfl) rfl rfl ⟨by decide, by decide⟩ (by assumption) (c_X12_places (k := a) hM2 (by omega) ?_)
    dsimp only [gRt]
    rw [hn]
    refine G_icmp_ge (pc := 21) (tgt := 87) dX12_lengthBits_21 (by decide) (fun h21 => ?_) (fun h21 => ?_)
    · exact absurd h21 (nI_ge (by omega) (by omega))
    · refine G_aload_n (pc := 24) 0 dX12_lengthBits_24 rfl ?_
      refine G_iload_n (pc := 25) 1 dX12_lengthBits_25 rfl ?_
      refine G_iload_n (pc := 26) 3 dX12_lengthBits_26 rfl ?_
      refine G_iconst (pc := 27) (v := 0) dX12_lengthBits_27 rfl ?_
      refine gV3 (pc := 28) (k' := 0) (n' := 0) dX12_lengthBits_28 lkX12_103 ⟨by decide, by decide⟩ (Nat.le_of_ble_eq_true rfl) rfl rfl ⟨by decide, by decide⟩ (by assumption) (c_X12_placePart (k := a) (p := k + 1) (c := 0) hM2 (by omega) ?_)
      dsimp only [gRt]
      refine G_aload_n (pc := 31) 0 dX12_lengthBits_31 rfl ?_
      refine G_iload_n (pc := 32) 1 dX12_lengthBits_32 rfl ?_
      refine G_iload_n (pc := 33) 3 dX12_lengthBits_33 rfl ?_
      refine G_iconst (pc := 34) (v := 1) dX12_lengthBits_34 rfl ?_
      refine G_isub (pc := 35) dX12_lengthBits_35 ?_
      rw [nI_pred]
      refine G_iconst (pc := 36) (v := 0) dX12_lengthBits_36 rfl ?_
      refine gV3 (pc := 37) (k' := 0) (n' := 0) dX12_lengthBits_37 lkX12_103 ⟨by decide, by decide⟩ (Nat.le_of_ble_eq_true rfl) rfl rfl ⟨by decide, by decide⟩ (by assumption) (c_X12_placePart (k := a) (p := k) (c := 0) hM2 (by omega) ?_)
      dsimp only [gRt]
      refine G_isub (pc := 40) dX12_lengthBits_40 ?_
      refine G_sn4 (pc := 41) (gSt_i dX12_lengthBits_41 (by decide)) rfl ?_
      refine G_aload_n (pc := 43) 0 dX12_lengthBits_43 rfl ?_
      refine G_iload_n (pc := 44) 1 dX12_lengthBits_44 rfl ?_
      refine G_iload_n (pc := 45) 3 dX12_lengthBits_45 rfl ?_
      refine G_iconst (pc := 46) (v := 1) dX12_lengthBits_46 rfl ?_
      refine gV3 (pc := 47) (k' := 0) (n' := 0) dX12_lengthBits_47 lkX12_103 ⟨by decide, by decide⟩ (Nat.le_of_ble_eq_true rfl) rfl rfl ⟨by decide, by decide⟩ (by assumption) (c_X12_placePart (k := a) (p := k + 1) (c := 1) hM2 (by omega) ?_)
      dsimp only [gRt]
      refine G_aload_n (pc := 50) 0 dX12_lengthBits_50 rfl ?_
      refine G_iload_n (pc := 51) 1 dX12_lengthBits_51 rfl ?_
      refine G_iload_n (pc := 52) 3 dX12_lengthBits_52 rfl ?_
      refine G_iconst (pc := 53) (v := 1) dX12_lengthBits_53 rfl ?_
      refine G_isub (pc := 54) dX12_lengthBits_54 ?_
      rw [nI_pred]
      refine G_iconst (pc := 55) (v := 1) dX12_lengthBits_55 rfl ?_
      refine gV3 (pc := 56) (k' := 0) (n' := 0) dX12_lengthBits_56 lkX12_103 ⟨by decide, by decide⟩ (Nat.le_of_ble_eq_true rfl) rfl rfl ⟨by decide, by decide⟩ (by assumption) (c_X12_placePart (k := a) (p := k) (c := 1) hM2 (by omega) ?_)
      dsimp only [gRt]
      refine G_isub (pc := 59) dX12_lengthBits_59 ?_
      refine G_sn5 (pc := 60) (gSt_i dX12_lengthBits_60 (by decide)) rfl ?_
      refine G_iload_n (pc := 62) 2 dX12_lengthBits_62 rfl ?_
      refine G_iload (pc := 63) 4 dX12_lengthBits_63 rfl ?_
      refine gS1 (pc := 65) (k' := 0) (n' := 0) dX12_lengthBits_65 lkX12_178 ⟨by decide, by decide⟩ (Nat.le_of_ble_eq_true rfl) rfl rfl ⟨by decide, by decide⟩ (c_X12_square ?_)
      dsimp only [gRt]
      refine G_iload (pc := 68) 5 dX12_lengthBits_68 rfl ?_
      refine gS1 (pc := 70) (k' := 0) (n' := 0) dX12_lengthBits_70 lkX12_178 ⟨by decide, by decide⟩ (Nat.le_of_ble_eq_true rfl) rfl rfl ⟨by decide, by decide⟩ (c_X12_square ?_)
      dsimp only [gRt]
      refine G_iadd (pc := 73) dX12_lengthBits_73 ?_
      refine G_i2l (pc := 74) dX12_lengthBits_74 ?_
      refine gS1 (pc := 75) (k' := 0) (n' := 0) dX12_lengthBits_75 lkX12_95 ⟨by decide, by decide⟩ (Nat.le_of_ble_eq_true rfl) rfl rfl ⟨by decide, by decide⟩ (c_X12_root ?_)
      dsimp only [gRt]
      refine G_l2i (pc := 78) dX12_lengthBits_78 ?_
      refine G_iadd (pc := 79) dX12_lengthBits_79 ?_
      rw [show (lnR (i (m + 1)) (23 + 166 * a) k) + (gRoot ((i (m + 1) (23 + 166 * a + 6 + 4 * (k + 1) + 0) - i (m + 1) (23 + 166 * a + 6 + 4 * k + 0)) * (i (m + 1) (23 + 166 * a + 6 + 4 * (k + 1) + 0) - i (m + 1) (23 + 166 * a + 6 + 4 * k + 0)) + (i (m + 1) (23 + 166 * a + 6 + 4 * (k + 1) + 1) - i (m + 1) (23 + 166 * a + 6 + 4 * k + 1)) * (i (m + 1) (23 + 166 * a + 6 + 4 * (k + 1) + 1) - i (m + 1) (23 + 166 * a + 6 + 4 * k + 1)) : Int32).toInt64).toInt32 = (lnR (i (m + 1)) (23 + 166 * a) (k + 1)) from rfl]
      refine G_st2 (pc := 80) (gSt_in dX12_lengthBits_80 rfl (by decide)) rfl ?_
      refine G_inc3 (pc := 81) (v := 1) dX12_lengthBits_81 rfl (by decide) rfl ?_
      refine G_goto (pc := 84) (tgt := 15) dX12_lengthBits_84 (by decide) ?_
      refine G_drop5 ?_
      refine G_drop4 ?_
      rw [nI_1]
      exact ih (k + 1) (by omega)

set_option maxRecDepth 100000 in
set_option maxHeartbeats 4000000 in
theorem c_X12_lengthBits {Γ : gG} {T : gTy} {r : gR} {l : gLg} {i : gI} {Q : gQ} {m : Nat} {S : Nat → Int32} {w : Int32} (hM : lyM T r m) (he : i (m + 1) = S) (hS : vS S) (hQ : Q (some (.int (aLen S w))) T r l i) : gC Γ MX12_lengthBits [.ref m, .int w] T r l i Q := by
  have hM2 := hM
  obtain ⟨m0, m1, m2, m3, m4, m5, m6, m7, m8, m9, m10⟩ := hM
  subst he
  have hT := hS.1
  have hE := hS.2.1
  have hn6 := hT.1.1
  have hn0 := hT.1.2.1
  obtain ⟨w5, w1, wk⟩ := nW_of hS
  refine gC_of rfl (Nat.le_of_ble_eq_true rfl) (L := [(0, .ref m), (1, .int w)]) rfl ?_
  refine G_aload_n (pc := 0) 0 dX12_lengthBits_0 rfl ?_
  refine G_iload_n (pc := 1) 1 dX12_lengthBits_1 rfl ?_
  refine gV1 (pc := 2) (k' := 0) (n' := 0) dX12_lengthBits_2 lkX12_146 ⟨by decide, by decide⟩ (Nat.le_of_ble_eq_true rfl) rfl rfl ⟨by decide, by decide⟩ (by assumption) (c_X12_isWalk hM2 ?_)
  dsimp only [gRt]
  refine G_if_ne (pc := 5) (tgt := 11) dX12_lengthBits_5 (by decide) (fun h5 => ?_) (fun h5 => ?_)
  · refine G_iconst (pc := 11) (v := 0) dX12_lengthBits_11 rfl ?_
    refine G_sn2 (pc := 12) (gSt_in dX12_lengthBits_12 rfl (by decide)) rfl ?_
    refine G_iconst (pc := 13) (v := 1) dX12_lengthBits_13 rfl ?_
    refine G_sn3 (pc := 14) (gSt_in dX12_lengthBits_14 rfl (by decide)) rfl ?_
    obtain ⟨a, ha, rfl⟩ := (isW (by omega)).mp (w1 ▸ gB_ne.mp h5)
    obtain ⟨⟨z, hv⟩, _⟩ := wk a ha
    have hz40 := hv.2.1
    obtain ⟨b, b1, b2⟩ := lnR_le hv z (Nat.le_refl _)
    rw [show aLen (i (m + 1)) (nI a) = (FP.fdiv (FP.i2f (lnR (i (m + 1)) (23 + 166 * a) z)) 1132462080).toInt32 by unfold aLen; rw [if_pos (gB_ne.mp h5), nI_clamp (by omega), hv.1, nI_clamp (by omega), Nat.add_sub_cancel]] at hQ
    exact lp_X12_lengthBits hM2 (by omega) hv.1 hv.2.1 ⟨b, by omega, b2⟩ hQ z 0 (Nat.zero_add z)
  · refine G_ldc (pc := 8) dX12_lengthBits_8 kcX12_29 ?_
    refine G_iret (pc := 10) dX12_lengthBits_10 ⟨_, rfl, rfl⟩ ⟨by decide, by decide⟩ ?_
    rw [show aLen (i (m + 1)) w = -1000001 from if_neg (gB_eq.mp h5)] at hQ
    exact hQ

