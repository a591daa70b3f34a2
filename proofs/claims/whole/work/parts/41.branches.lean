/-! the reference begins walks -/
theorem bd_i {x : Int32} (h : inB x.toInt64) : x.toInt.natAbs ≤ 1024 := by
  have := bd_inB h
  unfold bd at this
  rw [Int32.toInt_toInt64] at this
  exact this
theorem bmod_i {z : Int} (h : z.natAbs < 2 ^ 31) : z.bmod (2 ^ 32) = z := Int.bmod_eq_of_le (by omega) (by omega)
theorem sub_i {x y : Int32} (hx : inB x.toInt64) (hy : inB y.toInt64) : (x - y).toInt = x.toInt - y.toInt := by
  have h1 := bd_i hx
  have h2 := bd_i hy
  rw [Int32.toInt_sub]
  exact bmod_i (by omega)
theorem sub_bd {x y : Int32} (hx : inB x.toInt64) (hy : inB y.toInt64) : bd (x - y).toInt64 2048 := by
  have h1 := bd_i hx
  have h2 := bd_i hy
  unfold bd
  rw [Int32.toInt_toInt64, sub_i hx hy]
  omega
theorem sub_0 {x y : Int32} (hx : inB x.toInt64) (hy : inB y.toInt64) (h : (x - y).toInt64.toInt = 0) : x = y := by
  rw [Int32.toInt_toInt64, sub_i hx hy] at h
  exact Int32.toInt_inj.mp (by omega)
theorem sq_0 {a : Int} (h : a * a = 0) : a = 0 := by
  rcases Int.mul_eq_zero.mp h with h | h <;> exact h
/-- two places that are not the same are apart -/
theorem far_ge {x y u v : Int32} (hx : inB x.toInt64) (hy : inB y.toInt64) (hu : inB u.toInt64) (hv : inB v.toInt64) (h : ¬ (x = u ∧ y = v)) : (1 : Int64) ≤ (x - u).toInt64 * (x - u).toInt64 + (y - v).toInt64 * (y - v).toInt64 := by
  have a := sub_bd hx hu
  have b := sub_bd hy hv
  refine gg_pos (bd_mono a (by decide)) (bd_mono b (by decide)) (fun z => h ?_)
  have h1 := bd_mulI a a (by decide)
  have h2 := bd_mulI b b (by decide)
  have h3 := bd_addI (bd_mul a a (by decide)) (bd_mul b b (by decide)) (by decide)
  rw [z, h1, h2, show (0 : Int64).toInt = 0 from rfl] at h3
  have s1 := sq_pos (a := (x - u).toInt64.toInt)
  have s2 := sq_pos (a := (y - v).toInt64.toInt)
  exact ⟨sub_0 hx hu (sq_0 (by omega)), sub_0 hy hv (sq_0 (by omega))⟩
def brA (s : Nat → Int32) (w b : Nat) : Int64 := (s (w + 6 + 4 * (b + 1) + 0) - s (w + 6 + 4 * b + 0)).toInt64
def brB (s : Nat → Int32) (w b : Nat) : Int64 := (s (w + 6 + 4 * (b + 1) + 1) - s (w + 6 + 4 * b + 1)).toInt64
/-- where the branch beside the crossing b + 1 is corrected to -/
def brC (s : Nat → Int32) (w b : Nat) (sd : Int32) : Option (Int64 × Int64 × Nat) :=
  gCor (tF s) (tP s) (tQ s) (tN s) (tM s) 0 ((s (w + 6 + 4 * (b + 1) + 0)).toInt64 - (s 2).toInt64 * sd.toInt64 * brB s w b / gRoot (brA s w b * brA s w b + brB s w b * brB s w b)) ((s (w + 6 + 4 * (b + 1) + 1)).toInt64 + (s 2).toInt64 * sd.toInt64 * brA s w b / gRoot (brA s w b * brA s w b + brB s w b * brB s w b))
theorem brR_ge {s : Nat → Int32} {w z b : Nat} (hv : vW s w z) (hb : b + 1 ≤ z) (h2 : s (w + 6 + 4 * (b + 1) + 3) = 2) : (1 : Int64) ≤ brA s w b * brA s w b + brB s w b * brB s w b := by
  obtain ⟨_, _, _, _, _, v6⟩ := hv
  obtain ⟨a1, a2, a3⟩ := v6 (b + 1) hb
  obtain ⟨a4, a5, _⟩ := v6 b (by omega)
  obtain ⟨e, he, hne⟩ := a3 h2
  obtain rfl : b = e := by omega
  exact far_ge a1 a2 a4 a5 hne
/-- the sign that a branch gets -/
def brS (s : Nat → Int32) (w b : Nat) (sd : Int32) (c : Int64 × Int64 × Nat) : Int32 := if (gSum (tF s) (tP s) (tQ s) c.1 c.2.1 1 (tN s) * brA s w b + gSum (tF s) (tP s) (tQ s) c.1 c.2.1 2 (tN s) * brB s w b) * sd.toInt64 < 0 then -1 else 1
/-- a walk begins at c -/
def oF (s : Nat → Int32) (k : Nat) (sg p f : Int32) (c : Int64 × Int64 × Nat) : Nat → Int32 := jnF (opF s k sg p f) (23 + 166 * k) 0 c.1.toInt32 c.2.1.toInt32 (nI c.2.2) 0
set_option maxRecDepth 100000 in
set_option maxHeartbeats 4000000 in
theorem c_X12_branches {Γ : gG} {T : gTy} {r : gR} {l : gLg} {i : gI} {Q : gQ} {m k p z nw : Nat} {sd : Int32} {S : Nat → Int32} (hM : lyM T r m) (hA : gN Γ ≤ m) (hk : k < 5) (he : i (m + 1) = S) (hT : vT S) (hE : vSe S) (hv : vW S (23 + 166 * k) z) (hp : p ≤ z) (hn : S 1 = nI nw) (hn5 : nw ≤ 5)
  (h0 : ¬ S (23 + 166 * k + 6 + 4 * p + 3) = 2 → Q (some (.int (-1000002))) T r l i)
  (h1 : ∀ b, p = b + 1 → S (23 + 166 * k + 6 + 4 * p + 3) = 2 → brC S (23 + 166 * k) b sd = none → ∀ i', frM m i i' → Q (some (.int (-1000002))) T r l i')
  (h2 : ∀ b c, p = b + 1 → S (23 + 166 * k + 6 + 4 * p + 3) = 2 → brC S (23 + 166 * k) b sd = some c → nw = 5 → ∀ i', frM m i i' → Q (some (.int (-1000003))) T r l i')
  (h3 : ∀ b c, p = b + 1 → S (23 + 166 * k + 6 + 4 * p + 3) = 2 → brC S (23 + 166 * k) b sd = some c → nw < 5 → ∀ i', frN m i i' (oF S nw (brS S (23 + 166 * k) b sd c) (nI k) (nI p) c) → Q (some (.int (nI nw))) T r l i') : gC Γ MX12_branches [.ref m, .int (nI k), .int (nI p), .int sd] T r l i Q := by
  have hM2 := hM
  obtain ⟨m0, m1, m2, m3, m4, m5, m6, m7, m8, m9, m10⟩ := hM
  subst he
  have z40 := hv.2.1
  refine gC_of rfl (Nat.le_of_ble_eq_true rfl) (L := [(0, .ref m), (1, .int (nI k)), (2, .int (nI p)), (3, .int sd)]) rfl ?_
  refine G_aload_n (pc := 0) 0 dX12_branches_0 rfl ?_
  refine G_iload_n (pc := 1) 1 dX12_branches_1 rfl ?_
  refine G_iload_n (pc := 2) 2 dX12_branches_2 rfl ?_
  refine G_iconst (pc := 3) (v := 3) dX12_branches_3 rfl ?_
  refine gV3 (pc := 4) (k' := 0) (n' := 0) dX12_branches_4 lkX12_103 ⟨by decide, by decide⟩ (Nat.le_of_ble_eq_true rfl) rfl rfl ⟨by decide, by decide⟩ (by assumption) (c_X12_placePart (k := k) (p := p) (c := 3) hM2 (by omega) ?_)
  dsimp only [gRt]
  refine G_iconst (pc := 7) (v := 2) dX12_branches_7 rfl ?_
  refine G_icmp_eq (pc := 8) (tgt := 14) dX12_branches_8 (by decide) (fun h8 => ?_) (fun h8 => ?_)
  · obtain ⟨b, rfl, _⟩ := (hv.2.2.2.2.2 p hp).2.2 h8
    have hge := brR_ge hv hp h8
    have hR0 := gRoot_n0 hge
    refine G_aload_n (pc := 14) 0 dX12_branches_14 rfl ?_
    refine G_iload_n (pc := 15) 1 dX12_branches_15 rfl ?_
    refine G_iload_n (pc := 16) 2 dX12_branches_16 rfl ?_
    refine G_iconst (pc := 17) (v := 0) dX12_branches_17 rfl ?_
    refine gV3 (pc := 18) (k' := 0) (n' := 0) dX12_branches_18 lkX12_103 ⟨by decide, by decide⟩ (Nat.le_of_ble_eq_true rfl) rfl rfl ⟨by decide, by decide⟩ (by assumption) (c_X12_placePart (k := k) (p := (b + 1)) (c := 0) hM2 (by omega) ?_)
    dsimp only [gRt]
    refine G_sn4 (pc := 21) (gSt_i dX12_branches_21 (by decide)) rfl ?_
    refine G_aload_n (pc := 23) 0 dX12_branches_23 rfl ?_
    refine G_iload_n (pc := 24) 1 dX12_branches_24 rfl ?_
    refine G_iload_n (pc := 25) 2 dX12_branches_25 rfl ?_
    refine G_iconst (pc := 26) (v := 1) dX12_branches_26 rfl ?_
    refine gV3 (pc := 27) (k' := 0) (n' := 0) dX12_branches_27 lkX12_103 ⟨by decide, by decide⟩ (Nat.le_of_ble_eq_true rfl) rfl rfl ⟨by decide, by decide⟩ (by assumption) (c_X12_placePart (k := k) (p := (b + 1)) (c := 1) hM2 (by omega) ?_)
    dsimp only [gRt]
    refine G_sn5 (pc := 30) (gSt_i dX12_branches_30 (by decide)) rfl ?_
    refine G_iload (pc := 32) 4 dX12_branches_32 rfl ?_
    refine G_aload_n (pc := 34) 0 dX12_branches_34 rfl ?_
    refine G_iload_n (pc := 35) 1 dX12_branches_35 rfl ?_
    refine G_iload_n (pc := 36) 2 dX12_branches_36 rfl ?_
    refine G_iconst (pc := 37) (v := 1) dX12_branches_37 rfl ?_
    refine G_isub (pc := 38) dX12_branches_38 ?_
    rw [nI_pred]
    refine G_iconst (pc := 39) (v := 0) dX12_branches_39 rfl ?_
    refine gV3 (pc := 40) (k' := 0) (n' := 0) dX12_branches_40 lkX12_103 ⟨by decide, by decide⟩ (Nat.le_of_ble_eq_true rfl) rfl rfl ⟨by decide, by decide⟩ (by assumption) (c_X12_placePart (k := k) (p := b) (c := 0) hM2 (by omega) ?_)
    dsimp only [gRt]
    refine G_isub (pc := 43) dX12_branches_43 ?_
    refine G_i2l (pc := 44) dX12_branches_44 ?_
    refine G_sn6 (pc := 45) (gSt_l dX12_branches_45 (by decide)) rfl ?_
    refine G_iload (pc := 47) 5 dX12_branches_47 rfl ?_
    refine G_aload_n (pc := 49) 0 dX12_branches_49 rfl ?_
    refine G_iload_n (pc := 50) 1 dX12_branches_50 rfl ?_
    refine G_iload_n (pc := 51) 2 dX12_branches_51 rfl ?_
    refine G_iconst (pc := 52) (v := 1) dX12_branches_52 rfl ?_
    refine G_isub (pc := 53) dX12_branches_53 ?_
    rw [nI_pred]
    refine G_iconst (pc := 54) (v := 1) dX12_branches_54 rfl ?_
    refine gV3 (pc := 55) (k' := 0) (n' := 0) dX12_branches_55 lkX12_103 ⟨by decide, by decide⟩ (Nat.le_of_ble_eq_true rfl) rfl rfl ⟨by decide, by decide⟩ (by assumption) (c_X12_placePart (k := k) (p := b) (c := 1) hM2 (by omega) ?_)
    dsimp only [gRt]
    refine G_isub (pc := 58) dX12_branches_58 ?_
    refine G_i2l (pc := 59) dX12_branches_59 ?_
    refine G_sn7 (pc := 60) (gSt_l dX12_branches_60 (by decide)) rfl ?_
    refine G_aload_n (pc := 62) 0 dX12_branches_62 rfl ?_
    refine G_getR (pc := 63) dX12_branches_63 fX12_7 (by assumption) (by assumption) ?_
    refine G_iconst (pc := 66) (v := 2) dX12_branches_66 rfl ?_
    refine G_ialdJ (pc := 67) (j := 2) dX12_branches_67 (by assumption) gl2 (by first | assumption | omega) (by decide) ?_
    refine G_i2l (pc := 68) dX12_branches_68 ?_
    refine G_iload_n (pc := 69) 3 dX12_branches_69 rfl ?_
    refine G_i2l (pc := 70) dX12_branches_70 ?_
    refine G_lmul (pc := 71) dX12_branches_71 ?_
    refine G_sn8 (pc := 72) (gSt_l dX12_branches_72 (by decide)) rfl ?_
    refine G_lload (pc := 74) 6 dX12_branches_74 rfl ?_
    refine G_lload (pc := 76) 6 dX12_branches_76 rfl ?_
    refine G_lmul (pc := 78) dX12_branches_78 ?_
    refine G_lload (pc := 79) 7 dX12_branches_79 rfl ?_
    refine G_lload (pc := 81) 7 dX12_branches_81 rfl ?_
    refine G_lmul (pc := 83) dX12_branches_83 ?_
    refine G_ladd (pc := 84) dX12_branches_84 ?_
    refine gS1 (pc := 85) (k' := 0) (n' := 0) dX12_branches_85 lkX12_95 ⟨by decide, by decide⟩ (Nat.le_of_ble_eq_true rfl) rfl rfl ⟨by decide, by decide⟩ (c_X12_root ?_)
    dsimp only [gRt]
    refine G_sn9 (pc := 88) (gSt_l dX12_branches_88 (by decide)) rfl ?_
    refine G_aload_n (pc := 90) 0 dX12_branches_90 rfl ?_
    refine G_iload (pc := 91) 4 dX12_branches_91 rfl ?_
    refine G_i2l (pc := 93) dX12_branches_93 ?_
    refine G_lload (pc := 94) 8 dX12_branches_94 rfl ?_
    refine G_lload (pc := 96) 7 dX12_branches_96 rfl ?_
    refine G_lmul (pc := 98) dX12_branches_98 ?_
    refine G_lload (pc := 99) 9 dX12_branches_99 rfl ?_
    refine G_ldiv (pc := 101) dX12_branches_101 hR0 ?_
    refine G_lsub (pc := 102) dX12_branches_102 ?_
    refine G_iload (pc := 103) 5 dX12_branches_103 rfl ?_
    refine G_i2l (pc := 105) dX12_branches_105 ?_
    refine G_lload (pc := 106) 8 dX12_branches_106 rfl ?_
    refine G_lload (pc := 108) 6 dX12_branches_108 rfl ?_
    refine G_lmul (pc := 110) dX12_branches_110 ?_
    refine G_lload (pc := 111) 9 dX12_branches_111 rfl ?_
    refine G_ldiv (pc := 113) dX12_branches_113 hR0 ?_
    refine G_ladd (pc := 114) dX12_branches_114 ?_
    refine gV2 (pc := 115) (k' := 0) (n' := 0) dX12_branches_115 lkX12_99 ⟨by decide, by decide⟩ (Nat.le_of_ble_eq_true rfl) rfl rfl ⟨by decide, by decide⟩ (by assumption) (c_X12_corrects (f := tF (i (m + 1))) (p := tP (i (m + 1))) (q := tQ (i (m + 1))) (n := tN (i (m + 1))) (mm := tM (i (m + 1))) hM2 hA hT.1 hE.2.2.2.2 (by have := hE.2.2.2.1; omega) ?_ ?_)
    · intro hc i2 hi2
      dsimp only [gRt]
      refine G_if_ne (pc := 118) (tgt := 124) dX12_branches_118 (by decide) (fun h118 => ?_) (fun h118 => ?_)
      · exact absurd rfl h118
      · refine G_ldc (pc := 121) dX12_branches_121 kcX12_116 ?_
        refine G_iret (pc := 123) dX12_branches_123 ⟨_, rfl, rfl⟩ ⟨by decide, by decide⟩ ?_
        exact h1 b rfl h8 hc i2 hi2
    · intro X Y rd hc i2 hi2 e6 e7 e8
      have ci := gCor_in _ _ _ _ hc
      have hF : i2 (m + 1) = i (m + 1) := hi2.1 (m + 1) (by omega)
      generalize hcc : (X, Y, rd) = c at hc
      obtain ⟨rfl, rfl, rfl⟩ : X = c.1 ∧ Y = c.2.1 ∧ rd = c.2.2 := by rw [← hcc]; exact ⟨rfl, rfl, rfl⟩
      have h3v := h3 b c rfl h8 hc
      dsimp only [gRt]
      refine G_if_ne (pc := 118) (tgt := 124) dX12_branches_118 (by decide) (fun h118 => ?_) (fun h118 => ?_)
      · refine G_aload_n (pc := 124) 0 dX12_branches_124 rfl ?_
        refine G_aload_n (pc := 125) 0 dX12_branches_125 rfl ?_
        refine G_getI (pc := 126) dX12_branches_126 fX12_55 (by assumption) ?_
        refine G_aload_n (pc := 129) 0 dX12_branches_129 rfl ?_
        refine G_getI (pc := 130) dX12_branches_130 fX12_58 (by assumption) ?_
        refine G_iconst (pc := 133) (v := 1) dX12_branches_133 rfl ?_
        refine gV3 (pc := 134) (k' := 0) (n' := 0) dX12_branches_134 lkX12_61 ⟨by decide, by decide⟩ (Nat.le_of_ble_eq_true rfl) rfl rfl ⟨by decide, by decide⟩ (by assumption) (c_X12_sum (w := 1) hM2 (by rw [hF]; exact hT.1) (by decide) ?_)
        dsimp only [gRt]
        rw [e6, e7, inB_tt ci.1, inB_tt ci.2.1]
        refine G_lload (pc := 137) 6 dX12_branches_137 rfl ?_
        refine G_lmul (pc := 139) dX12_branches_139 ?_
        refine G_aload_n (pc := 140) 0 dX12_branches_140 rfl ?_
        refine G_aload_n (pc := 141) 0 dX12_branches_141 rfl ?_
        refine G_getI (pc := 142) dX12_branches_142 fX12_55 (by assumption) ?_
        refine G_aload_n (pc := 145) 0 dX12_branches_145 rfl ?_
        refine G_getI (pc := 146) dX12_branches_146 fX12_58 (by assumption) ?_
        refine G_iconst (pc := 149) (v := 2) dX12_branches_149 rfl ?_
        refine gV3 (pc := 150) (k' := 0) (n' := 0) dX12_branches_150 lkX12_61 ⟨by decide, by decide⟩ (Nat.le_of_ble_eq_true rfl) rfl rfl ⟨by decide, by decide⟩ (by assumption) (c_X12_sum (w := 2) hM2 (by rw [hF]; exact hT.1) (by decide) ?_)
        dsimp only [gRt]
        rw [e6, e7, inB_tt ci.1, inB_tt ci.2.1]
        refine G_lload (pc := 153) 7 dX12_branches_153 rfl ?_
        refine G_lmul (pc := 155) dX12_branches_155 ?_
        refine G_ladd (pc := 156) dX12_branches_156 ?_
        refine G_iload_n (pc := 157) 3 dX12_branches_157 rfl ?_
        refine G_i2l (pc := 158) dX12_branches_158 ?_
        refine G_lmul (pc := 159) dX12_branches_159 ?_
        refine G_sn10 (pc := 160) (gSt_l dX12_branches_160 (by decide)) rfl ?_
        refine G_aload_n (pc := 162) 0 dX12_branches_162 rfl ?_
        refine G_lload (pc := 163) 10 dX12_branches_163 rfl ?_
        refine G_lconst (pc := 165) (v := 0) dX12_branches_165 rfl ?_
        refine G_lif_lt (pc := 166) (tgt := 174) dX12_branches_166 dX12_branches_167 (by decide) (fun h166 => ?_) (fun h166 => ?_)
        · refine G_iconst (pc := 174) (v := (-1)) dX12_branches_174 rfl ?_
          refine G_iload_n (pc := 175) 1 dX12_branches_175 rfl ?_
          refine G_iload_n (pc := 176) 2 dX12_branches_176 rfl ?_
          have es : brS (i (m + 1)) (23 + 166 * k) b sd c = (-1) := if_pos h166
          rw [es] at h3v
          refine gV3 (pc := 177) (k' := 0) (n' := 0) dX12_branches_177 lkX12_121 ⟨by decide, by decide⟩ (Nat.le_of_ble_eq_true rfl) rfl rfl ⟨by decide, by decide⟩ (by assumption) (c_X12_opens (k := nw) hM2 hA (by rw [hF]; exact hn) hn5 ?_ ?_)
          · intro hnw
            dsimp only [gRt]
            refine G_iret (pc := 180) dX12_branches_180 ⟨_, rfl, rfl⟩ ⟨by decide, by decide⟩ ?_
            exact h2 b c rfl h8 hc hnw i2 hi2
          · intro hnw
            dsimp only [gRt]
            refine G_iret (pc := 180) dX12_branches_180 ⟨_, rfl, rfl⟩ ⟨by decide, by decide⟩ ?_
            have h := h3v hnw _ ((frN.rf.cor hi2).row (H := oF (i (m + 1)) nw (-1) (nI k) (nI (b + 1)) c))
            rw [hF, e6, e7, e8]
            exact h
        · refine G_iconst (pc := 170) (v := 1) dX12_branches_170 rfl ?_
          refine G_goto (pc := 171) (tgt := 175) dX12_branches_171 (by decide) ?_
          refine G_iload_n (pc := 175) 1 dX12_branches_175 rfl ?_
          refine G_iload_n (pc := 176) 2 dX12_branches_176 rfl ?_
          have es : brS (i (m + 1)) (23 + 166 * k) b sd c = 1 := if_neg h166
          rw [es] at h3v
          refine gV3 (pc := 177) (k' := 0) (n' := 0) dX12_branches_177 lkX12_121 ⟨by decide, by decide⟩ (Nat.le_of_ble_eq_true rfl) rfl rfl ⟨by decide, by decide⟩ (by assumption) (c_X12_opens (k := nw) hM2 hA (by rw [hF]; exact hn) hn5 ?_ ?_)
          · intro hnw
            dsimp only [gRt]
            refine G_iret (pc := 180) dX12_branches_180 ⟨_, rfl, rfl⟩ ⟨by decide, by decide⟩ ?_
            exact h2 b c rfl h8 hc hnw i2 hi2
          · intro hnw
            dsimp only [gRt]
            refine G_iret (pc := 180) dX12_branches_180 ⟨_, rfl, rfl⟩ ⟨by decide, by decide⟩ ?_
            have h := h3v hnw _ ((frN.rf.cor hi2).row (H := oF (i (m + 1)) nw 1 (nI k) (nI (b + 1)) c))
            rw [hF, e6, e7, e8]
            exact h
      · exact absurd h118 (by decide)
  · refine G_ldc (pc := 11) dX12_branches_11 kcX12_116 ?_
    refine G_iret (pc := 13) dX12_branches_13 ⟨_, rfl, rfl⟩ ⟨by decide, by decide⟩ ?_
    exact h0 h8

