/-! the law: lot, low, digest -/
/-- a truth value out of two ways that meet -/
theorem G_dia {Γ : gG} {M : gM} {k n pc A B : Nat} {L : List (Nat × Value)} {stk st : List Value} {T : gTy} {r : gR} {l : gLg} {i : gI} {Q : gQ} {c : Prop} [Decidable c] {za zb off : Int} {va vb : Int32} (hb : (c → G Γ M k n A L st T r l i Q) → (¬ c → G Γ M k n (pc + 3) L st T r l i Q) → G Γ M k n pc L stk T r l i Q) (h1 : decode M.2.1 (pc + 3) = .ok (.iconst za, 1)) (e1 : Int32.ofInt za = va) (h2 : decode M.2.1 (pc + 4) = .ok (.goto off, 3)) (e2 : ((pc + 4 : Nat) : Int) + off = (B : Int)) (h3 : decode M.2.1 A = .ok (.iconst zb, 1)) (e3 : Int32.ofInt zb = vb) (hB : A + 1 = B) (kk : G Γ M k n B L (.int (if c then vb else va) :: st) T r l i Q) : G Γ M k n pc L stk T r l i Q := by
  subst hB
  refine hb (fun hc => G_iconst h3 e3 ?_) (fun hc => G_iconst h1 e1 (G_goto h2 e2 ?_))
  · rw [if_pos hc] at kk; exact kk
  · rw [if_neg hc] at kk; exact kk
theorem G_diaN {Γ : gG} {M : gM} {k n pc A B : Nat} {L : List (Nat × Value)} {stk st : List Value} {T : gTy} {r : gR} {l : gLg} {i : gI} {Q : gQ} {c : Prop} [Decidable c] {za zb off : Int} {va vb : Int32} (hb : (¬ c → G Γ M k n A L st T r l i Q) → (c → G Γ M k n (pc + 3) L st T r l i Q) → G Γ M k n pc L stk T r l i Q) (h1 : decode M.2.1 (pc + 3) = .ok (.iconst za, 1)) (e1 : Int32.ofInt za = va) (h2 : decode M.2.1 (pc + 4) = .ok (.goto off, 3)) (e2 : ((pc + 4 : Nat) : Int) + off = (B : Int)) (h3 : decode M.2.1 A = .ok (.iconst zb, 1)) (e3 : Int32.ofInt zb = vb) (hB : A + 1 = B) (kk : G Γ M k n B L (.int (if c then va else vb) :: st) T r l i Q) : G Γ M k n pc L stk T r l i Q := by
  subst hB
  refine hb (fun hc => G_iconst h3 e3 ?_) (fun hc => G_iconst h1 e1 (G_goto h2 e2 ?_))
  · rw [if_neg hc] at kk; exact kk
  · rw [if_pos hc] at kk; exact kk
set_option maxRecDepth 100000 in
set_option maxHeartbeats 4000000 in
theorem c_L_low {Γ : gG} {T : gTy} {r : gR} {l : gLg} {i : gI} {Q : gQ} {v : Int32} {m : Nat} (h0 : 1 ≤ m) (hm : m < 2 ^ 31) (hQ : ∀ j, j < m → Q (some (.int (nI j))) T r l i) : gC Γ ML_low [.int v, .int (nI m)] T r l i Q := by
  refine gC_of rfl (Nat.le_of_ble_eq_true rfl) (L := [(0, .int v), (1, .int (nI m))]) rfl ?_
  refine G_iload_n (pc := 0) 0 dL_low_0 rfl ?_
  refine G_ldc (pc := 1) dL_low_1 kcL_8 ?_
  refine G_iand (pc := 3) dL_low_3 ?_
  refine G_iload_n (pc := 4) 1 dL_low_4 rfl ?_
  obtain ⟨j, hj, e⟩ := pk_andE v (m := 2147483647) 31 (by decide)
  rw [e]
  refine G_irem (pc := 5) dL_low_5 (nI_ne0 h0 hm) ?_
  rw [pk_rem hj h0 hm]
  refine G_iret (pc := 6) dL_low_6 ⟨_, rfl, rfl⟩ ⟨by decide, by decide⟩ ?_
  exact hQ _ (Nat.mod_lt _ h0)

set_option maxRecDepth 100000 in
set_option maxHeartbeats 4000000 in
theorem c_L_lot {Γ : gG} {T : gTy} {r : gR} {l : gLg} {i : gI} {Q : gQ} {k : Nat} (hk : k < 2 ^ 20) (hL : gsL Γ ≤ 260) (hQ : ∀ v, Q (some (.int v)) T r l i) : gC Γ ML_lot [.ref (gsb Γ), .int (nI k)] T r l i Q := by
  refine gC_of rfl (Nat.le_of_ble_eq_true rfl) (L := [(0, .ref (gsb Γ)), (1, .int (nI k))]) rfl ?_
  refine G_iload_n (pc := 0) 1 dL_lot_0 rfl ?_
  refine G_aload_n (pc := 1) 0 dL_lot_1 rfl ?_
  refine G_tlenX (pc := 2) (v := nI (gsL Γ)) dL_lot_2 rfl ?_
  refine G_icmp_ge (pc := 3) (tgt := 12) dL_lot_3 (by decide) (fun h3 => ?_) (fun h3 => ?_)
  · refine G_ldc (pc := 12) dL_lot_12 kcL_7 ?_
    refine G_iload_n (pc := 14) 1 dL_lot_14 rfl ?_
    refine G_sipush (pc := 15) (v := 2939) dL_lot_15 rfl ?_
    refine G_iadd (pc := 18) dL_lot_18 ?_
    refine G_imul (pc := 19) dL_lot_19 ?_
    refine G_sipush (pc := 20) (v := 2713) dL_lot_20 rfl ?_
    refine G_iadd (pc := 23) dL_lot_23 ?_
    refine G_iret (pc := 24) dL_lot_24 ⟨_, rfl, rfl⟩ ⟨by decide, by decide⟩ ?_
    exact hQ _
  · have hk2 : k < gsL Γ := by
      rcases Nat.lt_or_ge k (gsL Γ) with z | z
      · exact z
      · exact absurd (nI_le z (by omega)) h3
    refine G_aload_n (pc := 6) 0 dL_lot_6 rfl ?_
    refine G_iload_n (pc := 7) 1 dL_lot_7 rfl ?_
    refine G_tldXJ (pc := 8) (j := k) dL_lot_8 rfl hk2 (by omega) ?_
    refine G_goto (pc := 9) (tgt := 24) dL_lot_9 (by decide) ?_
    refine G_iret (pc := 24) dL_lot_24 ⟨_, rfl, rfl⟩ ⟨by decide, by decide⟩ ?_
    exact hQ _

def dg1 (S : Nat → Int32) : Nat → Int64
  | 0 => 59
  | k + 1 => 31 * dg1 S k + (if k = 5 ∨ k = 6 then 0 else aCount S 0 0 (nI k)).toInt64
def dg2 (S : Nat → Int32) : Nat → Int64
  | 0 => dg1 S 13
  | k + 1 => 31 * dg2 S k + (aTermOf S (nI k / 3) (nI k - nI k / 3 * 3)).toInt64
def dgw (S : Nat → Int32) (k : Nat) (h : Int64) : Nat → Int64
  | 0 => h
  | j + 1 => 31 * dgw S k h j + (aWalkOf S (nI k) (nI j)).toInt64
def dgp (S : Nat → Int32) (k : Nat) (h : Int64) : Nat → Int64
  | 0 => h
  | j + 1 => 31 * dgp S k h j + 2100 * (aPlaceOf S (nI k) (nI j) 0).toInt64 + (aPlaceOf S (nI k) (nI j) 1).toInt64 + 9 * (aPlaceOf S (nI k) (nI j) 2).toInt64 + 70 * (aPlaceOf S (nI k) (nI j) 3).toInt64
def dg3 (S : Nat → Int32) : Nat → Int64
  | 0 => dg2 S 18
  | k + 1 => dgp S k (dgw S k (dg3 S k) 9) (szW S (23 + 166 * k))
/-- the law's digest of a flat state -/
def DG (S : Nat → Int32) : Int64 := dg3 S (nW S)
theorem aCount_0 {S : Nat → Int32} {n ln k : Nat} (h5 : k ≠ 5) (h6 : k ≠ 6) (hk : k < 2 ^ 31) : aCount S n ln (nI k) = aCount S 0 0 (nI k) := by
  unfold aCount
  rw [if_neg (nI_pos hk), if_neg (nI_pos hk), nI_clamp hk]
  unfold aCountN
  split <;> first | rfl | (exfalso; omega)
theorem aCount_1 {S : Nat → Int32} {n ln : Nat} (h : vS S) : aCount S n ln 1 = nI (nW S) := (nW_of h).2.1
set_option maxRecDepth 100000 in
set_option maxHeartbeats 4000000 in
theorem lp_L_digest_p {Γ : gG} {T : gTy} {r : gR} {l : gLg} {Q : gQ} {x n ln : Nat} {S : Nat → Int32} {P : Nat → Nat → Int32} {tx : Nat → Int32} {k : Nat} {h : Int64} (hA : gN Γ ≤ x) (h40 : szW S (23 + 166 * k) ≤ 40) (hK : ∀ i', lwX T r i' x S P n tx ln → G Γ ML_digest 0 0 202 [(0, .ref x), (1, .long (dgp S k h (szW S (23 + 166 * k)))), (3, .int (nI k)), (4, .int (nI (szW S (23 + 166 * k)))), (5, .int (nI (szW S (23 + 166 * k))))] [] T r l i' Q) : ∀ d j i, j + d = szW S (23 + 166 * k) → lwX T r i x S P n tx ln → G Γ ML_digest 0 0 131 [(0, .ref x), (1, .long (dgp S k h j)), (3, .int (nI k)), (4, .int (nI (szW S (23 + 166 * k)))), (5, .int (nI j))] [] T r l i Q := by
  intro d
  induction d with
  | zero =>
    intro j i hj hX
    obtain rfl : j = szW S (23 + 166 * k) := by omega
    refine G_iload (pc := 131) 4 dL_digest_131 rfl ?_
    refine G_iload (pc := 133) 3 dL_digest_133 rfl ?_
    refine G_icmp_ge (pc := 135) (tgt := 202) dL_digest_135 (by decide) (fun h135 => ?_) (fun h135 => ?_)
    · exact hK i hX
    · exact absurd (Int32.le_refl _) h135
  | succ d ih =>
    intro j i hj hX
    refine G_iload (pc := 131) 4 dL_digest_131 rfl ?_
    refine G_iload (pc := 133) 3 dL_digest_133 rfl ?_
    refine G_icmp_ge (pc := 135) (tgt := 202) dL_digest_135 (by decide) (fun h135 => ?_) (fun h135 => ?_)
    · exact absurd h135 (nI_ge (by omega) (by omega))
    · refine G_ldc2 (pc := 138) dL_digest_138 kcL_11 ?_
      refine G_lload_n (pc := 141) 1 dL_digest_141 rfl ?_
      refine G_lmul (pc := 142) dL_digest_142 ?_
      refine G_ldc2 (pc := 143) dL_digest_143 kcL_26 ?_
      refine G_aload_n (pc := 146) 0 dL_digest_146 rfl ?_
      refine G_iload_n (pc := 147) 2 dL_digest_147 rfl ?_
      refine G_iload (pc := 148) 4 dL_digest_148 rfl ?_
      refine G_iconst (pc := 150) (v := 0) dL_digest_150 rfl ?_
      refine gV3 (pc := 151) (k' := 0) (n' := 0) dL_digest_151 lkL_28 ⟨by decide, by decide⟩ (Nat.le_of_ble_eq_true rfl) rfl rfl ⟨by decide, by decide⟩ hX.k (q_placeOf hA hX ?_)
      dsimp only [gRt]
      refine G_i2l (pc := 154) dL_digest_154 ?_
      refine G_lmul (pc := 155) dL_digest_155 ?_
      refine G_ladd (pc := 156) dL_digest_156 ?_
      refine G_aload_n (pc := 157) 0 dL_digest_157 rfl ?_
      refine G_iload_n (pc := 158) 2 dL_digest_158 rfl ?_
      refine G_iload (pc := 159) 4 dL_digest_159 rfl ?_
      refine G_iconst (pc := 161) (v := 1) dL_digest_161 rfl ?_
      refine gV3 (pc := 162) (k' := 0) (n' := 0) dL_digest_162 lkL_28 ⟨by decide, by decide⟩ (Nat.le_of_ble_eq_true rfl) rfl rfl ⟨by decide, by decide⟩ hX.k (q_placeOf hA hX ?_)
      dsimp only [gRt]
      refine G_i2l (pc := 165) dL_digest_165 ?_
      refine G_ladd (pc := 166) dL_digest_166 ?_
      refine G_ldc2 (pc := 167) dL_digest_167 kcL_32 ?_
      refine G_aload_n (pc := 170) 0 dL_digest_170 rfl ?_
      refine G_iload_n (pc := 171) 2 dL_digest_171 rfl ?_
      refine G_iload (pc := 172) 4 dL_digest_172 rfl ?_
      refine G_iconst (pc := 174) (v := 2) dL_digest_174 rfl ?_
      refine gV3 (pc := 175) (k' := 0) (n' := 0) dL_digest_175 lkL_28 ⟨by decide, by decide⟩ (Nat.le_of_ble_eq_true rfl) rfl rfl ⟨by decide, by decide⟩ hX.k (q_placeOf hA hX ?_)
      dsimp only [gRt]
      refine G_i2l (pc := 178) dL_digest_178 ?_
      refine G_lmul (pc := 179) dL_digest_179 ?_
      refine G_ladd (pc := 180) dL_digest_180 ?_
      refine G_ldc2 (pc := 181) dL_digest_181 kcL_34 ?_
      refine G_aload_n (pc := 184) 0 dL_digest_184 rfl ?_
      refine G_iload_n (pc := 185) 2 dL_digest_185 rfl ?_
      refine G_iload (pc := 186) 4 dL_digest_186 rfl ?_
      refine G_iconst (pc := 188) (v := 3) dL_digest_188 rfl ?_
      refine gV3 (pc := 189) (k' := 0) (n' := 0) dL_digest_189 lkL_28 ⟨by decide, by decide⟩ (Nat.le_of_ble_eq_true rfl) rfl rfl ⟨by decide, by decide⟩ hX.k (q_placeOf hA hX ?_)
      dsimp only [gRt]
      refine G_i2l (pc := 192) dL_digest_192 ?_
      refine G_lmul (pc := 193) dL_digest_193 ?_
      refine G_ladd (pc := 194) dL_digest_194 ?_
      refine G_st1 (pc := 195) (gSt_ln dL_digest_195 rfl (by decide)) rfl ?_
      refine G_inc4 (pc := 196) (v := 1) dL_digest_196 rfl (by decide) rfl ?_
      refine G_goto (pc := 199) (tgt := 131) dL_digest_199 (by decide) ?_
      rw [nI_1]
      exact ih (j + 1) i (by omega) hX

set_option maxRecDepth 100000 in
set_option maxHeartbeats 4000000 in
theorem lp_L_digest_w {Γ : gG} {T : gTy} {r : gR} {l : gLg} {Q : gQ} {x n ln : Nat} {S : Nat → Int32} {P : Nat → Nat → Int32} {tx : Nat → Int32} {k : Nat} {h : Int64} (hA : gN Γ ≤ x) (hK : ∀ i', lwX T r i' x S P n tx ln → G Γ ML_digest 0 0 120 [(0, .ref x), (1, .long (dgw S k h 9)), (3, .int (nI k)), (4, .int (nI 9))] [] T r l i' Q) : ∀ d j i, j + d = 9 → lwX T r i x S P n tx ln → G Γ ML_digest 0 0 92 [(0, .ref x), (1, .long (dgw S k h j)), (3, .int (nI k)), (4, .int (nI j))] [] T r l i Q := by
  intro d
  induction d with
  | zero =>
    intro j i hj hX
    obtain rfl : j = 9 := by omega
    refine G_iload (pc := 92) 3 dL_digest_92 rfl ?_
    refine G_bipush (pc := 94) (v := 9) dL_digest_94 rfl ?_
    refine G_icmp_ge (pc := 96) (tgt := 120) dL_digest_96 (by decide) (fun h96 => ?_) (fun h96 => ?_)
    · exact hK i hX
    · exact absurd (show (9 : Int32) ≤ nI 9 by decide) h96
  | succ d ih =>
    intro j i hj hX
    refine G_iload (pc := 92) 3 dL_digest_92 rfl ?_
    refine G_bipush (pc := 94) (v := 9) dL_digest_94 rfl ?_
    refine G_icmp_ge (pc := 96) (tgt := 120) dL_digest_96 (by decide) (fun h96 => ?_) (fun h96 => ?_)
    · exact absurd (show nI 9 ≤ nI j from h96) (nI_ge (by omega) (by omega))
    · refine G_ldc2 (pc := 99) dL_digest_99 kcL_11 ?_
      refine G_lload_n (pc := 102) 1 dL_digest_102 rfl ?_
      refine G_lmul (pc := 103) dL_digest_103 ?_
      refine G_aload_n (pc := 104) 0 dL_digest_104 rfl ?_
      refine G_iload_n (pc := 105) 2 dL_digest_105 rfl ?_
      refine G_iload (pc := 106) 3 dL_digest_106 rfl ?_
      refine gV2 (pc := 108) (k' := 0) (n' := 0) dL_digest_108 lkL_23 ⟨by decide, by decide⟩ (Nat.le_of_ble_eq_true rfl) rfl rfl ⟨by decide, by decide⟩ hX.k (q_walkOf hA hX ?_)
      intro i hX
      dsimp only [gRt]
      refine G_i2l (pc := 111) dL_digest_111 ?_
      refine G_ladd (pc := 112) dL_digest_112 ?_
      refine G_st1 (pc := 113) (gSt_ln dL_digest_113 rfl (by decide)) rfl ?_
      refine G_inc3 (pc := 114) (v := 1) dL_digest_114 rfl (by decide) rfl ?_
      refine G_goto (pc := 117) (tgt := 92) dL_digest_117 (by decide) ?_
      rw [nI_1]
      exact ih (j + 1) i (by omega) hX

set_option maxRecDepth 100000 in
set_option maxHeartbeats 4000000 in
theorem lp_L_digest_3 {Γ : gG} {T : gTy} {r : gR} {l : gLg} {Q : gQ} {x n ln : Nat} {S : Nat → Int32} {P : Nat → Nat → Int32} {tx : Nat → Int32} (hA : gN Γ ≤ x) (hS : vS S) (hQ : ∀ i', lwX T r i' x S P n tx ln → Q (some (.long (DG S))) T r l i') : ∀ d k i, k + d = nW S → lwX T r i x S P n tx ln → G Γ ML_digest 0 0 80 [(0, .ref x), (1, .long (dg3 S k)), (3, .int (nI k))] [] T r l i Q := by
  intro d
  induction d with
  | zero =>
    intro k i hk hX
    obtain rfl : k = nW S := by omega
    refine G_iload_n (pc := 80) 2 dL_digest_80 rfl ?_
    refine G_aload_n (pc := 81) 0 dL_digest_81 rfl ?_
    refine G_iconst (pc := 82) (v := 1) dL_digest_82 rfl ?_
    refine gV1 (pc := 83) (k' := 0) (n' := 0) dL_digest_83 lkL_13 ⟨by decide, by decide⟩ (Nat.le_of_ble_eq_true rfl) rfl rfl ⟨by decide, by decide⟩ hX.k (q_count hA hX ?_)
    dsimp only [gRt]
    rw [aCount_1 hS]
    refine G_icmp_ge (pc := 86) (tgt := 208) dL_digest_86 (by decide) (fun h86 => ?_) (fun h86 => ?_)
    · refine G_lload_n (pc := 208) 1 dL_digest_208 rfl ?_
      refine G_lret (pc := 209) dL_digest_209 rfl ⟨by decide, by decide⟩ ?_
      exact hQ i hX
    · exact absurd (Int32.le_refl _) h86
  | succ d ih =>
    intro k i hk hX
    have hk2 : k < nW S := by omega
    have h5 := (nW_of hS).1
    obtain ⟨s1, h40⟩ := sz40 hS hk2
    have e0 : aWalkOf S (nI k) 0 = nI (szW S (23 + 166 * k)) := by
      obtain ⟨⟨z, hz⟩, _⟩ := (nW_of hS).2.2 k hk2
      exact (aWalkOf_at hS hk2 (c := 0) (by decide)).trans (hz.1.trans (by rw [szW_v hz]))
    refine G_iload_n (pc := 80) 2 dL_digest_80 rfl ?_
    refine G_aload_n (pc := 81) 0 dL_digest_81 rfl ?_
    refine G_iconst (pc := 82) (v := 1) dL_digest_82 rfl ?_
    refine gV1 (pc := 83) (k' := 0) (n' := 0) dL_digest_83 lkL_13 ⟨by decide, by decide⟩ (Nat.le_of_ble_eq_true rfl) rfl rfl ⟨by decide, by decide⟩ hX.k (q_count hA hX ?_)
    dsimp only [gRt]
    rw [aCount_1 hS]
    refine G_icmp_ge (pc := 86) (tgt := 208) dL_digest_86 (by decide) (fun h86 => ?_) (fun h86 => ?_)
    · exact absurd h86 (nI_ge (by omega) (by omega))
    · refine G_iconst (pc := 89) (v := 0) dL_digest_89 rfl ?_
      refine G_sn3 (pc := 90) (gSt_i dL_digest_90 (by decide)) rfl ?_
      refine lp_L_digest_w hA (fun i hX => ?_) 9 0 i rfl hX
      refine G_aload_n (pc := 120) 0 dL_digest_120 rfl ?_
      refine G_iload_n (pc := 121) 2 dL_digest_121 rfl ?_
      refine G_iconst (pc := 122) (v := 0) dL_digest_122 rfl ?_
      refine gV2 (pc := 123) (k' := 0) (n' := 0) dL_digest_123 lkL_23 ⟨by decide, by decide⟩ (Nat.le_of_ble_eq_true rfl) rfl rfl ⟨by decide, by decide⟩ hX.k (q_walkOf hA hX ?_)
      intro i hX
      dsimp only [gRt]
      refine G_st3 (pc := 126) (gSt_i dL_digest_126 (by decide)) rfl ?_
      refine G_iconst (pc := 128) (v := 0) dL_digest_128 rfl ?_
      refine G_sn4 (pc := 129) (gSt_i dL_digest_129 (by decide)) rfl ?_
      rw [show aWalkOf S (nI k) 0 = nI (szW S (23 + 166 * k)) from e0]
      refine lp_L_digest_p hA h40 (fun i hX => ?_) _ 0 i (Nat.zero_add _) hX
      refine G_inc2 (pc := 202) (v := 1) dL_digest_202 rfl (by decide) rfl ?_
      refine G_goto (pc := 205) (tgt := 80) dL_digest_205 (by decide) ?_
      refine G_drop4 ?_
      refine G_drop3 ?_
      rw [nI_1]
      exact ih (k + 1) i (by omega) hX

set_option maxRecDepth 100000 in
set_option maxHeartbeats 4000000 in
theorem lp_L_digest_2 {Γ : gG} {T : gTy} {r : gR} {l : gLg} {Q : gQ} {x n ln : Nat} {S : Nat → Int32} {P : Nat → Nat → Int32} {tx : Nat → Int32} (hA : gN Γ ≤ x) (hS : vS S) (hQ : ∀ i', lwX T r i' x S P n tx ln → Q (some (.long (DG S))) T r l i') : ∀ d k i, k + d = 18 → lwX T r i x S P n tx ln → G Γ ML_digest 0 0 48 [(0, .ref x), (1, .long (dg2 S k)), (3, .int (nI k))] [] T r l i Q := by
  intro d
  induction d with
  | zero =>
    intro k i hk hX
    obtain rfl : k = 18 := by omega
    refine G_iload_n (pc := 48) 2 dL_digest_48 rfl ?_
    refine G_bipush (pc := 49) (v := 18) dL_digest_49 rfl ?_
    refine G_icmp_ge (pc := 51) (tgt := 78) dL_digest_51 (by decide) (fun h51 => ?_) (fun h51 => ?_)
    · refine G_iconst (pc := 78) (v := 0) dL_digest_78 rfl ?_
      refine G_st2 (pc := 79) (gSt_in dL_digest_79 rfl (by decide)) rfl ?_
      exact lp_L_digest_3 hA hS hQ (nW S) 0 i (Nat.zero_add _) hX
    · exact absurd (show (18 : Int32) ≤ nI 18 by decide) h51
  | succ d ih =>
    intro k i hk hX
    refine G_iload_n (pc := 48) 2 dL_digest_48 rfl ?_
    refine G_bipush (pc := 49) (v := 18) dL_digest_49 rfl ?_
    refine G_icmp_ge (pc := 51) (tgt := 78) dL_digest_51 (by decide) (fun h51 => ?_) (fun h51 => ?_)
    · exact absurd (show nI 18 ≤ nI k from h51) (nI_ge (by omega) (by omega))
    · refine G_ldc2 (pc := 54) dL_digest_54 kcL_11 ?_
      refine G_lload_n (pc := 57) 1 dL_digest_57 rfl ?_
      refine G_lmul (pc := 58) dL_digest_58 ?_
      refine G_aload_n (pc := 59) 0 dL_digest_59 rfl ?_
      refine G_iload_n (pc := 60) 2 dL_digest_60 rfl ?_
      refine G_iconst (pc := 61) (v := 3) dL_digest_61 rfl ?_
      refine G_idiv (pc := 62) dL_digest_62 (by decide) ?_
      refine G_iload_n (pc := 63) 2 dL_digest_63 rfl ?_
      refine G_iconst (pc := 64) (v := 3) dL_digest_64 rfl ?_
      refine G_irem (pc := 65) dL_digest_65 (by decide) ?_
      refine gV2 (pc := 66) (k' := 0) (n' := 0) dL_digest_66 lkL_19 ⟨by decide, by decide⟩ (Nat.le_of_ble_eq_true rfl) rfl rfl ⟨by decide, by decide⟩ hX.k (q_termOf hA hX ?_)
      dsimp only [gRt]
      refine G_i2l (pc := 69) dL_digest_69 ?_
      refine G_ladd (pc := 70) dL_digest_70 ?_
      refine G_st1 (pc := 71) (gSt_ln dL_digest_71 rfl (by decide)) rfl ?_
      refine G_inc2 (pc := 72) (v := 1) dL_digest_72 rfl (by decide) rfl ?_
      refine G_goto (pc := 75) (tgt := 48) dL_digest_75 (by decide) ?_
      rw [nI_1]
      exact ih (k + 1) i (by omega) hX

set_option maxRecDepth 100000 in
set_option maxHeartbeats 4000000 in
theorem lp_L_digest_1 {Γ : gG} {T : gTy} {r : gR} {l : gLg} {Q : gQ} {x n ln : Nat} {S : Nat → Int32} {P : Nat → Nat → Int32} {tx : Nat → Int32} (hA : gN Γ ≤ x) (hS : vS S) (hQ : ∀ i', lwX T r i' x S P n tx ln → Q (some (.long (DG S))) T r l i') : ∀ d k i, k + d = 13 → lwX T r i x S P n tx ln → G Γ ML_digest 0 0 6 [(0, .ref x), (1, .long (dg1 S k)), (3, .int (nI k))] [] T r l i Q := by
  intro d
  induction d with
  | zero =>
    intro k i hk hX
    obtain rfl : k = 13 := by omega
    refine G_iload_n (pc := 6) 2 dL_digest_6 rfl ?_
    refine G_bipush (pc := 7) (v := 13) dL_digest_7 rfl ?_
    refine G_icmp_ge (pc := 9) (tgt := 46) dL_digest_9 (by decide) (fun h9 => ?_) (fun h9 => ?_)
    · refine G_iconst (pc := 46) (v := 0) dL_digest_46 rfl ?_
      refine G_st2 (pc := 47) (gSt_in dL_digest_47 rfl (by decide)) rfl ?_
      exact lp_L_digest_2 hA hS hQ 18 0 i rfl hX
    · exact absurd (show (13 : Int32) ≤ nI 13 by decide) h9
  | succ d ih =>
    intro k i hk hX
    refine G_iload_n (pc := 6) 2 dL_digest_6 rfl ?_
    refine G_bipush (pc := 7) (v := 13) dL_digest_7 rfl ?_
    refine G_icmp_ge (pc := 9) (tgt := 46) dL_digest_9 (by decide) (fun h9 => ?_) (fun h9 => ?_)
    · exact absurd (show nI 13 ≤ nI k from h9) (nI_ge (by omega) (by omega))
    · refine G_ldc2 (pc := 12) dL_digest_12 kcL_11 ?_
      refine G_lload_n (pc := 15) 1 dL_digest_15 rfl ?_
      refine G_lmul (pc := 16) dL_digest_16 ?_
      refine G_iload_n (pc := 17) 2 dL_digest_17 rfl ?_
      refine G_iconst (pc := 18) (v := 5) dL_digest_18 rfl ?_
      refine G_icmp_eq (pc := 19) (tgt := 28) dL_digest_19 (by decide) (fun h19 => ?_) (fun h19 => ?_)
      · refine G_iconst (pc := 28) (v := 0) dL_digest_28 rfl ?_
        refine G_goto (pc := 29) (tgt := 37) dL_digest_29 (by decide) ?_
        refine G_i2l (pc := 37) dL_digest_37 ?_
        refine G_ladd (pc := 38) dL_digest_38 ?_
        refine G_st1 (pc := 39) (gSt_ln dL_digest_39 rfl (by decide)) rfl ?_
        refine G_inc2 (pc := 40) (v := 1) dL_digest_40 rfl (by decide) rfl ?_
        refine G_goto (pc := 43) (tgt := 6) dL_digest_43 (by decide) ?_
        rw [nI_1, show 31 * dg1 S k + (0 : Int32).toInt64 = dg1 S (k + 1) from by rw [dg1, if_pos (Or.inl ((nI_eq (by omega) (by decide)).mp (show nI k = nI 5 from h19)))]]
        exact ih (k + 1) i (by omega) hX
      · refine G_iload_n (pc := 22) 2 dL_digest_22 rfl ?_
        refine G_bipush (pc := 23) (v := 6) dL_digest_23 rfl ?_
        refine G_icmp_ne (pc := 25) (tgt := 32) dL_digest_25 (by decide) (fun h25 => ?_) (fun h25 => ?_)
        · refine G_aload_n (pc := 32) 0 dL_digest_32 rfl ?_
          refine G_iload_n (pc := 33) 2 dL_digest_33 rfl ?_
          refine gV1 (pc := 34) (k' := 0) (n' := 0) dL_digest_34 lkL_13 ⟨by decide, by decide⟩ (Nat.le_of_ble_eq_true rfl) rfl rfl ⟨by decide, by decide⟩ hX.k (q_count hA hX ?_)
          dsimp only [gRt]
          refine G_i2l (pc := 37) dL_digest_37 ?_
          refine G_ladd (pc := 38) dL_digest_38 ?_
          refine G_st1 (pc := 39) (gSt_ln dL_digest_39 rfl (by decide)) rfl ?_
          refine G_inc2 (pc := 40) (v := 1) dL_digest_40 rfl (by decide) rfl ?_
          refine G_goto (pc := 43) (tgt := 6) dL_digest_43 (by decide) ?_
          rw [nI_1, show 31 * dg1 S k + (aCount S n ln (nI k)).toInt64 = dg1 S (k + 1) from by rw [dg1, if_neg (fun z => z.elim (fun z => h19 (by rw [z]; rfl)) (fun z => h25 (by rw [z]; rfl))), ← aCount_0 (n := n) (ln := ln) (fun z => h19 (by rw [z]; rfl)) (fun z => h25 (by rw [z]; rfl)) (by omega)]]
          exact ih (k + 1) i (by omega) hX
        · refine G_iconst (pc := 28) (v := 0) dL_digest_28 rfl ?_
          refine G_goto (pc := 29) (tgt := 37) dL_digest_29 (by decide) ?_
          refine G_i2l (pc := 37) dL_digest_37 ?_
          refine G_ladd (pc := 38) dL_digest_38 ?_
          refine G_st1 (pc := 39) (gSt_ln dL_digest_39 rfl (by decide)) rfl ?_
          refine G_inc2 (pc := 40) (v := 1) dL_digest_40 rfl (by decide) rfl ?_
          refine G_goto (pc := 43) (tgt := 6) dL_digest_43 (by decide) ?_
          rw [nI_1, show 31 * dg1 S k + (0 : Int32).toInt64 = dg1 S (k + 1) from by rw [dg1, if_pos (Or.inr ((nI_eq (by omega) (by decide)).mp (show nI k = nI 6 from h25)))]]
          exact ih (k + 1) i (by omega) hX

set_option maxRecDepth 100000 in
set_option maxHeartbeats 4000000 in
theorem c_L_digest {Γ : gG} {T : gTy} {r : gR} {l : gLg} {i : gI} {Q : gQ} {x n ln : Nat} {S : Nat → Int32} {P : Nat → Nat → Int32} {tx : Nat → Int32} (hA : gN Γ ≤ x) (hX : lwX T r i x S P n tx ln) (hQ : ∀ i', lwX T r i' x S P n tx ln → Q (some (.long (DG S))) T r l i') : gC Γ ML_digest [.ref x] T r l i Q := by
  have hS := hX.v.1
  refine gC_of rfl (Nat.le_of_ble_eq_true rfl) (L := [(0, .ref x)]) rfl ?_
  refine G_ldc2 (pc := 0) dL_digest_0 kcL_9 ?_
  refine G_sn1 (pc := 3) (gSt_ln dL_digest_3 rfl (by decide)) rfl ?_
  refine G_iconst (pc := 4) (v := 0) dL_digest_4 rfl ?_
  refine G_sn2 (pc := 5) (gSt_in dL_digest_5 rfl (by decide)) rfl ?_
  exact lp_L_digest_1 hA hS hQ 13 0 i rfl hX

