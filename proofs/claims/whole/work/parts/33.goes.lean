/-! the reference goes -/
/-- what a walk at (x, y) with sign s tries at pace k, by the reference -/
def gTrR (f : Nat → Int32) (p q : Nat → Nat) (n m : Nat) (x y s : Int32) (k : Int32) : Option (Int64 × Int64 × Nat) :=
  if gGG f p q n x.toInt64 y.toInt64 = 0 then none else match gCor f p q n m 0 (x.toInt64 - k.toInt64 * s.toInt64 * gSum f p q x.toInt64 y.toInt64 2 n / gRoot (gGG f p q n x.toInt64 y.toInt64)) (y.toInt64 + k.toInt64 * s.toInt64 * gSum f p q x.toInt64 y.toInt64 1 n / gRoot (gGG f p q n x.toInt64 y.toInt64)) with
  | none => none
  | some c => if c.1.toInt32 = x ∧ c.2.1.toInt32 = y then none else some c
/-- no steep place has the root 0 -/
def gRk (f : Nat → Int32) (p q : Nat → Nat) (n : Nat) : Prop := ∀ x y : Int64, inB x → inB y → ¬ gGG f p q n x y = 0 → ¬ gRoot (gGG f p q n x y) = 0
set_option maxRecDepth 100000 in
set_option maxHeartbeats 4000000 in
theorem c_X12_tries {Γ : gG} {T : gTy} {r : gR} {l : gLg} {i : gI} {Q : gQ} {m k n mm : Nat} {x y : Int32} {f : Nat → Int32} {p q : Nat → Nat} (hM : lyM T r m) (hA : gN Γ ≤ m) (hV : mv (i (m + 1)) n f p q) (hm : i (m + 1) 4 = nI mm) (hm2 : mm < 2 ^ 30) (hk : k < 5) (hR : gRk f p q n) (hx : inB x.toInt64) (hy : inB y.toInt64)
  (h0 : gTrR f p q n mm x y (i (m + 1) (23 + 166 * k + 1)) (i (m + 1) (23 + 166 * k + 2)) = none → ∀ i', frM m i i' → Q (some (.int 0)) T r l i')
  (h1 : ∀ c, gTrR f p q n mm x y (i (m + 1) (23 + 166 * k + 1)) (i (m + 1) (23 + 166 * k + 2)) = some c → ∀ i', frM m i i' → i' m 6 = c.1.toInt32 → i' m 7 = c.2.1.toInt32 → i' m 8 = nI c.2.2 → Q (some (.int 1)) T r l i') : gC Γ MX12_tries [.ref m, .int (nI k), .int x, .int y] T r l i Q := by
  have hM2 := hM
  obtain ⟨m0, m1, m2, m3, m4, m5, m6, m7, m8, m9, m10⟩ := hM
  refine gC_of rfl (Nat.le_of_ble_eq_true rfl) (L := [(0, .ref m), (1, .int (nI k)), (2, .int x), (3, .int y)]) rfl ?_
  refine G_aload_n (pc := 0) 0 dX12_tries_0 rfl ?_
  refine G_iload_n (pc := 1) 2 dX12_tries_1 rfl ?_
  refine G_iload_n (pc := 2) 3 dX12_tries_2 rfl ?_
  refine G_iconst (pc := 3) (v := 1) dX12_tries_3 rfl ?_
  refine gV3 (pc := 4) (k' := 0) (n' := 0) dX12_tries_4 lkX12_61 ⟨by decide, by decide⟩ (Nat.le_of_ble_eq_true rfl) rfl rfl ⟨by decide, by decide⟩ (by assumption) (c_X12_sum (w := 1) hM2 hV (by decide) ?_)
  dsimp only [gRt]
  refine G_sn4 (pc := 7) (gSt_l dX12_tries_7 (by decide)) rfl ?_
  refine G_aload_n (pc := 9) 0 dX12_tries_9 rfl ?_
  refine G_iload_n (pc := 10) 2 dX12_tries_10 rfl ?_
  refine G_iload_n (pc := 11) 3 dX12_tries_11 rfl ?_
  refine G_iconst (pc := 12) (v := 2) dX12_tries_12 rfl ?_
  refine gV3 (pc := 13) (k' := 0) (n' := 0) dX12_tries_13 lkX12_61 ⟨by decide, by decide⟩ (Nat.le_of_ble_eq_true rfl) rfl rfl ⟨by decide, by decide⟩ (by assumption) (c_X12_sum (w := 2) hM2 hV (by decide) ?_)
  dsimp only [gRt]
  refine G_sn5 (pc := 16) (gSt_l dX12_tries_16 (by decide)) rfl ?_
  refine G_lload (pc := 18) 4 dX12_tries_18 rfl ?_
  refine G_lload (pc := 20) 4 dX12_tries_20 rfl ?_
  refine G_lmul (pc := 22) dX12_tries_22 ?_
  refine G_lload (pc := 23) 5 dX12_tries_23 rfl ?_
  refine G_lload (pc := 25) 5 dX12_tries_25 rfl ?_
  refine G_lmul (pc := 27) dX12_tries_27 ?_
  refine G_ladd (pc := 28) dX12_tries_28 ?_
  refine G_sn6 (pc := 29) (gSt_l dX12_tries_29 (by decide)) rfl ?_
  refine G_lload (pc := 31) 6 dX12_tries_31 rfl ?_
  refine G_lconst (pc := 33) (v := 0) dX12_tries_33 rfl ?_
  refine G_lif_ne (pc := 34) (tgt := 40) dX12_tries_34 dX12_tries_35 (by decide) (fun h34 => ?_) (fun h34 => ?_)
  · refine G_aload_n (pc := 40) 0 dX12_tries_40 rfl ?_
    refine G_iload_n (pc := 41) 1 dX12_tries_41 rfl ?_
    refine G_iconst (pc := 42) (v := 2) dX12_tries_42 rfl ?_
    refine gV2 (pc := 43) (k' := 0) (n' := 0) dX12_tries_43 lkX12_92 ⟨by decide, by decide⟩ (Nat.le_of_ble_eq_true rfl) rfl rfl ⟨by decide, by decide⟩ (by assumption) (c_X12_walkPart (j := 2) hM2 (by omega) ?_)
    dsimp only [gRt]
    refine G_i2l (pc := 46) dX12_tries_46 ?_
    refine G_aload_n (pc := 47) 0 dX12_tries_47 rfl ?_
    refine G_iload_n (pc := 48) 1 dX12_tries_48 rfl ?_
    refine G_iconst (pc := 49) (v := 1) dX12_tries_49 rfl ?_
    refine gV2 (pc := 50) (k' := 0) (n' := 0) dX12_tries_50 lkX12_92 ⟨by decide, by decide⟩ (Nat.le_of_ble_eq_true rfl) rfl rfl ⟨by decide, by decide⟩ (by assumption) (c_X12_walkPart (j := 1) hM2 (by omega) ?_)
    dsimp only [gRt]
    refine G_i2l (pc := 53) dX12_tries_53 ?_
    refine G_lmul (pc := 54) dX12_tries_54 ?_
    refine G_sn7 (pc := 55) (gSt_l dX12_tries_55 (by decide)) rfl ?_
    refine G_lload (pc := 57) 6 dX12_tries_57 rfl ?_
    refine gS1 (pc := 59) (k' := 0) (n' := 0) dX12_tries_59 lkX12_95 ⟨by decide, by decide⟩ (Nat.le_of_ble_eq_true rfl) rfl rfl ⟨by decide, by decide⟩ (c_X12_root ?_)
    dsimp only [gRt]
    refine G_sn8 (pc := 62) (gSt_l dX12_tries_62 (by decide)) rfl ?_
    refine G_aload_n (pc := 64) 0 dX12_tries_64 rfl ?_
    refine G_iload_n (pc := 65) 2 dX12_tries_65 rfl ?_
    refine G_i2l (pc := 66) dX12_tries_66 ?_
    refine G_lload (pc := 67) 7 dX12_tries_67 rfl ?_
    refine G_lload (pc := 69) 5 dX12_tries_69 rfl ?_
    refine G_lmul (pc := 71) dX12_tries_71 ?_
    refine G_lload (pc := 72) 8 dX12_tries_72 rfl ?_
    refine G_ldiv (pc := 74) dX12_tries_74 (hR _ _ hx hy h34) ?_
    refine G_lsub (pc := 75) dX12_tries_75 ?_
    refine G_iload_n (pc := 76) 3 dX12_tries_76 rfl ?_
    refine G_i2l (pc := 77) dX12_tries_77 ?_
    refine G_lload (pc := 78) 7 dX12_tries_78 rfl ?_
    refine G_lload (pc := 80) 4 dX12_tries_80 rfl ?_
    refine G_lmul (pc := 82) dX12_tries_82 ?_
    refine G_lload (pc := 83) 8 dX12_tries_83 rfl ?_
    refine G_ldiv (pc := 85) dX12_tries_85 (hR _ _ hx hy h34) ?_
    refine G_ladd (pc := 86) dX12_tries_86 ?_
    refine gV2 (pc := 87) (k' := 0) (n' := 0) dX12_tries_87 lkX12_99 ⟨by decide, by decide⟩ (Nat.le_of_ble_eq_true rfl) rfl rfl ⟨by decide, by decide⟩ (by assumption) (c_X12_corrects hM2 hA hV hm hm2 ?_ ?_)
    · intro hc i2 hi2
      dsimp only [gRt]
      refine G_if_eq (pc := 90) (tgt := 113) dX12_tries_90 (by decide) (fun h90 => ?_) (fun h90 => ?_)
      · refine G_iconst (pc := 113) (v := 0) dX12_tries_113 rfl ?_
        refine G_iret (pc := 114) dX12_tries_114 ⟨_, rfl, rfl⟩ ⟨by decide, by decide⟩ ?_
        exact h0 (by unfold gTrR; rw [if_neg h34, hc]) i2 hi2
      · exact absurd rfl h90
    · intro X Y rd hc i2 hi2 e6 e7 e8
      dsimp only [gRt]
      refine G_if_eq (pc := 90) (tgt := 113) dX12_tries_90 (by decide) (fun h90 => ?_) (fun h90 => ?_)
      · exact absurd h90 (by decide)
      · refine G_aload_n (pc := 93) 0 dX12_tries_93 rfl ?_
        refine G_getI (pc := 94) dX12_tries_94 fX12_55 (by assumption) ?_
        refine G_iload_n (pc := 97) 2 dX12_tries_97 rfl ?_
        refine G_icmp_ne (pc := 98) (tgt := 109) dX12_tries_98 (by decide) (fun h98 => ?_) (fun h98 => ?_)
        · refine G_iconst (pc := 109) (v := 1) dX12_tries_109 rfl ?_
          refine G_goto (pc := 110) (tgt := 114) dX12_tries_110 (by decide) ?_
          refine G_iret (pc := 114) dX12_tries_114 ⟨_, rfl, rfl⟩ ⟨by decide, by decide⟩ ?_
          exact h1 (X, Y, rd) (by unfold gTrR; rw [if_neg h34, hc]; exact if_neg (fun z => h98 (e6.trans z.1))) i2 hi2 e6 e7 e8
        · refine G_aload_n (pc := 101) 0 dX12_tries_101 rfl ?_
          refine G_getI (pc := 102) dX12_tries_102 fX12_58 (by assumption) ?_
          refine G_iload_n (pc := 105) 3 dX12_tries_105 rfl ?_
          refine G_icmp_eq (pc := 106) (tgt := 113) dX12_tries_106 (by decide) (fun h106 => ?_) (fun h106 => ?_)
          · refine G_iconst (pc := 113) (v := 0) dX12_tries_113 rfl ?_
            refine G_iret (pc := 114) dX12_tries_114 ⟨_, rfl, rfl⟩ ⟨by decide, by decide⟩ ?_
            exact h0 (by unfold gTrR; rw [if_neg h34, hc]; exact if_pos ⟨e6.symm.trans h98, e7.symm.trans h106⟩) i2 hi2
          · refine G_iconst (pc := 109) (v := 1) dX12_tries_109 rfl ?_
            refine G_goto (pc := 110) (tgt := 114) dX12_tries_110 (by decide) ?_
            refine G_iret (pc := 114) dX12_tries_114 ⟨_, rfl, rfl⟩ ⟨by decide, by decide⟩ ?_
            exact h1 (X, Y, rd) (by unfold gTrR; rw [if_neg h34, hc]; exact if_neg (fun z => h106 (e7.trans z.2))) i2 hi2 e6 e7 e8
  · refine G_iconst (pc := 38) (v := 0) dX12_tries_38 rfl ?_
    refine G_iret (pc := 39) dX12_tries_39 ⟨_, rfl, rfl⟩ ⟨by decide, by decide⟩ ?_
    exact h0 (by unfold gTrR; rw [if_pos h34]) i frM.rfl'

theorem jnF_o {s : Nat → Int32} {w n j : Nat} {x y q v : Int32} (h : j ≠ w) (h2 : j < w + 6) : jnF s w n x y q v j = s j := by
  unfold jnF; rw [upd_o h, upd_o (by omega), upd_o (by omega), upd_o (by omega), upd_o (by omega)]
def gPr (rd pc gl : Int32) : Int32 := if 2 < rd then (if rd < 5 then pc else if 1 ≤ pc / 2 then pc / 2 else 1) else if 2 * pc ≤ gl then 2 * pc else gl
/-- a walk at w, of n places, has gone to (x, y) in q rounds -/
def arF (s : Nat → Int32) (w n : Nat) (sg x y q kd : Int32) : Nat → Int32 := upd (jnF (upd s (w + 1) sg) w n x y q kd) (w + 2) (gPr q (s (w + 2)) (s 3))
def gKr (w y0 y1 : Int64) : Int32 := if w < 0 then 2 else if (y0 < 0 ∧ 0 < y1) ∨ (0 < y0 ∧ y1 < 0) then 1 else 0
set_option maxRecDepth 100000 in
set_option maxHeartbeats 4000000 in
theorem s5_X12_arrives {Γ : gG} {T : gTy} {r : gR} {l : gLg} {i : gI} {Q : gQ} {m k : Nat} {v : Int32} (hM : lyM T r m) (hA : gN Γ ≤ m) (hk : k < 5) (hQ : Q none T r l (va_up i (m + 1) (upd (i (m + 1)) (23 + 166 * k + 2) v))) : G Γ MX12_arrives 0 0 233 [(0, .ref m), (1, .int (nI k)), (13, .int v)] [] T r l i Q := by
  have hM2 := hM
  obtain ⟨m0, m1, m2, m3, m4, m5, m6, m7, m8, m9, m10⟩ := hM
  refine G_aload_n (pc := 233) 0 dX12_arrives_233 rfl ?_
  refine G_iload_n (pc := 234) 1 dX12_arrives_234 rfl ?_
  refine G_iconst (pc := 235) (v := 2) dX12_arrives_235 rfl ?_
  refine G_iload (pc := 236) 2 dX12_arrives_236 rfl ?_
  refine gV3 (pc := 238) (k' := 0) (n' := 0) dX12_arrives_238 lkX12_84 ⟨by decide, by decide⟩ (Nat.le_of_ble_eq_true rfl) rfl rfl ⟨by decide, by decide⟩ (by assumption) (c_X12_puts (j := 2) hM2 hA (by omega) ?_)
  dsimp only [gRt]
  rw [up2_u]
  refine G_vret (pc := 241) dX12_arrives_241 rfl ⟨by decide, by decide⟩ ?_
  exact hQ

set_option maxRecDepth 100000 in
set_option maxHeartbeats 4000000 in
theorem s4_X12_arrives {Γ : gG} {T : gTy} {r : gR} {l : gLg} {i : gI} {Q : gQ} {m k : Nat} (hM : lyM T r m) (hA : gN Γ ≤ m) (hk : k < 5) (hQ : Q none T r l (va_up i (m + 1) (upd (i (m + 1)) (23 + 166 * k + 2) (gPr (i m 8) (i (m + 1) (23 + 166 * k + 2)) (i (m + 1) 3))))) : G Γ MX12_arrives 0 0 160 [(0, .ref m), (1, .int (nI k))] [] T r l i Q := by
  have hM2 := hM
  obtain ⟨m0, m1, m2, m3, m4, m5, m6, m7, m8, m9, m10⟩ := hM
  refine G_aload_n (pc := 160) 0 dX12_arrives_160 rfl ?_
  refine G_iload_n (pc := 161) 1 dX12_arrives_161 rfl ?_
  refine G_iconst (pc := 162) (v := 2) dX12_arrives_162 rfl ?_
  refine gV2 (pc := 163) (k' := 0) (n' := 0) dX12_arrives_163 lkX12_92 ⟨by decide, by decide⟩ (Nat.le_of_ble_eq_true rfl) rfl rfl ⟨by decide, by decide⟩ (by assumption) (c_X12_walkPart (j := 2) hM2 (by omega) ?_)
  dsimp only [gRt]
  refine G_sn2 (pc := 166) (gSt_i dX12_arrives_166 (by decide)) rfl ?_
  refine G_aload_n (pc := 168) 0 dX12_arrives_168 rfl ?_
  refine G_getI (pc := 169) dX12_arrives_169 fX12_65 (by assumption) ?_
  refine G_iconst (pc := 172) (v := 2) dX12_arrives_172 rfl ?_
  refine G_icmp_gt (pc := 173) (tgt := 207) dX12_arrives_173 (by decide) (fun h173 => ?_) (fun h173 => ?_)
  · refine G_aload_n (pc := 207) 0 dX12_arrives_207 rfl ?_
    refine G_getI (pc := 208) dX12_arrives_208 fX12_65 (by assumption) ?_
    refine G_iconst (pc := 211) (v := 5) dX12_arrives_211 rfl ?_
    refine G_icmp_lt (pc := 212) (tgt := 233) dX12_arrives_212 (by decide) (fun h212 => ?_) (fun h212 => ?_)
    · unfold gPr at hQ
      rw [if_pos h173, if_pos h212] at hQ
      
      exact s5_X12_arrives hM2 hA hk hQ
    · refine G_iload (pc := 215) 2 dX12_arrives_215 rfl ?_
      refine G_iconst (pc := 217) (v := 2) dX12_arrives_217 rfl ?_
      refine G_idiv (pc := 218) dX12_arrives_218 (by decide) ?_
      refine G_iconst (pc := 219) (v := 1) dX12_arrives_219 rfl ?_
      refine G_icmp_ge (pc := 220) (tgt := 227) dX12_arrives_220 (by decide) (fun h220 => ?_) (fun h220 => ?_)
      · refine G_iload (pc := 227) 2 dX12_arrives_227 rfl ?_
        refine G_iconst (pc := 229) (v := 2) dX12_arrives_229 rfl ?_
        refine G_idiv (pc := 230) dX12_arrives_230 (by decide) ?_
        refine G_st2 (pc := 231) (gSt_i dX12_arrives_231 (by decide)) rfl ?_
        unfold gPr at hQ
        rw [if_pos h173, if_neg h212, if_pos h220] at hQ
        
        exact s5_X12_arrives hM2 hA hk hQ
      · refine G_iconst (pc := 223) (v := 1) dX12_arrives_223 rfl ?_
        refine G_goto (pc := 224) (tgt := 231) dX12_arrives_224 (by decide) ?_
        refine G_st2 (pc := 231) (gSt_i dX12_arrives_231 (by decide)) rfl ?_
        unfold gPr at hQ
        rw [if_pos h173, if_neg h212, if_neg h220] at hQ
        
        exact s5_X12_arrives hM2 hA hk hQ
  · refine G_iconst (pc := 176) (v := 2) dX12_arrives_176 rfl ?_
    refine G_iload (pc := 177) 2 dX12_arrives_177 rfl ?_
    refine G_imul (pc := 179) dX12_arrives_179 ?_
    refine G_aload_n (pc := 180) 0 dX12_arrives_180 rfl ?_
    refine G_getR (pc := 181) dX12_arrives_181 fX12_7 (by assumption) (by assumption) ?_
    refine G_iconst (pc := 184) (v := 3) dX12_arrives_184 rfl ?_
    refine G_ialdJ (pc := 185) (j := 3) dX12_arrives_185 (by assumption) gl3 (by first | assumption | omega) (by decide) ?_
    refine G_icmp_le (pc := 186) (tgt := 198) dX12_arrives_186 (by decide) (fun h186 => ?_) (fun h186 => ?_)
    · refine G_iconst (pc := 198) (v := 2) dX12_arrives_198 rfl ?_
      refine G_iload (pc := 199) 2 dX12_arrives_199 rfl ?_
      refine G_imul (pc := 201) dX12_arrives_201 ?_
      refine G_st2 (pc := 202) (gSt_i dX12_arrives_202 (by decide)) rfl ?_
      refine G_goto (pc := 204) (tgt := 233) dX12_arrives_204 (by decide) ?_
      unfold gPr at hQ
      rw [if_neg h173, if_pos h186] at hQ
      
      exact s5_X12_arrives hM2 hA hk hQ
    · refine G_aload_n (pc := 189) 0 dX12_arrives_189 rfl ?_
      refine G_getR (pc := 190) dX12_arrives_190 fX12_7 (by assumption) (by assumption) ?_
      refine G_iconst (pc := 193) (v := 3) dX12_arrives_193 rfl ?_
      refine G_ialdJ (pc := 194) (j := 3) dX12_arrives_194 (by assumption) gl3 (by first | assumption | omega) (by decide) ?_
      refine G_goto (pc := 195) (tgt := 202) dX12_arrives_195 (by decide) ?_
      refine G_st2 (pc := 202) (gSt_i dX12_arrives_202 (by decide)) rfl ?_
      refine G_goto (pc := 204) (tgt := 233) dX12_arrives_204 (by decide) ?_
      unfold gPr at hQ
      rw [if_neg h173, if_neg h186] at hQ
      
      exact s5_X12_arrives hM2 hA hk hQ

set_option maxRecDepth 100000 in
set_option maxHeartbeats 4000000 in
theorem s3_X12_arrives {Γ : gG} {T : gTy} {r : gR} {l : gLg} {i : gI} {Q : gQ} {m k n : Nat} {kd : Int32} (hM : lyM T r m) (hA : gN Γ ≤ m) (hk : k < 5) (hn : i (m + 1) (23 + 166 * k) = nI n) (hn4 : n < 40) (hQ : Q none T r l (va_up i (m + 1) (upd (jnF (i (m + 1)) (23 + 166 * k) n (i m 6) (i m 7) (i m 8) kd) (23 + 166 * k + 2) (gPr (i m 8) (i (m + 1) (23 + 166 * k + 2)) (i (m + 1) 3))))) : G Γ MX12_arrives 0 0 157 [(0, .ref m), (1, .int (nI k))] [.int kd, .int (nI k), .ref m] T r l i Q := by
  have hM2 := hM
  obtain ⟨m0, m1, m2, m3, m4, m5, m6, m7, m8, m9, m10⟩ := hM
  refine gV2 (pc := 157) (k' := 0) (n' := 0) dX12_arrives_157 lkX12_88 ⟨by decide, by decide⟩ (Nat.le_of_ble_eq_true rfl) rfl rfl ⟨by decide, by decide⟩ (by assumption) (c_X12_joins hM2 hA hk hn hn4 ?_)
  dsimp only [gRt]
  refine s4_X12_arrives hM2 hA hk ?_
  rw [va_s, va_o (by omega), jnF_o (by omega) (by omega), jnF_o (by omega) (by omega), va_vv]
  exact hQ

set_option maxRecDepth 100000 in
set_option maxHeartbeats 4000000 in
theorem s2_X12_arrives {Γ : gG} {T : gTy} {r : gR} {l : gLg} {i : gI} {Q : gQ} {m k n : Nat} {wy : Int64} {fl sg : Int32} (hM : lyM T r m) (hA : gN Γ ≤ m) (hk : k < 5) (hn : i (m + 1) (23 + 166 * k) = nI n) (hn4 : n < 40) (hQ : Q none T r l (va_up i (m + 1) (arF (i (m + 1)) (23 + 166 * k) n sg (i m 6) (i m 7) (i m 8) (if wy < 0 then 2 else if fl = 0 then 0 else 1)))) : G Γ MX12_arrives 0 0 131 [(0, .ref m), (1, .int (nI k)), (8, .long wy), (12, .int fl)] [.int sg, .int 1, .int (nI k), .ref m] T r l i Q := by
  have hM2 := hM
  obtain ⟨m0, m1, m2, m3, m4, m5, m6, m7, m8, m9, m10⟩ := hM
  unfold arF at hQ
  refine gV3 (pc := 131) (k' := 0) (n' := 0) dX12_arrives_131 lkX12_84 ⟨by decide, by decide⟩ (Nat.le_of_ble_eq_true rfl) rfl rfl ⟨by decide, by decide⟩ (by assumption) (c_X12_puts (j := 1) hM2 hA (by omega) ?_)
  dsimp only [gRt]
  rw [up2_u]
  refine G_aload_n (pc := 134) 0 dX12_arrives_134 rfl ?_
  refine G_iload_n (pc := 135) 1 dX12_arrives_135 rfl ?_
  refine G_lload (pc := 136) 2 dX12_arrives_136 rfl ?_
  refine G_lconst (pc := 138) (v := 0) dX12_arrives_138 rfl ?_
  refine G_lif_ge (pc := 139) (tgt := 147) dX12_arrives_139 dX12_arrives_140 (by decide) (fun h139 => ?_) (fun h139 => ?_)
  · refine G_iload (pc := 147) 3 dX12_arrives_147 rfl ?_
    refine G_if_eq (pc := 149) (tgt := 156) dX12_arrives_149 (by decide) (fun h149 => ?_) (fun h149 => ?_)
    · refine G_iconst (pc := 156) (v := 0) dX12_arrives_156 rfl ?_
      rw [if_neg (Int64.not_lt.mpr h139), if_pos h149] at hQ
      refine G_drop3 ?_
      refine G_drop2 ?_
      refine s3_X12_arrives (n := n) hM2 hA hk ?_ hn4 ?_
      · rw [va_s, upd_o (by omega)]; exact hn
      · rw [va_s, va_o (by omega), va_vv, upd_o (j := 23 + 166 * k + 2) (by omega), upd_o (j := 3) (by omega)]
        exact hQ
    · refine G_iconst (pc := 152) (v := 1) dX12_arrives_152 rfl ?_
      refine G_goto (pc := 153) (tgt := 157) dX12_arrives_153 (by decide) ?_
      rw [if_neg (Int64.not_lt.mpr h139), if_neg h149] at hQ
      refine G_drop3 ?_
      refine G_drop2 ?_
      refine s3_X12_arrives (n := n) hM2 hA hk ?_ hn4 ?_
      · rw [va_s, upd_o (by omega)]; exact hn
      · rw [va_s, va_o (by omega), va_vv, upd_o (j := 23 + 166 * k + 2) (by omega), upd_o (j := 3) (by omega)]
        exact hQ
  · refine G_iconst (pc := 143) (v := 2) dX12_arrives_143 rfl ?_
    refine G_goto (pc := 144) (tgt := 157) dX12_arrives_144 (by decide) ?_
    rw [if_pos (Int64.not_le.mp h139)] at hQ
    refine G_drop3 ?_
    refine G_drop2 ?_
    refine s3_X12_arrives (n := n) hM2 hA hk ?_ hn4 ?_
    · rw [va_s, upd_o (by omega)]; exact hn
    · rw [va_s, va_o (by omega), va_vv, upd_o (j := 23 + 166 * k + 2) (by omega), upd_o (j := 3) (by omega)]
      exact hQ

set_option maxRecDepth 100000 in
set_option maxHeartbeats 4000000 in
theorem s1_X12_arrives {Γ : gG} {T : gTy} {r : gR} {l : gLg} {i : gI} {Q : gQ} {m k n : Nat} {wy : Int64} {fl : Int32} (hM : lyM T r m) (hA : gN Γ ≤ m) (hk : k < 5) (hn : i (m + 1) (23 + 166 * k) = nI n) (hn4 : n < 40) (hQ : Q none T r l (va_up i (m + 1) (arF (i (m + 1)) (23 + 166 * k) n (if wy < 0 then -(i (m + 1) (23 + 166 * k + 1)) else i (m + 1) (23 + 166 * k + 1)) (i m 6) (i m 7) (i m 8) (if wy < 0 then 2 else if fl = 0 then 0 else 1)))) : G Γ MX12_arrives 0 0 103 [(0, .ref m), (1, .int (nI k)), (8, .long wy)] [.int fl] T r l i Q := by
  have hM2 := hM
  obtain ⟨m0, m1, m2, m3, m4, m5, m6, m7, m8, m9, m10⟩ := hM
  refine G_sn3 (pc := 103) (gSt_i dX12_arrives_103 (by decide)) rfl ?_
  refine G_aload_n (pc := 105) 0 dX12_arrives_105 rfl ?_
  refine G_iload_n (pc := 106) 1 dX12_arrives_106 rfl ?_
  refine G_iconst (pc := 107) (v := 1) dX12_arrives_107 rfl ?_
  refine G_lload (pc := 108) 2 dX12_arrives_108 rfl ?_
  refine G_lconst (pc := 110) (v := 0) dX12_arrives_110 rfl ?_
  refine G_lif_ge (pc := 111) (tgt := 125) dX12_arrives_111 dX12_arrives_112 (by decide) (fun h111 => ?_) (fun h111 => ?_)
  · refine G_aload_n (pc := 125) 0 dX12_arrives_125 rfl ?_
    refine G_iload_n (pc := 126) 1 dX12_arrives_126 rfl ?_
    refine G_iconst (pc := 127) (v := 1) dX12_arrives_127 rfl ?_
    refine gV2 (pc := 128) (k' := 0) (n' := 0) dX12_arrives_128 lkX12_92 ⟨by decide, by decide⟩ (Nat.le_of_ble_eq_true rfl) rfl rfl ⟨by decide, by decide⟩ (by assumption) (c_X12_walkPart (j := 1) hM2 (by omega) ?_)
    dsimp only [gRt]
    rw [if_neg (Int64.not_lt.mpr h111)] at hQ
    
    exact s2_X12_arrives hM2 hA hk hn hn4 hQ
  · refine G_aload_n (pc := 115) 0 dX12_arrives_115 rfl ?_
    refine G_iload_n (pc := 116) 1 dX12_arrives_116 rfl ?_
    refine G_iconst (pc := 117) (v := 1) dX12_arrives_117 rfl ?_
    refine gV2 (pc := 118) (k' := 0) (n' := 0) dX12_arrives_118 lkX12_92 ⟨by decide, by decide⟩ (Nat.le_of_ble_eq_true rfl) rfl rfl ⟨by decide, by decide⟩ (by assumption) (c_X12_walkPart (j := 1) hM2 (by omega) ?_)
    dsimp only [gRt]
    refine G_ineg (pc := 121) dX12_arrives_121 ?_
    refine G_goto (pc := 122) (tgt := 131) dX12_arrives_122 (by decide) ?_
    rw [if_pos (Int64.not_le.mp h111)] at hQ
    
    exact s2_X12_arrives hM2 hA hk hn hn4 hQ

set_option maxRecDepth 100000 in
set_option maxHeartbeats 4000000 in
theorem c_X12_arrives {Γ : gG} {T : gTy} {r : gR} {l : gLg} {i : gI} {Q : gQ} {m k n n1 : Nat} {x y : Int32} {f : Nat → Int32} {p q : Nat → Nat} (hM : lyM T r m) (hA : gN Γ ≤ m) (hk : k < 5) (hn : i (m + 1) (23 + 166 * k) = nI n) (hn4 : n < 40) (hV : mv (i (m + 1)) n1 f p q) (hQ : Q none T r l (va_up i (m + 1) (arF (i (m + 1)) (23 + 166 * k) n (if gWay (gSum f p q (i m 6).toInt64 (i m 7).toInt64 1 n1) (gSum f p q (i m 6).toInt64 (i m 7).toInt64 2 n1) (i m 6 - x).toInt64 (i m 7 - y).toInt64 (i (m + 1) (23 + 166 * k + 1)) < 0 then -(i (m + 1) (23 + 166 * k + 1)) else i (m + 1) (23 + 166 * k + 1)) (i m 6) (i m 7) (i m 8) (gKr (gWay (gSum f p q (i m 6).toInt64 (i m 7).toInt64 1 n1) (gSum f p q (i m 6).toInt64 (i m 7).toInt64 2 n1) (i m 6 - x).toInt64 (i m 7 - y).toInt64 (i (m + 1) (23 + 166 * k + 1))) (gSum f p q x.toInt64 y.toInt64 2 n1) (gSum f p q (i m 6).toInt64 (i m 7).toInt64 2 n1))))) : gC Γ MX12_arrives [.ref m, .int (nI k), .int x, .int y] T r l i Q := by
  have hM2 := hM
  obtain ⟨m0, m1, m2, m3, m4, m5, m6, m7, m8, m9, m10⟩ := hM
  refine gC_of rfl (Nat.le_of_ble_eq_true rfl) (L := [(0, .ref m), (1, .int (nI k)), (2, .int x), (3, .int y)]) rfl ?_
  refine G_aload_n (pc := 0) 0 dX12_arrives_0 rfl ?_
  refine G_aload_n (pc := 1) 0 dX12_arrives_1 rfl ?_
  refine G_getI (pc := 2) dX12_arrives_2 fX12_55 (by assumption) ?_
  refine G_aload_n (pc := 5) 0 dX12_arrives_5 rfl ?_
  refine G_getI (pc := 6) dX12_arrives_6 fX12_58 (by assumption) ?_
  refine G_iconst (pc := 9) (v := 1) dX12_arrives_9 rfl ?_
  refine gV3 (pc := 10) (k' := 0) (n' := 0) dX12_arrives_10 lkX12_61 ⟨by decide, by decide⟩ (Nat.le_of_ble_eq_true rfl) rfl rfl ⟨by decide, by decide⟩ (by assumption) (c_X12_sum (w := 1) hM2 hV (by decide) ?_)
  dsimp only [gRt]
  refine G_sn4 (pc := 13) (gSt_l dX12_arrives_13 (by decide)) rfl ?_
  refine G_aload_n (pc := 15) 0 dX12_arrives_15 rfl ?_
  refine G_aload_n (pc := 16) 0 dX12_arrives_16 rfl ?_
  refine G_getI (pc := 17) dX12_arrives_17 fX12_55 (by assumption) ?_
  refine G_aload_n (pc := 20) 0 dX12_arrives_20 rfl ?_
  refine G_getI (pc := 21) dX12_arrives_21 fX12_58 (by assumption) ?_
  refine G_iconst (pc := 24) (v := 2) dX12_arrives_24 rfl ?_
  refine gV3 (pc := 25) (k' := 0) (n' := 0) dX12_arrives_25 lkX12_61 ⟨by decide, by decide⟩ (Nat.le_of_ble_eq_true rfl) rfl rfl ⟨by decide, by decide⟩ (by assumption) (c_X12_sum (w := 2) hM2 hV (by decide) ?_)
  dsimp only [gRt]
  refine G_sn5 (pc := 28) (gSt_l dX12_arrives_28 (by decide)) rfl ?_
  refine G_lload (pc := 30) 4 dX12_arrives_30 rfl ?_
  refine G_aload_n (pc := 32) 0 dX12_arrives_32 rfl ?_
  refine G_getI (pc := 33) dX12_arrives_33 fX12_58 (by assumption) ?_
  refine G_iload_n (pc := 36) 3 dX12_arrives_36 rfl ?_
  refine G_isub (pc := 37) dX12_arrives_37 ?_
  refine G_i2l (pc := 38) dX12_arrives_38 ?_
  refine G_lmul (pc := 39) dX12_arrives_39 ?_
  refine G_lload (pc := 40) 5 dX12_arrives_40 rfl ?_
  refine G_aload_n (pc := 42) 0 dX12_arrives_42 rfl ?_
  refine G_getI (pc := 43) dX12_arrives_43 fX12_55 (by assumption) ?_
  refine G_iload_n (pc := 46) 2 dX12_arrives_46 rfl ?_
  refine G_isub (pc := 47) dX12_arrives_47 ?_
  refine G_i2l (pc := 48) dX12_arrives_48 ?_
  refine G_lmul (pc := 49) dX12_arrives_49 ?_
  refine G_lsub (pc := 50) dX12_arrives_50 ?_
  refine G_aload_n (pc := 51) 0 dX12_arrives_51 rfl ?_
  refine G_iload_n (pc := 52) 1 dX12_arrives_52 rfl ?_
  refine G_iconst (pc := 53) (v := 1) dX12_arrives_53 rfl ?_
  refine gV2 (pc := 54) (k' := 0) (n' := 0) dX12_arrives_54 lkX12_92 ⟨by decide, by decide⟩ (Nat.le_of_ble_eq_true rfl) rfl rfl ⟨by decide, by decide⟩ (by assumption) (c_X12_walkPart (j := 1) hM2 (by omega) ?_)
  dsimp only [gRt]
  refine G_i2l (pc := 57) dX12_arrives_57 ?_
  refine G_lmul (pc := 58) dX12_arrives_58 ?_
  refine G_sn6 (pc := 59) (gSt_l dX12_arrives_59 (by decide)) rfl ?_
  refine G_aload_n (pc := 61) 0 dX12_arrives_61 rfl ?_
  refine G_iload_n (pc := 62) 2 dX12_arrives_62 rfl ?_
  refine G_iload_n (pc := 63) 3 dX12_arrives_63 rfl ?_
  refine G_iconst (pc := 64) (v := 2) dX12_arrives_64 rfl ?_
  refine gV3 (pc := 65) (k' := 0) (n' := 0) dX12_arrives_65 lkX12_61 ⟨by decide, by decide⟩ (Nat.le_of_ble_eq_true rfl) rfl rfl ⟨by decide, by decide⟩ (by assumption) (c_X12_sum (w := 2) hM2 hV (by decide) ?_)
  dsimp only [gRt]
  refine G_sn7 (pc := 68) (gSt_l dX12_arrives_68 (by decide)) rfl ?_
  refine G_lload (pc := 70) 7 dX12_arrives_70 rfl ?_
  refine G_lconst (pc := 72) (v := 0) dX12_arrives_72 rfl ?_
  refine G_lif_ge (pc := 73) (tgt := 84) dX12_arrives_73 dX12_arrives_74 (by decide) (fun h73 => ?_) (fun h73 => ?_)
  · refine G_lload (pc := 84) 7 dX12_arrives_84 rfl ?_
    refine G_lconst (pc := 86) (v := 0) dX12_arrives_86 rfl ?_
    refine G_lif_le (pc := 87) (tgt := 102) dX12_arrives_87 dX12_arrives_88 (by decide) (fun h87 => ?_) (fun h87 => ?_)
    · refine G_iconst (pc := 102) (v := 0) dX12_arrives_102 rfl ?_
      refine G_drop7 ?_
      refine G_drop5 ?_
      refine G_drop4 ?_
      refine G_drop3 ?_
      refine G_drop2 ?_
      have hc : ¬ ((gSum f p q x.toInt64 y.toInt64 2 n1 < 0 ∧ 0 < gSum f p q (i m 6).toInt64 (i m 7).toInt64 2 n1) ∨ (0 < gSum f p q x.toInt64 y.toInt64 2 n1 ∧ gSum f p q (i m 6).toInt64 (i m 7).toInt64 2 n1 < 0)) := fun z => z.elim (fun z => absurd z.1 (Int64.not_lt.mpr h73)) (fun z => absurd z.1 (Int64.not_lt.mpr h87))
      refine s1_X12_arrives (fl := 0) hM2 hA hk hn hn4 ?_
      rw [show gKr (gWay (gSum f p q (i m 6).toInt64 (i m 7).toInt64 1 n1) (gSum f p q (i m 6).toInt64 (i m 7).toInt64 2 n1) (i m 6 - x).toInt64 (i m 7 - y).toInt64 (i (m + 1) (23 + 166 * k + 1))) (gSum f p q x.toInt64 y.toInt64 2 n1) (gSum f p q (i m 6).toInt64 (i m 7).toInt64 2 n1) = (if gWay (gSum f p q (i m 6).toInt64 (i m 7).toInt64 1 n1) (gSum f p q (i m 6).toInt64 (i m 7).toInt64 2 n1) (i m 6 - x).toInt64 (i m 7 - y).toInt64 (i (m + 1) (23 + 166 * k + 1)) < 0 then 2 else if (0 : Int32) = 0 then 0 else 1) by unfold gKr; rw [if_neg hc]; rfl] at hQ
      exact hQ
    · refine G_lload (pc := 91) 5 dX12_arrives_91 rfl ?_
      refine G_lconst (pc := 93) (v := 0) dX12_arrives_93 rfl ?_
      refine G_lif_ge (pc := 94) (tgt := 102) dX12_arrives_94 dX12_arrives_95 (by decide) (fun h94 => ?_) (fun h94 => ?_)
      · refine G_iconst (pc := 102) (v := 0) dX12_arrives_102 rfl ?_
        refine G_drop7 ?_
        refine G_drop5 ?_
        refine G_drop4 ?_
        refine G_drop3 ?_
        refine G_drop2 ?_
        have hc : ¬ ((gSum f p q x.toInt64 y.toInt64 2 n1 < 0 ∧ 0 < gSum f p q (i m 6).toInt64 (i m 7).toInt64 2 n1) ∨ (0 < gSum f p q x.toInt64 y.toInt64 2 n1 ∧ gSum f p q (i m 6).toInt64 (i m 7).toInt64 2 n1 < 0)) := fun z => z.elim (fun z => absurd z.1 (Int64.not_lt.mpr h73)) (fun z => absurd z.2 (Int64.not_lt.mpr h94))
        refine s1_X12_arrives (fl := 0) hM2 hA hk hn hn4 ?_
        rw [show gKr (gWay (gSum f p q (i m 6).toInt64 (i m 7).toInt64 1 n1) (gSum f p q (i m 6).toInt64 (i m 7).toInt64 2 n1) (i m 6 - x).toInt64 (i m 7 - y).toInt64 (i (m + 1) (23 + 166 * k + 1))) (gSum f p q x.toInt64 y.toInt64 2 n1) (gSum f p q (i m 6).toInt64 (i m 7).toInt64 2 n1) = (if gWay (gSum f p q (i m 6).toInt64 (i m 7).toInt64 1 n1) (gSum f p q (i m 6).toInt64 (i m 7).toInt64 2 n1) (i m 6 - x).toInt64 (i m 7 - y).toInt64 (i (m + 1) (23 + 166 * k + 1)) < 0 then 2 else if (0 : Int32) = 0 then 0 else 1) by unfold gKr; rw [if_neg hc]; rfl] at hQ
        exact hQ
      · refine G_iconst (pc := 98) (v := 1) dX12_arrives_98 rfl ?_
        refine G_goto (pc := 99) (tgt := 103) dX12_arrives_99 (by decide) ?_
        refine G_drop7 ?_
        refine G_drop5 ?_
        refine G_drop4 ?_
        refine G_drop3 ?_
        refine G_drop2 ?_
        have hc : (gSum f p q x.toInt64 y.toInt64 2 n1 < 0 ∧ 0 < gSum f p q (i m 6).toInt64 (i m 7).toInt64 2 n1) ∨ (0 < gSum f p q x.toInt64 y.toInt64 2 n1 ∧ gSum f p q (i m 6).toInt64 (i m 7).toInt64 2 n1 < 0) := Or.inr ⟨Int64.not_le.mp h87, Int64.not_le.mp h94⟩
        refine s1_X12_arrives (fl := 1) hM2 hA hk hn hn4 ?_
        rw [show gKr (gWay (gSum f p q (i m 6).toInt64 (i m 7).toInt64 1 n1) (gSum f p q (i m 6).toInt64 (i m 7).toInt64 2 n1) (i m 6 - x).toInt64 (i m 7 - y).toInt64 (i (m + 1) (23 + 166 * k + 1))) (gSum f p q x.toInt64 y.toInt64 2 n1) (gSum f p q (i m 6).toInt64 (i m 7).toInt64 2 n1) = (if gWay (gSum f p q (i m 6).toInt64 (i m 7).toInt64 1 n1) (gSum f p q (i m 6).toInt64 (i m 7).toInt64 2 n1) (i m 6 - x).toInt64 (i m 7 - y).toInt64 (i (m + 1) (23 + 166 * k + 1)) < 0 then 2 else if (1 : Int32) = 0 then 0 else 1) by unfold gKr; rw [if_pos hc]; rfl] at hQ
        exact hQ
  · refine G_lload (pc := 77) 5 dX12_arrives_77 rfl ?_
    refine G_lconst (pc := 79) (v := 0) dX12_arrives_79 rfl ?_
    refine G_lif_gt (pc := 80) (tgt := 98) dX12_arrives_80 dX12_arrives_81 (by decide) (fun h80 => ?_) (fun h80 => ?_)
    · refine G_iconst (pc := 98) (v := 1) dX12_arrives_98 rfl ?_
      refine G_goto (pc := 99) (tgt := 103) dX12_arrives_99 (by decide) ?_
      refine G_drop7 ?_
      refine G_drop5 ?_
      refine G_drop4 ?_
      refine G_drop3 ?_
      refine G_drop2 ?_
      have hc : (gSum f p q x.toInt64 y.toInt64 2 n1 < 0 ∧ 0 < gSum f p q (i m 6).toInt64 (i m 7).toInt64 2 n1) ∨ (0 < gSum f p q x.toInt64 y.toInt64 2 n1 ∧ gSum f p q (i m 6).toInt64 (i m 7).toInt64 2 n1 < 0) := Or.inl ⟨Int64.not_le.mp h73, h80⟩
      refine s1_X12_arrives (fl := 1) hM2 hA hk hn hn4 ?_
      rw [show gKr (gWay (gSum f p q (i m 6).toInt64 (i m 7).toInt64 1 n1) (gSum f p q (i m 6).toInt64 (i m 7).toInt64 2 n1) (i m 6 - x).toInt64 (i m 7 - y).toInt64 (i (m + 1) (23 + 166 * k + 1))) (gSum f p q x.toInt64 y.toInt64 2 n1) (gSum f p q (i m 6).toInt64 (i m 7).toInt64 2 n1) = (if gWay (gSum f p q (i m 6).toInt64 (i m 7).toInt64 1 n1) (gSum f p q (i m 6).toInt64 (i m 7).toInt64 2 n1) (i m 6 - x).toInt64 (i m 7 - y).toInt64 (i (m + 1) (23 + 166 * k + 1)) < 0 then 2 else if (1 : Int32) = 0 then 0 else 1) by unfold gKr; rw [if_pos hc]; rfl] at hQ
      exact hQ
    · refine G_lload (pc := 84) 7 dX12_arrives_84 rfl ?_
      refine G_lconst (pc := 86) (v := 0) dX12_arrives_86 rfl ?_
      refine G_lif_le (pc := 87) (tgt := 102) dX12_arrives_87 dX12_arrives_88 (by decide) (fun h87 => ?_) (fun h87 => ?_)
      · refine G_iconst (pc := 102) (v := 0) dX12_arrives_102 rfl ?_
        refine G_drop7 ?_
        refine G_drop5 ?_
        refine G_drop4 ?_
        refine G_drop3 ?_
        refine G_drop2 ?_
        have hc : ¬ ((gSum f p q x.toInt64 y.toInt64 2 n1 < 0 ∧ 0 < gSum f p q (i m 6).toInt64 (i m 7).toInt64 2 n1) ∨ (0 < gSum f p q x.toInt64 y.toInt64 2 n1 ∧ gSum f p q (i m 6).toInt64 (i m 7).toInt64 2 n1 < 0)) := fun z => z.elim (fun z => h80 z.2) (fun z => absurd z.1 (Int64.not_lt.mpr h87))
        refine s1_X12_arrives (fl := 0) hM2 hA hk hn hn4 ?_
        rw [show gKr (gWay (gSum f p q (i m 6).toInt64 (i m 7).toInt64 1 n1) (gSum f p q (i m 6).toInt64 (i m 7).toInt64 2 n1) (i m 6 - x).toInt64 (i m 7 - y).toInt64 (i (m + 1) (23 + 166 * k + 1))) (gSum f p q x.toInt64 y.toInt64 2 n1) (gSum f p q (i m 6).toInt64 (i m 7).toInt64 2 n1) = (if gWay (gSum f p q (i m 6).toInt64 (i m 7).toInt64 1 n1) (gSum f p q (i m 6).toInt64 (i m 7).toInt64 2 n1) (i m 6 - x).toInt64 (i m 7 - y).toInt64 (i (m + 1) (23 + 166 * k + 1)) < 0 then 2 else if (0 : Int32) = 0 then 0 else 1) by unfold gKr; rw [if_neg hc]; rfl] at hQ
        exact hQ
      · refine G_lload (pc := 91) 5 dX12_arrives_91 rfl ?_
        refine G_lconst (pc := 93) (v := 0) dX12_arrives_93 rfl ?_
        refine G_lif_ge (pc := 94) (tgt := 102) dX12_arrives_94 dX12_arrives_95 (by decide) (fun h94 => ?_) (fun h94 => ?_)
        · refine G_iconst (pc := 102) (v := 0) dX12_arrives_102 rfl ?_
          refine G_drop7 ?_
          refine G_drop5 ?_
          refine G_drop4 ?_
          refine G_drop3 ?_
          refine G_drop2 ?_
          have hc : ¬ ((gSum f p q x.toInt64 y.toInt64 2 n1 < 0 ∧ 0 < gSum f p q (i m 6).toInt64 (i m 7).toInt64 2 n1) ∨ (0 < gSum f p q x.toInt64 y.toInt64 2 n1 ∧ gSum f p q (i m 6).toInt64 (i m 7).toInt64 2 n1 < 0)) := fun z => z.elim (fun z => h80 z.2) (fun z => absurd z.2 (Int64.not_lt.mpr h94))
          refine s1_X12_arrives (fl := 0) hM2 hA hk hn hn4 ?_
          rw [show gKr (gWay (gSum f p q (i m 6).toInt64 (i m 7).toInt64 1 n1) (gSum f p q (i m 6).toInt64 (i m 7).toInt64 2 n1) (i m 6 - x).toInt64 (i m 7 - y).toInt64 (i (m + 1) (23 + 166 * k + 1))) (gSum f p q x.toInt64 y.toInt64 2 n1) (gSum f p q (i m 6).toInt64 (i m 7).toInt64 2 n1) = (if gWay (gSum f p q (i m 6).toInt64 (i m 7).toInt64 1 n1) (gSum f p q (i m 6).toInt64 (i m 7).toInt64 2 n1) (i m 6 - x).toInt64 (i m 7 - y).toInt64 (i (m + 1) (23 + 166 * k + 1)) < 0 then 2 else if (0 : Int32) = 0 then 0 else 1) by unfold gKr; rw [if_neg hc]; rfl] at hQ
          exact hQ
        · refine G_iconst (pc := 98) (v := 1) dX12_arrives_98 rfl ?_
          refine G_goto (pc := 99) (tgt := 103) dX12_arrives_99 (by decide) ?_
          refine G_drop7 ?_
          refine G_drop5 ?_
          refine G_drop4 ?_
          refine G_drop3 ?_
          refine G_drop2 ?_
          have hc : (gSum f p q x.toInt64 y.toInt64 2 n1 < 0 ∧ 0 < gSum f p q (i m 6).toInt64 (i m 7).toInt64 2 n1) ∨ (0 < gSum f p q x.toInt64 y.toInt64 2 n1 ∧ gSum f p q (i m 6).toInt64 (i m 7).toInt64 2 n1 < 0) := Or.inr ⟨Int64.not_le.mp h87, Int64.not_le.mp h94⟩
          refine s1_X12_arrives (fl := 1) hM2 hA hk hn hn4 ?_
          rw [show gKr (gWay (gSum f p q (i m 6).toInt64 (i m 7).toInt64 1 n1) (gSum f p q (i m 6).toInt64 (i m 7).toInt64 2 n1) (i m 6 - x).toInt64 (i m 7 - y).toInt64 (i (m + 1) (23 + 166 * k + 1))) (gSum f p q x.toInt64 y.toInt64 2 n1) (gSum f p q (i m 6).toInt64 (i m 7).toInt64 2 n1) = (if gWay (gSum f p q (i m 6).toInt64 (i m 7).toInt64 1 n1) (gSum f p q (i m 6).toInt64 (i m 7).toInt64 2 n1) (i m 6 - x).toInt64 (i m 7 - y).toInt64 (i (m + 1) (23 + 166 * k + 1)) < 0 then 2 else if (1 : Int32) = 0 then 0 else 1) by unfold gKr; rw [if_pos hc]; rfl] at hQ
          exact hQ

theorem upd_u {f : Nat → Int32} {k : Nat} {x y : Int32} : upd (upd f k x) k y = upd f k y := by funext j; by_cases h : j = k <;> simp [upd, h]
theorem upd_id {f : Nat → Int32} {k : Nat} {x : Int32} (h : f k = x) : upd f k x = f := by
  funext j
  by_cases e : j = k
  · rw [e, upd_s, h]
  · rw [upd_o e]
abbrev gWr (f : Nat → Int32) (p q : Nat → Nat) (n : Nat) (x y s : Int32) (c : Int64 × Int64 × Nat) : Int64 := gWay (gSum f p q c.1.toInt32.toInt64 c.2.1.toInt32.toInt64 1 n) (gSum f p q c.1.toInt32.toInt64 c.2.1.toInt32.toInt64 2 n) (c.1.toInt32 - x).toInt64 (c.2.1.toInt32 - y).toInt64 s
/-- the flat state after a walk at w has gone from (x, y) to c, tried at pace k -/
def goF (f : Nat → Int32) (p q : Nat → Nat) (n1 : Nat) (s : Nat → Int32) (w n : Nat) (x y : Int32) (k : Nat) (c : Int64 × Int64 × Nat) : Nat → Int32 :=
  arF (upd s (w + 2) (nI k)) w n (if gWr f p q n1 x y (s (w + 1)) c < 0 then -(s (w + 1)) else s (w + 1)) c.1.toInt32 c.2.1.toInt32 (nI c.2.2) (gKr (gWr f p q n1 x y (s (w + 1)) c) (gSum f p q x.toInt64 y.toInt64 2 n1) (gSum f p q c.1.toInt32.toInt64 c.2.1.toInt32.toInt64 2 n1))
set_option maxRecDepth 100000 in
set_option maxHeartbeats 4000000 in
theorem lp_X12_goes {Γ : gG} {T : gTy} {r : gR} {l : gLg} {i : gI} {Q : gQ} {m k z n1 mm k0 : Nat} {f : Nat → Int32} {p q : Nat → Nat} (hM : lyM T r m) (hA : gN Γ ≤ m) (hV : mv (i (m + 1)) n1 f p q) (hm : i (m + 1) 4 = nI mm) (hm2 : mm < 2 ^ 30) (hk : k < 5) (hR : gRk f p q n1) (hn : i (m + 1) (23 + 166 * k) = nI (z + 1)) (hz : z + 1 < 40) (hx : inB (i (m + 1) (23 + 166 * k + 6 + 4 * z + 0)).toInt64) (hy : inB (i (m + 1) (23 + 166 * k + 6 + 4 * z + 1)).toInt64) (h6 : i (m + 1) (23 + 166 * k + 2) = nI k0) (hk0 : k0 < 2 ^ 30)
  (hN : gGoP (gTrR f p q n1 mm (i (m + 1) (23 + 166 * k + 6 + 4 * z + 0)) (i (m + 1) (23 + 166 * k + 6 + 4 * z + 1)) (i (m + 1) (23 + 166 * k + 1))) k0 k0 = none → ∀ i', frN m i i' (upd (upd (i (m + 1)) (23 + 166 * k + 2) 0) (23 + 166 * k + 3) 1) → Q (some (.int 0)) T r l i')
  (hS : ∀ kk c, gGoP (gTrR f p q n1 mm (i (m + 1) (23 + 166 * k + 6 + 4 * z + 0)) (i (m + 1) (23 + 166 * k + 6 + 4 * z + 1)) (i (m + 1) (23 + 166 * k + 1))) k0 k0 = some (kk, c) → ∀ i', frN m i i' (goF f p q n1 (i (m + 1)) (23 + 166 * k) (z + 1) (i (m + 1) (23 + 166 * k + 6 + 4 * z + 0)) (i (m + 1) (23 + 166 * k + 6 + 4 * z + 1)) kk c) → Q (some (.int 1)) T r l i') : ∀ e kk i1, kk ≤ e → kk < 2 ^ 30 → frN m i i1 (upd (i (m + 1)) (23 + 166 * k + 2) (nI kk)) → gGoP (gTrR f p q n1 mm (i (m + 1) (23 + 166 * k + 6 + 4 * z + 0)) (i (m + 1) (23 + 166 * k + 6 + 4 * z + 1)) (i (m + 1) (23 + 166 * k + 1))) e kk = gGoP (gTrR f p q n1 mm (i (m + 1) (23 + 166 * k + 6 + 4 * z + 0)) (i (m + 1) (23 + 166 * k + 6 + 4 * z + 1)) (i (m + 1) (23 + 166 * k + 1))) k0 k0 → G Γ MX12_goes 0 0 25 [(0, .ref m), (1, .int (nI k)), (2, .int (nI z)), (3, .int (i (m + 1) (23 + 166 * k + 6 + 4 * z + 0))), (4, .int (i (m + 1) (23 + 166 * k + 6 + 4 * z + 1)))] [] T r l i1 Q := by
  have hM2 := hM
  obtain ⟨m0, m1, m2, m3, m4, m5, m6, m7, m8, m9, m10⟩ := hM
  have hV2 : ∀ a, mv (upd (i (m + 1)) (23 + 166 * k + 2) (nI a)) n1 f p q := fun a => hV.flat (upd_o (by omega)) (fun j _ _ => upd_o (by omega))
  intro e
  induction e with
  | zero =>
    intro kk i1 hk1 hk2 hi hg
    have hkz : kk = 0 := by omega
    subst hkz
    have e1 : i1 (m + 1) = _ := hi.2.2
    refine G_aload_n (pc := 25) 0 dX12_goes_25 rfl ?_
    refine G_iload_n (pc := 26) 1 dX12_goes_26 rfl ?_
    refine G_iconst (pc := 27) (v := 2) dX12_goes_27 rfl ?_
    refine gV2 (pc := 28) (k' := 0) (n' := 0) dX12_goes_28 lkX12_92 ⟨by decide, by decide⟩ (Nat.le_of_ble_eq_true rfl) rfl rfl ⟨by decide, by decide⟩ (by assumption) (c_X12_walkPart (j := 2) hM2 (by omega) ?_)
    dsimp only [gRt]
    rw [e1, upd_s]
    refine G_if_le (pc := 31) (tgt := 72) dX12_goes_31 (by decide) (fun h31 => ?_) (fun h31 => ?_)
    · refine G_aload_n (pc := 72) 0 dX12_goes_72 rfl ?_
      refine G_iload_n (pc := 73) 1 dX12_goes_73 rfl ?_
      refine G_iconst (pc := 74) (v := 3) dX12_goes_74 rfl ?_
      refine G_iconst (pc := 75) (v := 1) dX12_goes_75 rfl ?_
      refine gV3 (pc := 76) (k' := 0) (n' := 0) dX12_goes_76 lkX12_84 ⟨by decide, by decide⟩ (Nat.le_of_ble_eq_true rfl) rfl rfl ⟨by decide, by decide⟩ (by assumption) (c_X12_puts (j := 3) hM2 hA (by omega) ?_)
      dsimp only [gRt]
      refine G_iconst (pc := 79) (v := 0) dX12_goes_79 rfl ?_
      refine G_iret (pc := 80) dX12_goes_80 ⟨_, rfl, rfl⟩ ⟨by decide, by decide⟩ ?_
      exact hN (by rw [← hg]; exact gGoP_0) _ hi.put
    · exact absurd (by decide) h31
  | succ e ih =>
    intro kk i1 hk1 hk2 hi hg
    have e1 : i1 (m + 1) = _ := hi.2.2
    by_cases hk0n : kk = 0
    · subst hk0n
      refine G_aload_n (pc := 25) 0 dX12_goes_25 rfl ?_
      refine G_iload_n (pc := 26) 1 dX12_goes_26 rfl ?_
      refine G_iconst (pc := 27) (v := 2) dX12_goes_27 rfl ?_
      refine gV2 (pc := 28) (k' := 0) (n' := 0) dX12_goes_28 lkX12_92 ⟨by decide, by decide⟩ (Nat.le_of_ble_eq_true rfl) rfl rfl ⟨by decide, by decide⟩ (by assumption) (c_X12_walkPart (j := 2) hM2 (by omega) ?_)
      dsimp only [gRt]
      rw [e1, upd_s]
      refine G_if_le (pc := 31) (tgt := 72) dX12_goes_31 (by decide) (fun h31 => ?_) (fun h31 => ?_)
      · refine G_aload_n (pc := 72) 0 dX12_goes_72 rfl ?_
        refine G_iload_n (pc := 73) 1 dX12_goes_73 rfl ?_
        refine G_iconst (pc := 74) (v := 3) dX12_goes_74 rfl ?_
        refine G_iconst (pc := 75) (v := 1) dX12_goes_75 rfl ?_
        refine gV3 (pc := 76) (k' := 0) (n' := 0) dX12_goes_76 lkX12_84 ⟨by decide, by decide⟩ (Nat.le_of_ble_eq_true rfl) rfl rfl ⟨by decide, by decide⟩ (by assumption) (c_X12_puts (j := 3) hM2 hA (by omega) ?_)
        dsimp only [gRt]
        refine G_iconst (pc := 79) (v := 0) dX12_goes_79 rfl ?_
        refine G_iret (pc := 80) dX12_goes_80 ⟨_, rfl, rfl⟩ ⟨by decide, by decide⟩ ?_
        exact hN (by rw [← hg]; exact gGoP_0) _ hi.put
      · exact absurd (by decide) h31
    refine G_aload_n (pc := 25) 0 dX12_goes_25 rfl ?_
    refine G_iload_n (pc := 26) 1 dX12_goes_26 rfl ?_
    refine G_iconst (pc := 27) (v := 2) dX12_goes_27 rfl ?_
    refine gV2 (pc := 28) (k' := 0) (n' := 0) dX12_goes_28 lkX12_92 ⟨by decide, by decide⟩ (Nat.le_of_ble_eq_true rfl) rfl rfl ⟨by decide, by decide⟩ (by assumption) (c_X12_walkPart (j := 2) hM2 (by omega) ?_)
    dsimp only [gRt]
    rw [e1, upd_s]
    refine G_if_le (pc := 31) (tgt := 72) dX12_goes_31 (by decide) (fun h31 => ?_) (fun h31 => ?_)
    · exact absurd h31 (nI_nle (by omega) (by omega))
    · refine G_aload_n (pc := 34) 0 dX12_goes_34 rfl ?_
      refine G_iload_n (pc := 35) 1 dX12_goes_35 rfl ?_
      refine G_iload_n (pc := 36) 3 dX12_goes_36 rfl ?_
      refine G_iload (pc := 37) 4 dX12_goes_37 rfl ?_
      refine gV3 (pc := 39) (k' := 0) (n' := 0) dX12_goes_39 lkX12_107 ⟨by decide, by decide⟩ (Nat.le_of_ble_eq_true rfl) rfl rfl ⟨by decide, by decide⟩ (by assumption) (c_X12_tries (f := f) (p := p) (q := q) hM2 hA (by rw [e1]; exact hV2 kk) (by rw [e1, upd_o (by omega)]; exact hm) hm2 hk hR hx hy ?_ ?_)
      · intro hc i2 hi2
        rw [e1, upd_s, upd_o (by omega)] at hc
        have e2 : i2 (m + 1) = upd (i (m + 1)) (23 + 166 * k + 2) (nI kk) := (hi2.1 (m + 1) (by omega)).trans e1
        dsimp only [gRt]
        refine G_if_eq (pc := 42) (tgt := 55) dX12_goes_42 (by decide) (fun h42 => ?_) (fun h42 => ?_)
        · refine G_aload_n (pc := 55) 0 dX12_goes_55 rfl ?_
          refine G_iload_n (pc := 56) 1 dX12_goes_56 rfl ?_
          refine G_iconst (pc := 57) (v := 2) dX12_goes_57 rfl ?_
          refine G_aload_n (pc := 58) 0 dX12_goes_58 rfl ?_
          refine G_iload_n (pc := 59) 1 dX12_goes_59 rfl ?_
          refine G_iconst (pc := 60) (v := 2) dX12_goes_60 rfl ?_
          refine gV2 (pc := 61) (k' := 0) (n' := 0) dX12_goes_61 lkX12_92 ⟨by decide, by decide⟩ (Nat.le_of_ble_eq_true rfl) rfl rfl ⟨by decide, by decide⟩ (by assumption) (c_X12_walkPart (j := 2) hM2 (by omega) ?_)
          dsimp only [gRt]
          rw [e2, upd_s]
          refine G_iconst (pc := 64) (v := 2) dX12_goes_64 rfl ?_
          refine G_idiv (pc := 65) dX12_goes_65 (by decide) ?_
          rw [gl2, pk_div (by omega) (by decide) (by decide)]
          refine gV3 (pc := 66) (k' := 0) (n' := 0) dX12_goes_66 lkX12_84 ⟨by decide, by decide⟩ (Nat.le_of_ble_eq_true rfl) rfl rfl ⟨by decide, by decide⟩ (by assumption) (c_X12_puts (j := 2) hM2 hA (by omega) ?_)
          dsimp only [gRt]
          refine G_goto (pc := 69) (tgt := 25) dX12_goes_69 (by decide) ?_
          exact ih (kk / 2) _ (by omega) (by omega) (by have h := ((hi.cor hi2).put (a := 23 + 166 * k + 2) (x := nI (kk / 2))); rw [upd_u] at h; exact h) (by rw [← gGoP_n hk0n hc]; exact hg)
        · exact absurd rfl h42
      · intro c hc i2 hi2 e6 e7 e8
        rw [e1, upd_s, upd_o (by omega)] at hc
        have e2 : i2 (m + 1) = upd (i (m + 1)) (23 + 166 * k + 2) (nI kk) := (hi2.1 (m + 1) (by omega)).trans e1
        have hgo : gGoP (gTrR f p q n1 mm (i (m + 1) (23 + 166 * k + 6 + 4 * z + 0)) (i (m + 1) (23 + 166 * k + 6 + 4 * z + 1)) (i (m + 1) (23 + 166 * k + 1))) k0 k0 = some (kk, c) := by rw [← hg]; exact gGoP_s hk0n hc
        dsimp only [gRt]
        refine G_if_eq (pc := 42) (tgt := 55) dX12_goes_42 (by decide) (fun h42 => ?_) (fun h42 => ?_)
        · exact absurd h42 (by decide)
        · refine G_aload_n (pc := 45) 0 dX12_goes_45 rfl ?_
          refine G_iload_n (pc := 46) 1 dX12_goes_46 rfl ?_
          refine G_iload_n (pc := 47) 3 dX12_goes_47 rfl ?_
          refine G_iload (pc := 48) 4 dX12_goes_48 rfl ?_
          refine gV3 (pc := 50) (k' := 0) (n' := 0) dX12_goes_50 lkX12_110 ⟨by decide, by decide⟩ (Nat.le_of_ble_eq_true rfl) rfl rfl ⟨by decide, by decide⟩ (by assumption) (c_X12_arrives hM2 hA hk (n := z + 1) (by rw [e2, upd_o (by omega)]; exact hn) hz (by rw [e2]; exact hV2 kk) ?_)
          dsimp only [gRt]
          refine G_iconst (pc := 53) (v := 1) dX12_goes_53 rfl ?_
          refine G_iret (pc := 54) dX12_goes_54 ⟨_, rfl, rfl⟩ ⟨by decide, by decide⟩ ?_
          have hq := hS kk c hgo _ ((hi.cor hi2).row (H := goF f p q n1 (i (m + 1)) (23 + 166 * k) (z + 1) (i (m + 1) (23 + 166 * k + 6 + 4 * z + 0)) (i (m + 1) (23 + 166 * k + 6 + 4 * z + 1)) kk c))
          unfold goF at hq
          rw [e2, e6, e7, e8, upd_o (k := 23 + 166 * k + 2) (j := 23 + 166 * k + 1) (by omega)]
          exact hq

set_option maxRecDepth 100000 in
set_option maxHeartbeats 4000000 in
theorem c_X12_goes {Γ : gG} {T : gTy} {r : gR} {l : gLg} {i : gI} {Q : gQ} {m k z n1 mm k0 : Nat} {f : Nat → Int32} {p q : Nat → Nat} (hM : lyM T r m) (hA : gN Γ ≤ m) (hV : mv (i (m + 1)) n1 f p q) (hm : i (m + 1) 4 = nI mm) (hm2 : mm < 2 ^ 30) (hk : k < 5) (hR : gRk f p q n1) (hn : i (m + 1) (23 + 166 * k) = nI (z + 1)) (hz : z + 1 < 40) (hx : inB (i (m + 1) (23 + 166 * k + 6 + 4 * z + 0)).toInt64) (hy : inB (i (m + 1) (23 + 166 * k + 6 + 4 * z + 1)).toInt64) (h6 : i (m + 1) (23 + 166 * k + 2) = nI k0) (hk0 : k0 < 2 ^ 30)
  (hN : gGoP (gTrR f p q n1 mm (i (m + 1) (23 + 166 * k + 6 + 4 * z + 0)) (i (m + 1) (23 + 166 * k + 6 + 4 * z + 1)) (i (m + 1) (23 + 166 * k + 1))) k0 k0 = none → ∀ i', frN m i i' (upd (upd (i (m + 1)) (23 + 166 * k + 2) 0) (23 + 166 * k + 3) 1) → Q (some (.int 0)) T r l i')
  (hS : ∀ kk c, gGoP (gTrR f p q n1 mm (i (m + 1) (23 + 166 * k + 6 + 4 * z + 0)) (i (m + 1) (23 + 166 * k + 6 + 4 * z + 1)) (i (m + 1) (23 + 166 * k + 1))) k0 k0 = some (kk, c) → ∀ i', frN m i i' (goF f p q n1 (i (m + 1)) (23 + 166 * k) (z + 1) (i (m + 1) (23 + 166 * k + 6 + 4 * z + 0)) (i (m + 1) (23 + 166 * k + 6 + 4 * z + 1)) kk c) → Q (some (.int 1)) T r l i') : gC Γ MX12_goes [.ref m, .int (nI k)] T r l i Q := by
  have hM2 := hM
  obtain ⟨m0, m1, m2, m3, m4, m5, m6, m7, m8, m9, m10⟩ := hM
  refine gC_of rfl (Nat.le_of_ble_eq_true rfl) (L := [(0, .ref m), (1, .int (nI k))]) rfl ?_
  refine G_aload_n (pc := 0) 0 dX12_goes_0 rfl ?_
  refine G_iload_n (pc := 1) 1 dX12_goes_1 rfl ?_
  refine gV1 (pc := 2) (k' := 0) (n' := 0) dX12_goes_2 lkX12_80 ⟨by decide, by decide⟩ (Nat.le_of_ble_eq_true rfl) rfl rfl ⟨by decide, by decide⟩ (by assumption) (c_X12_places hM2 (by omega) ?_)
  dsimp only [gRt]
  rw [hn]
  refine G_iconst (pc := 5) (v := 1) dX12_goes_5 rfl ?_
  refine G_isub (pc := 6) dX12_goes_6 ?_
  rw [nI_pred]
  refine G_sn2 (pc := 7) (gSt_in dX12_goes_7 rfl (by decide)) rfl ?_
  refine G_aload_n (pc := 8) 0 dX12_goes_8 rfl ?_
  refine G_iload_n (pc := 9) 1 dX12_goes_9 rfl ?_
  refine G_iload_n (pc := 10) 2 dX12_goes_10 rfl ?_
  refine G_iconst (pc := 11) (v := 0) dX12_goes_11 rfl ?_
  refine gV3 (pc := 12) (k' := 0) (n' := 0) dX12_goes_12 lkX12_103 ⟨by decide, by decide⟩ (Nat.le_of_ble_eq_true rfl) rfl rfl ⟨by decide, by decide⟩ (by assumption) (c_X12_placePart (c := 0) hM2 (by omega) ?_)
  dsimp only [gRt]
  refine G_sn3 (pc := 15) (gSt_in dX12_goes_15 rfl (by decide)) rfl ?_
  refine G_aload_n (pc := 16) 0 dX12_goes_16 rfl ?_
  refine G_iload_n (pc := 17) 1 dX12_goes_17 rfl ?_
  refine G_iload_n (pc := 18) 2 dX12_goes_18 rfl ?_
  refine G_iconst (pc := 19) (v := 1) dX12_goes_19 rfl ?_
  refine gV3 (pc := 20) (k' := 0) (n' := 0) dX12_goes_20 lkX12_103 ⟨by decide, by decide⟩ (Nat.le_of_ble_eq_true rfl) rfl rfl ⟨by decide, by decide⟩ (by assumption) (c_X12_placePart (c := 1) hM2 (by omega) ?_)
  dsimp only [gRt]
  refine G_sn4 (pc := 23) (gSt_i dX12_goes_23 (by decide)) rfl ?_
  exact lp_X12_goes hM2 hA hV hm hm2 hk hR hn hz hx hy h6 hk0 hN hS k0 k0 i (Nat.le_refl _) hk0 (by rw [upd_id h6]; exact frN.rf) rfl

