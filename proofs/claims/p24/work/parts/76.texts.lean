/-! the law: types, reads -/
set_option maxRecDepth 100000 in
set_option maxHeartbeats 4000000 in
theorem lp_L_types_j {Γ : gG} {T : gTy} {r : gR} {l : gLg} {Q : gQ} {x n : Nat} {S : Nat → Int32} {P : Nat → Nat → Int32} {k m : Nat} {v y : Int32} (hA : gN Γ ≤ x) (hk : k < 4) (hK : ∀ tx ln i, ln ≤ 5 * (k + 1) → lwX T r i x S P n tx ln → G Γ ML_types 0 0 24 [(0, .ref x), (1, .int v), (2, .int (nI m)), (3, .int 1), (4, .int (nI (k + 1)))] [] T r l i Q) : ∀ d j tx ln i, j + d = 3 → ln ≤ 5 * k + 2 + j → lwX T r i x S P n tx ln → G Γ ML_types 0 0 157 [(0, .ref x), (1, .int v), (2, .int (nI m)), (3, .int 1), (4, .int (nI k)), (5, .int y), (6, .int (nI j))] [] T r l i Q := by
  intro d
  induction d with
  | zero =>
    intro j tx ln i hj hl hX
    obtain rfl : j = 3 := by omega
    refine G_iload (pc := 157) 6 dL_types_157 rfl ?_
    refine G_iconst (pc := 159) (v := 1) dL_types_159 rfl ?_
    refine G_iload (pc := 160) 5 dL_types_160 rfl ?_
    refine G_iconst (pc := 162) (v := 3) dL_types_162 rfl ?_
    refine G_ishr (pc := 163) dL_types_163 ?_
    refine G_iconst (pc := 164) (v := 3) dL_types_164 rfl ?_
    refine gS2 (pc := 165) (k' := 0) (n' := 0) dL_types_165 lkL_36 ⟨by decide, by decide⟩ (Nat.le_of_ble_eq_true rfl) rfl rfl ⟨by decide, by decide⟩ (c_L_low (m := 3) (by decide) (by decide) ?_)
    intro u hu
    dsimp only [gRt]
    refine G_iadd (pc := 168) dL_types_168 ?_
    rw [show (1 : Int32) + nI u = nI (1 + u) from nI_add 1 u]
    refine G_icmp_ge (pc := 169) (tgt := 214) dL_types_169 (by decide) (fun h169 => ?_) (fun h169 => ?_)
    · refine G_inc4 (pc := 214) (v := 1) dL_types_214 rfl (by decide) rfl ?_
      refine G_goto (pc := 217) (tgt := 24) dL_types_217 (by decide) ?_
      refine G_drop6 ?_
      refine G_drop5 ?_
      rw [nI_1]
      exact hK tx ln i (by omega) hX
    · exact absurd (nI_le (by omega) (by decide)) h169
  | succ d ih =>
    intro j tx ln i hj hl hX
    refine G_iload (pc := 157) 6 dL_types_157 rfl ?_
    refine G_iconst (pc := 159) (v := 1) dL_types_159 rfl ?_
    refine G_iload (pc := 160) 5 dL_types_160 rfl ?_
    refine G_iconst (pc := 162) (v := 3) dL_types_162 rfl ?_
    refine G_ishr (pc := 163) dL_types_163 ?_
    refine G_iconst (pc := 164) (v := 3) dL_types_164 rfl ?_
    refine gS2 (pc := 165) (k' := 0) (n' := 0) dL_types_165 lkL_36 ⟨by decide, by decide⟩ (Nat.le_of_ble_eq_true rfl) rfl rfl ⟨by decide, by decide⟩ (c_L_low (m := 3) (by decide) (by decide) ?_)
    intro u hu
    dsimp only [gRt]
    refine G_iadd (pc := 168) dL_types_168 ?_
    rw [show (1 : Int32) + nI u = nI (1 + u) from nI_add 1 u]
    refine G_icmp_ge (pc := 169) (tgt := 214) dL_types_169 (by decide) (fun h169 => ?_) (fun h169 => ?_)
    · refine G_inc4 (pc := 214) (v := 1) dL_types_214 rfl (by decide) rfl ?_
      refine G_goto (pc := 217) (tgt := 24) dL_types_217 (by decide) ?_
      refine G_drop6 ?_
      refine G_drop5 ?_
      rw [nI_1]
      exact hK tx ln i (by omega) hX
    · refine G_iload_n (pc := 172) 3 dL_types_172 rfl ?_
      refine G_if_eq (pc := 173) (tgt := 206) dL_types_173 (by decide) (fun h173 => ?_) (fun h173 => ?_)
      · exact absurd h173 (by decide)
      · refine G_aload_n (pc := 176) 0 dL_types_176 rfl ?_
        refine G_iload (pc := 177) 5 dL_types_177 rfl ?_
        refine G_iload (pc := 179) 6 dL_types_179 rfl ?_
        refine G_ishr (pc := 181) dL_types_181 ?_
        refine G_iconst (pc := 182) (v := 2) dL_types_182 rfl ?_
        refine gS2 (pc := 183) (k' := 0) (n' := 0) dL_types_183 lkL_36 ⟨by decide, by decide⟩ (Nat.le_of_ble_eq_true rfl) rfl rfl ⟨by decide, by decide⟩ (c_L_low (m := 2) (by decide) (by decide) ?_)
        intro w hw
        dsimp only [gRt]
        refine G_if_ne (pc := 186) (tgt := 194) dL_types_186 (by decide) (fun h186 => ?_) (fun h186 => ?_)
        · have hc : inI (121 : Int32) 32 126 := by decide
          refine G_bipush (pc := 194) (v := 121) dL_types_194 rfl ?_
          refine gV1 (pc := 196) (k' := 0) (n' := 0) dL_types_196 lkL_52 ⟨by decide, by decide⟩ (Nat.le_of_ble_eq_true rfl) rfl rfl ⟨by decide, by decide⟩ hX.k (q_type hA hX hc (by omega) ?_)
          intro i tx hX
          dsimp only [gRt]
          refine G_if_le (pc := 199) (tgt := 206) dL_types_199 (by decide) (fun h199 => ?_) (fun h199 => ?_)
          · exact absurd h199 (nI_nle (by omega) (by omega))
          · refine G_iconst (pc := 202) (v := 1) dL_types_202 rfl ?_
            refine G_goto (pc := 203) (tgt := 207) dL_types_203 (by decide) ?_
            refine G_st3 (pc := 207) (gSt_in dL_types_207 rfl (by decide)) rfl ?_
            refine G_inc6 (pc := 208) (v := 1) dL_types_208 rfl (by decide) rfl ?_
            refine G_goto (pc := 211) (tgt := 157) dL_types_211 (by decide) ?_
            rw [nI_1]
            exact ih (j + 1) tx (ln + 1) i (by omega) (by omega) hX
        · have hc : inI (120 : Int32) 32 126 := by decide
          refine G_bipush (pc := 189) (v := 120) dL_types_189 rfl ?_
          refine G_goto (pc := 191) (tgt := 196) dL_types_191 (by decide) ?_
          refine gV1 (pc := 196) (k' := 0) (n' := 0) dL_types_196 lkL_52 ⟨by decide, by decide⟩ (Nat.le_of_ble_eq_true rfl) rfl rfl ⟨by decide, by decide⟩ hX.k (q_type hA hX hc (by omega) ?_)
          intro i tx hX
          dsimp only [gRt]
          refine G_if_le (pc := 199) (tgt := 206) dL_types_199 (by decide) (fun h199 => ?_) (fun h199 => ?_)
          · exact absurd h199 (nI_nle (by omega) (by omega))
          · refine G_iconst (pc := 202) (v := 1) dL_types_202 rfl ?_
            refine G_goto (pc := 203) (tgt := 207) dL_types_203 (by decide) ?_
            refine G_st3 (pc := 207) (gSt_in dL_types_207 rfl (by decide)) rfl ?_
            refine G_inc6 (pc := 208) (v := 1) dL_types_208 rfl (by decide) rfl ?_
            refine G_goto (pc := 211) (tgt := 157) dL_types_211 (by decide) ?_
            rw [nI_1]
            exact ih (j + 1) tx (ln + 1) i (by omega) (by omega) hX

set_option maxRecDepth 100000 in
set_option maxHeartbeats 4000000 in
theorem t_L_types_153 {Γ : gG} {T : gTy} {r : gR} {l : gLg} {i : gI} {Q : gQ} {x n : Nat} {S : Nat → Int32} {P : Nat → Nat → Int32} {k m ln : Nat} {v y : Int32} {tx : Nat → Int32} (hA : gN Γ ≤ x) (hk : k < 4) (hK : ∀ tx ln i, ln ≤ 5 * (k + 1) → lwX T r i x S P n tx ln → G Γ ML_types 0 0 24 [(0, .ref x), (1, .int v), (2, .int (nI m)), (3, .int 1), (4, .int (nI (k + 1)))] [] T r l i Q) (hl : ln ≤ 5 * k + 2) (hX : lwX T r i x S P n tx ln) : G Γ ML_types 0 0 153 [(0, .ref x), (1, .int v), (2, .int (nI m)), (3, .int 1), (4, .int (nI k)), (5, .int y)] [.int 1] T r l i Q := by
  refine G_st3 (pc := 153) (gSt_in dL_types_153 rfl (by decide)) rfl ?_
  refine G_iconst (pc := 154) (v := 0) dL_types_154 rfl ?_
  refine G_sn6 (pc := 155) (gSt_i dL_types_155 (by decide)) rfl ?_
  exact lp_L_types_j hA hk hK 3 0 tx ln i rfl (by omega) hX

set_option maxRecDepth 100000 in
set_option maxHeartbeats 4000000 in
theorem t_L_types_97 {Γ : gG} {T : gTy} {r : gR} {l : gLg} {i : gI} {Q : gQ} {x n : Nat} {S : Nat → Int32} {P : Nat → Nat → Int32} {k m ln : Nat} {v y : Int32} {tx : Nat → Int32} (hA : gN Γ ≤ x) (hk : k < 4) (hK : ∀ tx ln i, ln ≤ 5 * (k + 1) → lwX T r i x S P n tx ln → G Γ ML_types 0 0 24 [(0, .ref x), (1, .int v), (2, .int (nI m)), (3, .int 1), (4, .int (nI (k + 1)))] [] T r l i Q) (hl : ln ≤ 5 * k + 1) (hX : lwX T r i x S P n tx ln) : G Γ ML_types 0 0 97 [(0, .ref x), (1, .int v), (2, .int (nI m)), (3, .int 1), (4, .int (nI k)), (5, .int y)] [.int 1] T r l i Q := by
  refine G_st3 (pc := 97) (gSt_in dL_types_97 rfl (by decide)) rfl ?_
  refine G_iload_n (pc := 98) 3 dL_types_98 rfl ?_
  refine G_if_eq (pc := 99) (tgt := 152) dL_types_99 (by decide) (fun h99 => ?_) (fun h99 => ?_)
  · exact absurd h99 (by decide)
  · refine G_iload (pc := 102) 5 dL_types_102 rfl ?_
    refine G_iconst (pc := 104) (v := 1) dL_types_104 rfl ?_
    refine G_ishr (pc := 105) dL_types_105 ?_
    refine G_iconst (pc := 106) (v := 3) dL_types_106 rfl ?_
    refine gS2 (pc := 107) (k' := 0) (n' := 0) dL_types_107 lkL_36 ⟨by decide, by decide⟩ (Nat.le_of_ble_eq_true rfl) rfl rfl ⟨by decide, by decide⟩ (c_L_low (m := 3) (by decide) (by decide) ?_)
    intro u hu
    dsimp only [gRt]
    refine G_if_eq (pc := 110) (tgt := 148) dL_types_110 (by decide) (fun h110 => ?_) (fun h110 => ?_)
    · refine G_iconst (pc := 148) (v := 1) dL_types_148 rfl ?_
      refine G_goto (pc := 149) (tgt := 153) dL_types_149 (by decide) ?_
      exact t_L_types_153 hA hk hK (by omega) hX
    · refine G_aload_n (pc := 113) 0 dL_types_113 rfl ?_
      refine G_bipush (pc := 114) (v := 49) dL_types_114 rfl ?_
      refine G_iload (pc := 116) 5 dL_types_116 rfl ?_
      refine G_iconst (pc := 118) (v := 2) dL_types_118 rfl ?_
      refine G_ishr (pc := 119) dL_types_119 ?_
      refine G_iload_n (pc := 120) 1 dL_types_120 rfl ?_
      refine G_bipush (pc := 121) (v := 25) dL_types_121 rfl ?_
      refine G_ishr (pc := 123) dL_types_123 ?_
      refine G_bipush (pc := 124) (v := 9) dL_types_124 rfl ?_
      refine gS2 (pc := 126) (k' := 0) (n' := 0) dL_types_126 lkL_36 ⟨by decide, by decide⟩ (Nat.le_of_ble_eq_true rfl) rfl rfl ⟨by decide, by decide⟩ (c_L_low (m := 9) (by decide) (by decide) ?_)
      intro w hw
      dsimp only [gRt]
      refine G_if_ne (pc := 129) (tgt := 137) dL_types_129 (by decide) (fun h129 => ?_) (fun h129 => ?_)
      · refine G_iconst (pc := 137) (v := 5) dL_types_137 rfl ?_
        refine gS2 (pc := 138) (k' := 0) (n' := 0) dL_types_138 lkL_36 ⟨by decide, by decide⟩ (Nat.le_of_ble_eq_true rfl) rfl rfl ⟨by decide, by decide⟩ (c_L_low (m := 5) (by decide) (by decide) ?_)
        intro g hg
        dsimp only [gRt]
        refine G_iadd (pc := 141) dL_types_141 ?_
        rw [show (49 : Int32) + nI g = nI (49 + g) from nI_add 49 g]
        refine gV1 (pc := 142) (k' := 0) (n' := 0) dL_types_142 lkL_52 ⟨by decide, by decide⟩ (Nat.le_of_ble_eq_true rfl) rfl rfl ⟨by decide, by decide⟩ hX.k (q_type hA hX (inI_of (a := 32) (b := 126) (by omega) (by omega) (by decide)) (by omega) ?_)
        intro i tx hX
        dsimp only [gRt]
        refine G_if_le (pc := 145) (tgt := 152) dL_types_145 (by decide) (fun h145 => ?_) (fun h145 => ?_)
        · exact absurd h145 (nI_nle (by omega) (by omega))
        · refine G_iconst (pc := 148) (v := 1) dL_types_148 rfl ?_
          refine G_goto (pc := 149) (tgt := 153) dL_types_149 (by decide) ?_
          exact t_L_types_153 hA hk hK (by omega) hX
      · refine G_bipush (pc := 132) (v := 6) dL_types_132 rfl ?_
        refine G_goto (pc := 134) (tgt := 138) dL_types_134 (by decide) ?_
        refine gS2 (pc := 138) (k' := 0) (n' := 0) dL_types_138 lkL_36 ⟨by decide, by decide⟩ (Nat.le_of_ble_eq_true rfl) rfl rfl ⟨by decide, by decide⟩ (c_L_low (m := 6) (by decide) (by decide) ?_)
        intro g hg
        dsimp only [gRt]
        refine G_iadd (pc := 141) dL_types_141 ?_
        rw [show (49 : Int32) + nI g = nI (49 + g) from nI_add 49 g]
        refine gV1 (pc := 142) (k' := 0) (n' := 0) dL_types_142 lkL_52 ⟨by decide, by decide⟩ (Nat.le_of_ble_eq_true rfl) rfl rfl ⟨by decide, by decide⟩ hX.k (q_type hA hX (inI_of (a := 32) (b := 126) (by omega) (by omega) (by decide)) (by omega) ?_)
        intro i tx hX
        dsimp only [gRt]
        refine G_if_le (pc := 145) (tgt := 152) dL_types_145 (by decide) (fun h145 => ?_) (fun h145 => ?_)
        · exact absurd h145 (nI_nle (by omega) (by omega))
        · refine G_iconst (pc := 148) (v := 1) dL_types_148 rfl ?_
          refine G_goto (pc := 149) (tgt := 153) dL_types_149 (by decide) ?_
          exact t_L_types_153 hA hk hK (by omega) hX

set_option maxRecDepth 100000 in
set_option maxHeartbeats 4000000 in
theorem lp_L_types {Γ : gG} {T : gTy} {r : gR} {l : gLg} {Q : gQ} {x n : Nat} {S : Nat → Int32} {P : Nat → Nat → Int32} {m : Nat} {v : Int32} (hA : gN Γ ≤ x) (hm : m ≤ 4) (hQ : ∀ i' tx' ln', ln' < 60 → lwX T r i' x S P n tx' ln' → Q (some (.int 1)) T r l i') : ∀ d k tx ln i, k + d = m → ln ≤ 5 * k → lwX T r i x S P n tx ln → G Γ ML_types 0 0 24 [(0, .ref x), (1, .int v), (2, .int (nI m)), (3, .int 1), (4, .int (nI k))] [] T r l i Q := by
  intro d
  induction d with
  | zero =>
    intro k tx ln i hk hl hX
    obtain rfl : k = m := by omega
    refine G_iload (pc := 24) 4 dL_types_24 rfl ?_
    refine G_iload_n (pc := 26) 2 dL_types_26 rfl ?_
    refine G_icmp_ge (pc := 27) (tgt := 220) dL_types_27 (by decide) (fun h27 => ?_) (fun h27 => ?_)
    · refine G_iload_n (pc := 220) 3 dL_types_220 rfl ?_
      refine G_if_eq (pc := 221) (tgt := 249) dL_types_221 (by decide) (fun h221 => ?_) (fun h221 => ?_)
      · exact absurd h221 (by decide)
      · refine G_iload_n (pc := 224) 1 dL_types_224 rfl ?_
        refine G_bipush (pc := 225) (v := 22) dL_types_225 rfl ?_
        refine G_ishr (pc := 227) dL_types_227 ?_
        refine G_bipush (pc := 228) (v := 8) dL_types_228 rfl ?_
        refine gS2 (pc := 230) (k' := 0) (n' := 0) dL_types_230 lkL_36 ⟨by decide, by decide⟩ (Nat.le_of_ble_eq_true rfl) rfl rfl ⟨by decide, by decide⟩ (c_L_low (m := 8) (by decide) (by decide) ?_)
        intro u hu
        dsimp only [gRt]
        refine G_if_gt (pc := 233) (tgt := 245) dL_types_233 (by decide) (fun h233 => ?_) (fun h233 => ?_)
        · refine G_iconst (pc := 245) (v := 1) dL_types_245 rfl ?_
          refine G_goto (pc := 246) (tgt := 250) dL_types_246 (by decide) ?_
          refine G_iret (pc := 250) dL_types_250 ⟨_, rfl, rfl⟩ ⟨by decide, by decide⟩ ?_
          exact hQ i tx _ (by omega) hX
        · refine G_aload_n (pc := 236) 0 dL_types_236 rfl ?_
          refine G_bipush (pc := 237) (v := 43) dL_types_237 rfl ?_
          refine gV1 (pc := 239) (k' := 0) (n' := 0) dL_types_239 lkL_52 ⟨by decide, by decide⟩ (Nat.le_of_ble_eq_true rfl) rfl rfl ⟨by decide, by decide⟩ hX.k (q_type hA hX (by decide) (by omega) ?_)
          intro i tx hX
          dsimp only [gRt]
          refine G_if_le (pc := 242) (tgt := 249) dL_types_242 (by decide) (fun h242 => ?_) (fun h242 => ?_)
          · exact absurd h242 (nI_nle (by omega) (by omega))
          · refine G_iconst (pc := 245) (v := 1) dL_types_245 rfl ?_
            refine G_goto (pc := 246) (tgt := 250) dL_types_246 (by decide) ?_
            refine G_iret (pc := 250) dL_types_250 ⟨_, rfl, rfl⟩ ⟨by decide, by decide⟩ ?_
            exact hQ i tx _ (by omega) hX
    · exact absurd (nI_le (by omega) (by omega)) h27
  | succ d ih =>
    intro k tx ln i hk hl hX
    refine G_iload (pc := 24) 4 dL_types_24 rfl ?_
    refine G_iload_n (pc := 26) 2 dL_types_26 rfl ?_
    refine G_icmp_ge (pc := 27) (tgt := 220) dL_types_27 (by decide) (fun h27 => ?_) (fun h27 => ?_)
    · exact absurd h27 (nI_ge (by omega) (by omega))
    · refine G_iload_n (pc := 30) 1 dL_types_30 rfl ?_
      refine G_iconst (pc := 31) (v := 2) dL_types_31 rfl ?_
      refine G_bipush (pc := 32) (v := 6) dL_types_32 rfl ?_
      refine G_iload (pc := 34) 4 dL_types_34 rfl ?_
      refine G_imul (pc := 36) dL_types_36 ?_
      refine G_iadd (pc := 37) dL_types_37 ?_
      refine G_ishr (pc := 38) dL_types_38 ?_
      refine G_sn5 (pc := 39) (gSt_i dL_types_39 (by decide)) rfl ?_
      refine G_iload_n (pc := 41) 3 dL_types_41 rfl ?_
      refine G_if_eq (pc := 42) (tgt := 96) dL_types_42 (by decide) (fun h42 => ?_) (fun h42 => ?_)
      · exact absurd h42 (by decide)
      · refine G_iload (pc := 45) 4 dL_types_45 rfl ?_
        refine G_if_ne (pc := 47) (tgt := 59) dL_types_47 (by decide) (fun h47 => ?_) (fun h47 => ?_)
        · refine G_aload_n (pc := 59) 0 dL_types_59 rfl ?_
          refine G_iload (pc := 60) 5 dL_types_60 rfl ?_
          refine G_iconst (pc := 62) (v := 3) dL_types_62 rfl ?_
          refine gS2 (pc := 63) (k' := 0) (n' := 0) dL_types_63 lkL_36 ⟨by decide, by decide⟩ (Nat.le_of_ble_eq_true rfl) rfl rfl ⟨by decide, by decide⟩ (c_L_low (m := 3) (by decide) (by decide) ?_)
          intro w hw
          dsimp only [gRt]
          refine G_if_ne (pc := 66) (tgt := 74) dL_types_66 (by decide) (fun h66 => ?_) (fun h66 => ?_)
          · refine G_iload (pc := 74) 4 dL_types_74 rfl ?_
            refine G_if_ne (pc := 76) (tgt := 84) dL_types_76 (by decide) (fun h76 => ?_) (fun h76 => ?_)
            · refine G_bipush (pc := 84) (v := 43) dL_types_84 rfl ?_
              refine gV1 (pc := 86) (k' := 0) (n' := 0) dL_types_86 lkL_52 ⟨by decide, by decide⟩ (Nat.le_of_ble_eq_true rfl) rfl rfl ⟨by decide, by decide⟩ hX.k (q_type hA hX (by decide) (by omega) ?_)
              intro i tx hX
              dsimp only [gRt]
              refine G_if_le (pc := 89) (tgt := 96) dL_types_89 (by decide) (fun h89 => ?_) (fun h89 => ?_)
              · exact absurd h89 (nI_nle (by omega) (by omega))
              · refine G_iconst (pc := 92) (v := 1) dL_types_92 rfl ?_
                refine G_goto (pc := 93) (tgt := 97) dL_types_93 (by decide) ?_
                exact t_L_types_97 hA (by omega) (fun tx ln i hl hX => ih (k + 1) tx ln i (by omega) (by omega) hX) (by omega) hX
            · refine G_bipush (pc := 79) (v := 45) dL_types_79 rfl ?_
              refine G_goto (pc := 81) (tgt := 86) dL_types_81 (by decide) ?_
              refine gV1 (pc := 86) (k' := 0) (n' := 0) dL_types_86 lkL_52 ⟨by decide, by decide⟩ (Nat.le_of_ble_eq_true rfl) rfl rfl ⟨by decide, by decide⟩ hX.k (q_type hA hX (by decide) (by omega) ?_)
              intro i tx hX
              dsimp only [gRt]
              refine G_if_le (pc := 89) (tgt := 96) dL_types_89 (by decide) (fun h89 => ?_) (fun h89 => ?_)
              · exact absurd h89 (nI_nle (by omega) (by omega))
              · refine G_iconst (pc := 92) (v := 1) dL_types_92 rfl ?_
                refine G_goto (pc := 93) (tgt := 97) dL_types_93 (by decide) ?_
                exact t_L_types_97 hA (by omega) (fun tx ln i hl hX => ih (k + 1) tx ln i (by omega) (by omega) hX) (by omega) hX
          · refine G_bipush (pc := 69) (v := 45) dL_types_69 rfl ?_
            refine G_goto (pc := 71) (tgt := 86) dL_types_71 (by decide) ?_
            refine gV1 (pc := 86) (k' := 0) (n' := 0) dL_types_86 lkL_52 ⟨by decide, by decide⟩ (Nat.le_of_ble_eq_true rfl) rfl rfl ⟨by decide, by decide⟩ hX.k (q_type hA hX (by decide) (by omega) ?_)
            intro i tx hX
            dsimp only [gRt]
            refine G_if_le (pc := 89) (tgt := 96) dL_types_89 (by decide) (fun h89 => ?_) (fun h89 => ?_)
            · exact absurd h89 (nI_nle (by omega) (by omega))
            · refine G_iconst (pc := 92) (v := 1) dL_types_92 rfl ?_
              refine G_goto (pc := 93) (tgt := 97) dL_types_93 (by decide) ?_
              exact t_L_types_97 hA (by omega) (fun tx ln i hl hX => ih (k + 1) tx ln i (by omega) (by omega) hX) (by omega) hX
        · refine G_iload (pc := 50) 5 dL_types_50 rfl ?_
          refine G_iconst (pc := 52) (v := 2) dL_types_52 rfl ?_
          refine gS2 (pc := 53) (k' := 0) (n' := 0) dL_types_53 lkL_36 ⟨by decide, by decide⟩ (Nat.le_of_ble_eq_true rfl) rfl rfl ⟨by decide, by decide⟩ (c_L_low (m := 2) (by decide) (by decide) ?_)
          intro u hu
          dsimp only [gRt]
          refine G_if_eq (pc := 56) (tgt := 92) dL_types_56 (by decide) (fun h56 => ?_) (fun h56 => ?_)
          · refine G_iconst (pc := 92) (v := 1) dL_types_92 rfl ?_
            refine G_goto (pc := 93) (tgt := 97) dL_types_93 (by decide) ?_
            exact t_L_types_97 hA (by omega) (fun tx ln i hl hX => ih (k + 1) tx ln i (by omega) (by omega) hX) (by omega) hX
          · refine G_aload_n (pc := 59) 0 dL_types_59 rfl ?_
            refine G_iload (pc := 60) 5 dL_types_60 rfl ?_
            refine G_iconst (pc := 62) (v := 3) dL_types_62 rfl ?_
            refine gS2 (pc := 63) (k' := 0) (n' := 0) dL_types_63 lkL_36 ⟨by decide, by decide⟩ (Nat.le_of_ble_eq_true rfl) rfl rfl ⟨by decide, by decide⟩ (c_L_low (m := 3) (by decide) (by decide) ?_)
            intro w hw
            dsimp only [gRt]
            refine G_if_ne (pc := 66) (tgt := 74) dL_types_66 (by decide) (fun h66 => ?_) (fun h66 => ?_)
            · refine G_iload (pc := 74) 4 dL_types_74 rfl ?_
              refine G_if_ne (pc := 76) (tgt := 84) dL_types_76 (by decide) (fun h76 => ?_) (fun h76 => ?_)
              · refine G_bipush (pc := 84) (v := 43) dL_types_84 rfl ?_
                refine gV1 (pc := 86) (k' := 0) (n' := 0) dL_types_86 lkL_52 ⟨by decide, by decide⟩ (Nat.le_of_ble_eq_true rfl) rfl rfl ⟨by decide, by decide⟩ hX.k (q_type hA hX (by decide) (by omega) ?_)
                intro i tx hX
                dsimp only [gRt]
                refine G_if_le (pc := 89) (tgt := 96) dL_types_89 (by decide) (fun h89 => ?_) (fun h89 => ?_)
                · exact absurd h89 (nI_nle (by omega) (by omega))
                · refine G_iconst (pc := 92) (v := 1) dL_types_92 rfl ?_
                  refine G_goto (pc := 93) (tgt := 97) dL_types_93 (by decide) ?_
                  exact t_L_types_97 hA (by omega) (fun tx ln i hl hX => ih (k + 1) tx ln i (by omega) (by omega) hX) (by omega) hX
              · refine G_bipush (pc := 79) (v := 45) dL_types_79 rfl ?_
                refine G_goto (pc := 81) (tgt := 86) dL_types_81 (by decide) ?_
                refine gV1 (pc := 86) (k' := 0) (n' := 0) dL_types_86 lkL_52 ⟨by decide, by decide⟩ (Nat.le_of_ble_eq_true rfl) rfl rfl ⟨by decide, by decide⟩ hX.k (q_type hA hX (by decide) (by omega) ?_)
                intro i tx hX
                dsimp only [gRt]
                refine G_if_le (pc := 89) (tgt := 96) dL_types_89 (by decide) (fun h89 => ?_) (fun h89 => ?_)
                · exact absurd h89 (nI_nle (by omega) (by omega))
                · refine G_iconst (pc := 92) (v := 1) dL_types_92 rfl ?_
                  refine G_goto (pc := 93) (tgt := 97) dL_types_93 (by decide) ?_
                  exact t_L_types_97 hA (by omega) (fun tx ln i hl hX => ih (k + 1) tx ln i (by omega) (by omega) hX) (by omega) hX
            · refine G_bipush (pc := 69) (v := 45) dL_types_69 rfl ?_
              refine G_goto (pc := 71) (tgt := 86) dL_types_71 (by decide) ?_
              refine gV1 (pc := 86) (k' := 0) (n' := 0) dL_types_86 lkL_52 ⟨by decide, by decide⟩ (Nat.le_of_ble_eq_true rfl) rfl rfl ⟨by decide, by decide⟩ hX.k (q_type hA hX (by decide) (by omega) ?_)
              intro i tx hX
              dsimp only [gRt]
              refine G_if_le (pc := 89) (tgt := 96) dL_types_89 (by decide) (fun h89 => ?_) (fun h89 => ?_)
              · exact absurd h89 (nI_nle (by omega) (by omega))
              · refine G_iconst (pc := 92) (v := 1) dL_types_92 rfl ?_
                refine G_goto (pc := 93) (tgt := 97) dL_types_93 (by decide) ?_
                exact t_L_types_97 hA (by omega) (fun tx ln i hl hX => ih (k + 1) tx ln i (by omega) (by omega) hX) (by omega) hX

set_option maxRecDepth 100000 in
set_option maxHeartbeats 4000000 in
theorem c_L_types {Γ : gG} {T : gTy} {r : gR} {l : gLg} {i : gI} {Q : gQ} {x n ln : Nat} {S : Nat → Int32} {P : Nat → Nat → Int32} {tx : Nat → Int32} {v : Int32} (hA : gN Γ ≤ x) (hX : lwX T r i x S P n tx ln) (hQ : ∀ i' tx' ln', ln' < 60 → lwX T r i' x S P n tx' ln' → Q (some (.int 1)) T r l i') : gC Γ ML_types [.ref x, .int v] T r l i Q := by
  have hX0 := hX
  refine gC_of rfl (Nat.le_of_ble_eq_true rfl) (L := [(0, .ref x), (1, .int v)]) rfl ?_
  refine G_iconst (pc := 0) (v := 1) dL_types_0 rfl ?_
  refine G_iload_n (pc := 1) 1 dL_types_1 rfl ?_
  refine G_iconst (pc := 2) (v := 4) dL_types_2 rfl ?_
  refine gS2 (pc := 3) (k' := 0) (n' := 0) dL_types_3 lkL_36 ⟨by decide, by decide⟩ (Nat.le_of_ble_eq_true rfl) rfl rfl ⟨by decide, by decide⟩ (c_L_low (m := 4) (by decide) (by decide) ?_)
  intro u hu
  dsimp only [gRt]
  refine G_iadd (pc := 6) dL_types_6 ?_
  rw [show (1 : Int32) + nI u = nI (1 + u) from nI_add 1 u]
  refine G_sn2 (pc := 7) (gSt_in dL_types_7 rfl (by decide)) rfl ?_
  refine G_aload_n (pc := 8) 0 dL_types_8 rfl ?_
  refine gV0 (pc := 9) (k' := 0) (n' := 0) dL_types_9 lkL_48 ⟨by decide, by decide⟩ (Nat.le_of_ble_eq_true rfl) rfl rfl ⟨by decide, by decide⟩ hX.k (q_clearText hA hX ?_)
  intro i hX
  dsimp only [gRt]
  refine G_if_lt (pc := 12) (tgt := 19) dL_types_12 (by decide) (fun h12 => ?_) (fun h12 => ?_)
  · exact absurd h12 (nI_pos (by have := hX0.v.2.2.2; omega))
  · refine G_iconst (pc := 15) (v := 1) dL_types_15 rfl ?_
    refine G_goto (pc := 16) (tgt := 20) dL_types_16 (by decide) ?_
    refine G_sn3 (pc := 20) (gSt_in dL_types_20 rfl (by decide)) rfl ?_
    refine G_iconst (pc := 21) (v := 0) dL_types_21 rfl ?_
    refine G_sn4 (pc := 22) (gSt_i dL_types_22 (by decide)) rfl ?_
    exact lp_L_types hA (by omega) hQ (1 + u) 0 tx 0 i (by omega) (Nat.zero_le _) hX

set_option maxRecDepth 100000 in
set_option maxHeartbeats 4000000 in
theorem c_L_reads {Γ : gG} {T : gTy} {r : gR} {l : gLg} {i : gI} {Q : gQ} {x n ln : Nat} {S : Nat → Int32} {P : Nat → Nat → Int32} {tx : Nat → Int32} (hA : gN Γ ≤ x) (hX : lwX T r i x S P n tx ln) (hQ : ∀ r' l' i', lwX T r' i' x (nxS S (aRead tx ln S).2) (nxP n P S (aRead tx ln S).2) (nxN n (aRead tx ln S).2) tx ln → Q (some (.int 1)) T r' l' i') : gC Γ ML_reads [.ref x] T r l i Q := by
  have hl60 := hX.v.2.2.2
  obtain ⟨⟨m, m1, m6, em⟩, hp, hr⟩ := rfAll_f (tx := tx) (ln := ln) (S := S)
  have eC6 : ∀ S' n', aCount S' n' ln 6 = nI ln := fun _ _ => rfl
  refine gC_of rfl (Nat.le_of_ble_eq_true rfl) (L := [(0, .ref x)]) rfl ?_
  by_cases hb : (rfAll tx ln S).1 = true
  · have f0 : aFault tx ln S 0 = -1000004 := by unfold aFault; rw [if_pos (by decide), if_pos hb]
    have f1 : aFault tx ln S 1 = -1000004 := by unfold aFault; rw [if_pos (by decide), if_pos hb]
    have eR : (aRead tx ln S).1 = nI m := by unfold aRead; rw [if_pos hb]; exact em
    have eS : nxS S (aRead tx ln S).2 = (rfAll tx ln S).2.2.2 := by unfold aRead; rw [if_pos hb]; rfl
    have eC0 : ∀ n', aCount (nxS S (aRead tx ln S).2) n' ln 0 = nI m := fun n' => by rw [eS]; exact em
    have eC1 : ∀ n', aCount (nxS S (aRead tx ln S).2) n' ln 1 = 0 := fun n' => by rw [eS]; exact rfAll_4.1
    refine G_aload_n (pc := 0) 0 dL_reads_0 rfl ?_
    refine G_iconst (pc := 1) (v := 0) dL_reads_1 rfl ?_
    refine gV1 (pc := 2) (k' := 0) (n' := 0) dL_reads_2 lkL_55 ⟨by decide, by decide⟩ (Nat.le_of_ble_eq_true rfl) rfl rfl ⟨by decide, by decide⟩ hX.k (q_fault hA hX ?_)
    intro i hX
    dsimp only [gRt]
    rw [f0]
    refine G_sn1 (pc := 5) (gSt_in dL_reads_5 rfl (by decide)) rfl ?_
    refine G_aload_n (pc := 6) 0 dL_reads_6 rfl ?_
    refine G_iconst (pc := 7) (v := 1) dL_reads_7 rfl ?_
    refine gV1 (pc := 8) (k' := 0) (n' := 0) dL_reads_8 lkL_55 ⟨by decide, by decide⟩ (Nat.le_of_ble_eq_true rfl) rfl rfl ⟨by decide, by decide⟩ hX.k (q_fault hA hX ?_)
    intro i hX
    dsimp only [gRt]
    rw [f1]
    refine G_sn2 (pc := 11) (gSt_in dL_reads_11 rfl (by decide)) rfl ?_
    refine G_aload_n (pc := 12) 0 dL_reads_12 rfl ?_
    refine G_bipush (pc := 13) (v := 6) dL_reads_13 rfl ?_
    refine gV1 (pc := 15) (k' := 0) (n' := 0) dL_reads_15 lkL_13 ⟨by decide, by decide⟩ (Nat.le_of_ble_eq_true rfl) rfl rfl ⟨by decide, by decide⟩ hX.k (q_count hA hX ?_)
    dsimp only [gRt]
    rw [eC6]
    refine G_sn3 (pc := 18) (gSt_in dL_reads_18 rfl (by decide)) rfl ?_
    refine G_aload_n (pc := 19) 0 dL_reads_19 rfl ?_
    refine gV0 (pc := 20) (k' := 0) (n' := 0) dL_reads_20 lkL_58 ⟨by decide, by decide⟩ (Nat.le_of_ble_eq_true rfl) rfl rfl ⟨by decide, by decide⟩ hX.k (q_read hA hX ?_)
    intro r l i hX
    dsimp only [gRt]
    rw [eR]
    refine G_sn4 (pc := 23) (gSt_i dL_reads_23 (by decide)) rfl ?_
    refine G_iload_n (pc := 25) 1 dL_reads_25 rfl ?_
    refine G_ldc (pc := 26) dL_reads_26 kcL_41 ?_
    refine G_icmp_ne (pc := 28) (tgt := 64) dL_reads_28 (by decide) (fun h28 => ?_) (fun h28 => ?_)
    · exact absurd rfl h28
    · refine G_iload_n (pc := 31) 2 dL_reads_31 rfl ?_
      refine G_ldc (pc := 32) dL_reads_32 kcL_41 ?_
      refine G_icmp_ne (pc := 34) (tgt := 64) dL_reads_34 (by decide) (fun h34 => ?_) (fun h34 => ?_)
      · exact absurd rfl h34
      · refine G_iload (pc := 37) 4 dL_reads_37 rfl ?_
        refine G_if_le (pc := 39) (tgt := 64) dL_reads_39 (by decide) (fun h39 => ?_) (fun h39 => ?_)
        · exact absurd h39 (nI_nle (by omega) (by omega))
        · refine G_iload (pc := 42) 4 dL_reads_42 rfl ?_
          refine G_aload_n (pc := 44) 0 dL_reads_44 rfl ?_
          refine G_iconst (pc := 45) (v := 0) dL_reads_45 rfl ?_
          refine gV1 (pc := 46) (k' := 0) (n' := 0) dL_reads_46 lkL_13 ⟨by decide, by decide⟩ (Nat.le_of_ble_eq_true rfl) rfl rfl ⟨by decide, by decide⟩ hX.k (q_count hA hX ?_)
          dsimp only [gRt]
          rw [eC0]
          refine G_icmp_ne (pc := 49) (tgt := 64) dL_reads_49 (by decide) (fun h49 => ?_) (fun h49 => ?_)
          · exact absurd rfl h49
          · refine G_aload_n (pc := 52) 0 dL_reads_52 rfl ?_
            refine G_iconst (pc := 53) (v := 1) dL_reads_53 rfl ?_
            refine gV1 (pc := 54) (k' := 0) (n' := 0) dL_reads_54 lkL_13 ⟨by decide, by decide⟩ (Nat.le_of_ble_eq_true rfl) rfl rfl ⟨by decide, by decide⟩ hX.k (q_count hA hX ?_)
            dsimp only [gRt]
            rw [eC1]
            refine G_if_ne (pc := 57) (tgt := 64) dL_reads_57 (by decide) (fun h57 => ?_) (fun h57 => ?_)
            · exact absurd rfl h57
            · refine G_iconst (pc := 60) (v := 1) dL_reads_60 rfl ?_
              refine G_goto (pc := 61) (tgt := 65) dL_reads_61 (by decide) ?_
              refine G_sn5 (pc := 65) (gSt_i dL_reads_65 (by decide)) rfl ?_
              refine G_iload_n (pc := 67) 1 dL_reads_67 rfl ?_
              refine G_if_lt (pc := 68) (tgt := 96) dL_reads_68 (by decide) (fun h68 => ?_) (fun h68 => ?_)
              · refine G_iconst (pc := 96) (v := 0) dL_reads_96 rfl ?_
                refine G_sn6 (pc := 97) (gSt_i dL_reads_97 (by decide)) rfl ?_
                refine G_iload (pc := 99) 5 dL_reads_99 rfl ?_
                refine G_if_ne (pc := 101) (tgt := 109) dL_reads_101 (by decide) (fun h101 => ?_) (fun h101 => ?_)
                · refine G_aload_n (pc := 109) 0 dL_reads_109 rfl ?_
                  refine G_bipush (pc := 110) (v := 6) dL_reads_110 rfl ?_
                  refine gV1 (pc := 112) (k' := 0) (n' := 0) dL_reads_112 lkL_13 ⟨by decide, by decide⟩ (Nat.le_of_ble_eq_true rfl) rfl rfl ⟨by decide, by decide⟩ hX.k (q_count hA hX ?_)
                  dsimp only [gRt]
                  rw [eC6]
                  refine G_iload_n (pc := 115) 3 dL_reads_115 rfl ?_
                  refine G_icmp_ne (pc := 116) (tgt := 123) dL_reads_116 (by decide) (fun h116 => ?_) (fun h116 => ?_)
                  · exact absurd rfl h116
                  · refine G_iconst (pc := 119) (v := 1) dL_reads_119 rfl ?_
                    refine G_goto (pc := 120) (tgt := 124) dL_reads_120 (by decide) ?_
                    refine G_iret (pc := 124) dL_reads_124 ⟨_, rfl, rfl⟩ ⟨by decide, by decide⟩ ?_
                    exact hQ r l i hX
                · exact absurd h101 (by decide)
              · exact absurd (by decide) h68
  · have f0 : aFault tx ln S 0 = nI (rfAll tx ln S).2.1 := by unfold aFault; rw [if_pos (by decide), if_neg hb, if_pos rfl]
    have f1 : aFault tx ln S 1 = (rfAll tx ln S).2.2.1 := by unfold aFault; rw [if_pos (by decide), if_neg hb, if_neg (by decide)]
    have eR : (aRead tx ln S).1 = -1000002 := by unfold aRead; rw [if_neg hb]
    have r0 : ¬ (rfAll tx ln S).2.2.1 ≤ 0 := by rcases hr with e | e | e <;> rw [e] <;> decide
    have r4 : ¬ 4 ≤ (rfAll tx ln S).2.2.1 := by rcases hr with e | e | e <;> rw [e] <;> decide
    refine G_aload_n (pc := 0) 0 dL_reads_0 rfl ?_
    refine G_iconst (pc := 1) (v := 0) dL_reads_1 rfl ?_
    refine gV1 (pc := 2) (k' := 0) (n' := 0) dL_reads_2 lkL_55 ⟨by decide, by decide⟩ (Nat.le_of_ble_eq_true rfl) rfl rfl ⟨by decide, by decide⟩ hX.k (q_fault hA hX ?_)
    intro i hX
    dsimp only [gRt]
    rw [f0]
    refine G_sn1 (pc := 5) (gSt_in dL_reads_5 rfl (by decide)) rfl ?_
    refine G_aload_n (pc := 6) 0 dL_reads_6 rfl ?_
    refine G_iconst (pc := 7) (v := 1) dL_reads_7 rfl ?_
    refine gV1 (pc := 8) (k' := 0) (n' := 0) dL_reads_8 lkL_55 ⟨by decide, by decide⟩ (Nat.le_of_ble_eq_true rfl) rfl rfl ⟨by decide, by decide⟩ hX.k (q_fault hA hX ?_)
    intro i hX
    dsimp only [gRt]
    rw [f1]
    refine G_sn2 (pc := 11) (gSt_in dL_reads_11 rfl (by decide)) rfl ?_
    refine G_aload_n (pc := 12) 0 dL_reads_12 rfl ?_
    refine G_bipush (pc := 13) (v := 6) dL_reads_13 rfl ?_
    refine gV1 (pc := 15) (k' := 0) (n' := 0) dL_reads_15 lkL_13 ⟨by decide, by decide⟩ (Nat.le_of_ble_eq_true rfl) rfl rfl ⟨by decide, by decide⟩ hX.k (q_count hA hX ?_)
    dsimp only [gRt]
    rw [eC6]
    refine G_sn3 (pc := 18) (gSt_in dL_reads_18 rfl (by decide)) rfl ?_
    refine G_aload_n (pc := 19) 0 dL_reads_19 rfl ?_
    refine gV0 (pc := 20) (k' := 0) (n' := 0) dL_reads_20 lkL_58 ⟨by decide, by decide⟩ (Nat.le_of_ble_eq_true rfl) rfl rfl ⟨by decide, by decide⟩ hX.k (q_read hA hX ?_)
    intro r l i hX
    dsimp only [gRt]
    rw [eR]
    refine G_sn4 (pc := 23) (gSt_i dL_reads_23 (by decide)) rfl ?_
    refine G_iload_n (pc := 25) 1 dL_reads_25 rfl ?_
    refine G_ldc (pc := 26) dL_reads_26 kcL_41 ?_
    refine G_icmp_ne (pc := 28) (tgt := 64) dL_reads_28 (by decide) (fun h28 => ?_) (fun h28 => ?_)
    · refine G_iconst (pc := 64) (v := 0) dL_reads_64 rfl ?_
      refine G_sn5 (pc := 65) (gSt_i dL_reads_65 (by decide)) rfl ?_
      refine G_iload_n (pc := 67) 1 dL_reads_67 rfl ?_
      refine G_if_lt (pc := 68) (tgt := 96) dL_reads_68 (by decide) (fun h68 => ?_) (fun h68 => ?_)
      · exact absurd h68 (nI_pos (by omega))
      · refine G_iload_n (pc := 71) 1 dL_reads_71 rfl ?_
        refine G_iload_n (pc := 72) 3 dL_reads_72 rfl ?_
        refine G_icmp_gt (pc := 73) (tgt := 96) dL_reads_73 (by decide) (fun h73 => ?_) (fun h73 => ?_)
        · exact absurd h73 (nI_nlt hp (by omega))
        · refine G_iload_n (pc := 76) 2 dL_reads_76 rfl ?_
          refine G_if_le (pc := 77) (tgt := 96) dL_reads_77 (by decide) (fun h77 => ?_) (fun h77 => ?_)
          · exact absurd h77 r0
          · refine G_iload_n (pc := 80) 2 dL_reads_80 rfl ?_
            refine G_iconst (pc := 81) (v := 4) dL_reads_81 rfl ?_
            refine G_icmp_ge (pc := 82) (tgt := 96) dL_reads_82 (by decide) (fun h82 => ?_) (fun h82 => ?_)
            · exact absurd h82 r4
            · refine G_iload (pc := 85) 4 dL_reads_85 rfl ?_
              refine G_ldc (pc := 87) dL_reads_87 kcL_61 ?_
              refine G_icmp_ne (pc := 89) (tgt := 96) dL_reads_89 (by decide) (fun h89 => ?_) (fun h89 => ?_)
              · exact absurd rfl h89
              · refine G_iconst (pc := 92) (v := 1) dL_reads_92 rfl ?_
                refine G_goto (pc := 93) (tgt := 97) dL_reads_93 (by decide) ?_
                refine G_sn6 (pc := 97) (gSt_i dL_reads_97 (by decide)) rfl ?_
                refine G_iload (pc := 99) 5 dL_reads_99 rfl ?_
                refine G_if_ne (pc := 101) (tgt := 109) dL_reads_101 (by decide) (fun h101 => ?_) (fun h101 => ?_)
                · exact absurd rfl h101
                · refine G_iload (pc := 104) 6 dL_reads_104 rfl ?_
                  refine G_if_eq (pc := 106) (tgt := 123) dL_reads_106 (by decide) (fun h106 => ?_) (fun h106 => ?_)
                  · exact absurd h106 (by decide)
                  · refine G_aload_n (pc := 109) 0 dL_reads_109 rfl ?_
                    refine G_bipush (pc := 110) (v := 6) dL_reads_110 rfl ?_
                    refine gV1 (pc := 112) (k' := 0) (n' := 0) dL_reads_112 lkL_13 ⟨by decide, by decide⟩ (Nat.le_of_ble_eq_true rfl) rfl rfl ⟨by decide, by decide⟩ hX.k (q_count hA hX ?_)
                    dsimp only [gRt]
                    rw [eC6]
                    refine G_iload_n (pc := 115) 3 dL_reads_115 rfl ?_
                    refine G_icmp_ne (pc := 116) (tgt := 123) dL_reads_116 (by decide) (fun h116 => ?_) (fun h116 => ?_)
                    · exact absurd rfl h116
                    · refine G_iconst (pc := 119) (v := 1) dL_reads_119 rfl ?_
                      refine G_goto (pc := 120) (tgt := 124) dL_reads_120 (by decide) ?_
                      refine G_iret (pc := 124) dL_reads_124 ⟨_, rfl, rfl⟩ ⟨by decide, by decide⟩ ?_
                      exact hQ r l i hX
    · exact absurd (show nI (rfAll tx ln S).2.1 < 0 by rw [h28]; decide) (nI_pos (by omega))

