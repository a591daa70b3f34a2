/-! the law: acts: begin, step -/
set_option maxRecDepth 100000 in
set_option maxHeartbeats 4000000 in
theorem t_acts_b {Γ : gG} {T : gTy} {r : gR} {l : gLg} {i : gI} {Q : gQ} {x n ln : Nat} {S : Nat → Int32} {P : Nat → Nat → Int32} {tx : Nat → Int32} {a : Nat} {v y t3 t6 : Int32} {p q sg : Int32} (hA : gN Γ ≤ x) (hX : lwX T r i x S P n tx ln) (hx : xS S) (hQ : ∀ r' l' i' o' tx' ln', xS (nxS S o') → lwX T r' i' x (nxS S o') (nxP n P S o') (nxN n o') tx' ln' → Q (some (.int 1)) T r' l' i') (hp : inI p (-1024) 1024) (hq : inI q (-1024) 1024) (hsg : sg = 0 ∨ sg = 1 ∨ sg = -1) : G Γ ML_acts 0 0 105 [(0, .ref x), (1, .int v), (2, .int y), (3, .int t3), (4, .int (nI (nW S))), (5, .int (nI a)), (6, .int t6), (7, .int p), (8, .int q)] [.int sg] T r l i Q := by
  have hS := hX.v.1
  have hn5 := (nW_of hS).1
  rcases hsg with rfl | hsg
  · have eB : aBegin S p q 0 = (-1000001, none) := aBegin_bad
    refine G_sn9 (pc := 105) (gSt_i dL_acts_105 (by decide)) rfl ?_
    refine G_aload_n (pc := 107) 0 dL_acts_107 rfl ?_
    refine G_iload (pc := 108) 7 dL_acts_108 rfl ?_
    refine G_iload (pc := 110) 8 dL_acts_110 rfl ?_
    refine G_iconst (pc := 112) (v := 0) dL_acts_112 rfl ?_
    refine gV3 (pc := 113) (k' := 0) (n' := 0) dL_acts_113 lkL_42 ⟨by decide, by decide⟩ (Nat.le_of_ble_eq_true rfl) rfl rfl ⟨by decide, by decide⟩ hX.k (q_corrected hA hX ?_)
    intro l i hX
    dsimp only [gRt]
    refine G_ldc (pc := 116) dL_acts_116 kcL_41 ?_
    refine G_dia (pc := 118) (va := 1) (vb := 0) (fun kt kf => G_icmp_eq (pc := 118) (tgt := 125) dL_acts_118 (by decide) kt kf) dL_acts_121 rfl dL_acts_122 (by decide) dL_acts_125 rfl rfl ?_
    refine G_sn10 (pc := 126) (gSt_i dL_acts_126 (by decide)) rfl ?_
    refine G_aload_n (pc := 128) 0 dL_acts_128 rfl ?_
    refine G_iload (pc := 129) 7 dL_acts_129 rfl ?_
    refine G_iload (pc := 131) 8 dL_acts_131 rfl ?_
    refine G_iload (pc := 133) 9 dL_acts_133 rfl ?_
    refine gV3 (pc := 135) (k' := 0) (n' := 0) dL_acts_135 lkL_62 ⟨by decide, by decide⟩ (Nat.le_of_ble_eq_true rfl) rfl rfl ⟨by decide, by decide⟩ hX.k (q_begin hA hX ?_)
    intro r l i hX
    dsimp only [gRt]
    rw [eB] at hX ⊢
    (try dsimp only at hX ⊢)
    refine G_sn11 (pc := 138) (gSt_i dL_acts_138 (by decide)) rfl ?_
    refine G_iload (pc := 140) 11 dL_acts_140 rfl ?_
    refine G_iload (pc := 142) 9 dL_acts_142 rfl ?_
    refine G_if_ne (pc := 144) (tgt := 152) dL_acts_144 (by decide) (fun h144 => ?_) (fun h144 => ?_)
    · exact absurd rfl h144
    · refine G_ldc (pc := 147) dL_acts_147 kcL_65 ?_
      refine G_goto (pc := 149) (tgt := 175) dL_acts_149 (by decide) ?_
      refine G_icmp_ne (pc := 175) (tgt := 230) dL_acts_175 (by decide) (fun h175 => ?_) (fun h175 => ?_)
      · exact absurd rfl h175
      · refine G_iload (pc := 178) 11 dL_acts_178 rfl ?_
        refine G_if_lt (pc := 180) (tgt := 226) dL_acts_180 (by decide) (fun h180 => ?_) (fun h180 => ?_)
        · refine G_iconst (pc := 226) (v := 1) dL_acts_226 rfl ?_
          refine G_goto (pc := 227) (tgt := 231) dL_acts_227 (by decide) ?_
          refine G_iret (pc := 231) dL_acts_231 ⟨_, rfl, rfl⟩ ⟨by decide, by decide⟩ ?_
          exact hQ r l i none tx ln hx hX
        · exact absurd (by decide) h180
  · have hs0 : ¬ sg = 0 := by rcases hsg with rfl | rfl <;> decide
    cases hc : gCor (tF S) (tP S) (tQ S) (tN S) (tM S) 0 p.toInt64 q.toInt64 with
    | none =>
      have eC := aCorr_n hp hq hc
      have eB : aBegin S p q sg = (-1000002, none) := aBegin_n hp hq hsg hc
      refine G_sn9 (pc := 105) (gSt_i dL_acts_105 (by decide)) rfl ?_
      refine G_aload_n (pc := 107) 0 dL_acts_107 rfl ?_
      refine G_iload (pc := 108) 7 dL_acts_108 rfl ?_
      refine G_iload (pc := 110) 8 dL_acts_110 rfl ?_
      refine G_iconst (pc := 112) (v := 0) dL_acts_112 rfl ?_
      refine gV3 (pc := 113) (k' := 0) (n' := 0) dL_acts_113 lkL_42 ⟨by decide, by decide⟩ (Nat.le_of_ble_eq_true rfl) rfl rfl ⟨by decide, by decide⟩ hX.k (q_corrected hA hX ?_)
      intro l i hX
      dsimp only [gRt]
      rw [eC]
      refine G_ldc (pc := 116) dL_acts_116 kcL_41 ?_
      refine G_dia (pc := 118) (va := 1) (vb := 0) (fun kt kf => G_icmp_eq (pc := 118) (tgt := 125) dL_acts_118 (by decide) kt kf) dL_acts_121 rfl dL_acts_122 (by decide) dL_acts_125 rfl rfl ?_
      rw [if_pos rfl]
      refine G_sn10 (pc := 126) (gSt_i dL_acts_126 (by decide)) rfl ?_
      refine G_aload_n (pc := 128) 0 dL_acts_128 rfl ?_
      refine G_iload (pc := 129) 7 dL_acts_129 rfl ?_
      refine G_iload (pc := 131) 8 dL_acts_131 rfl ?_
      refine G_iload (pc := 133) 9 dL_acts_133 rfl ?_
      refine gV3 (pc := 135) (k' := 0) (n' := 0) dL_acts_135 lkL_62 ⟨by decide, by decide⟩ (Nat.le_of_ble_eq_true rfl) rfl rfl ⟨by decide, by decide⟩ hX.k (q_begin hA hX ?_)
      intro r l i hX
      dsimp only [gRt]
      rw [eB] at hX ⊢
      (try dsimp only at hX ⊢)
      refine G_sn11 (pc := 138) (gSt_i dL_acts_138 (by decide)) rfl ?_
      refine G_iload (pc := 140) 11 dL_acts_140 rfl ?_
      refine G_iload (pc := 142) 9 dL_acts_142 rfl ?_
      refine G_if_ne (pc := 144) (tgt := 152) dL_acts_144 (by decide) (fun h144 => ?_) (fun h144 => ?_)
      · refine G_iload (pc := 152) 10 dL_acts_152 rfl ?_
        refine G_if_ne (pc := 154) (tgt := 162) dL_acts_154 (by decide) (fun h154 => ?_) (fun h154 => ?_)
        · exact absurd rfl h154
        · refine G_ldc (pc := 157) dL_acts_157 kcL_61 ?_
          refine G_goto (pc := 159) (tgt := 175) dL_acts_159 (by decide) ?_
          refine G_icmp_ne (pc := 175) (tgt := 230) dL_acts_175 (by decide) (fun h175 => ?_) (fun h175 => ?_)
          · exact absurd rfl h175
          · refine G_iload (pc := 178) 11 dL_acts_178 rfl ?_
            refine G_if_lt (pc := 180) (tgt := 226) dL_acts_180 (by decide) (fun h180 => ?_) (fun h180 => ?_)
            · refine G_iconst (pc := 226) (v := 1) dL_acts_226 rfl ?_
              refine G_goto (pc := 227) (tgt := 231) dL_acts_227 (by decide) ?_
              refine G_iret (pc := 231) dL_acts_231 ⟨_, rfl, rfl⟩ ⟨by decide, by decide⟩ ?_
              exact hQ r l i none tx ln hx hX
            · exact absurd (by decide) h180
      · exact absurd h144 hs0
    | some c =>
      by_cases h5 : nW S = 5
      · have eC := aCorr_0 hp hq hc
        have eB : aBegin S p q sg = (-1000003, none) := aBegin_5 hp hq hsg hc h5
        refine G_sn9 (pc := 105) (gSt_i dL_acts_105 (by decide)) rfl ?_
        refine G_aload_n (pc := 107) 0 dL_acts_107 rfl ?_
        refine G_iload (pc := 108) 7 dL_acts_108 rfl ?_
        refine G_iload (pc := 110) 8 dL_acts_110 rfl ?_
        refine G_iconst (pc := 112) (v := 0) dL_acts_112 rfl ?_
        refine gV3 (pc := 113) (k' := 0) (n' := 0) dL_acts_113 lkL_42 ⟨by decide, by decide⟩ (Nat.le_of_ble_eq_true rfl) rfl rfl ⟨by decide, by decide⟩ hX.k (q_corrected hA hX ?_)
        intro l i hX
        dsimp only [gRt]
        rw [eC]
        refine G_ldc (pc := 116) dL_acts_116 kcL_41 ?_
        refine G_dia (pc := 118) (va := 1) (vb := 0) (fun kt kf => G_icmp_eq (pc := 118) (tgt := 125) dL_acts_118 (by decide) kt kf) dL_acts_121 rfl dL_acts_122 (by decide) dL_acts_125 rfl rfl ?_
        rw [if_neg (inB_ne (gCor_in _ _ _ _ hc).1)]
        refine G_sn10 (pc := 126) (gSt_i dL_acts_126 (by decide)) rfl ?_
        refine G_aload_n (pc := 128) 0 dL_acts_128 rfl ?_
        refine G_iload (pc := 129) 7 dL_acts_129 rfl ?_
        refine G_iload (pc := 131) 8 dL_acts_131 rfl ?_
        refine G_iload (pc := 133) 9 dL_acts_133 rfl ?_
        refine gV3 (pc := 135) (k' := 0) (n' := 0) dL_acts_135 lkL_62 ⟨by decide, by decide⟩ (Nat.le_of_ble_eq_true rfl) rfl rfl ⟨by decide, by decide⟩ hX.k (q_begin hA hX ?_)
        intro r l i hX
        dsimp only [gRt]
        rw [eB] at hX ⊢
        (try dsimp only at hX ⊢)
        refine G_sn11 (pc := 138) (gSt_i dL_acts_138 (by decide)) rfl ?_
        refine G_iload (pc := 140) 11 dL_acts_140 rfl ?_
        refine G_iload (pc := 142) 9 dL_acts_142 rfl ?_
        refine G_if_ne (pc := 144) (tgt := 152) dL_acts_144 (by decide) (fun h144 => ?_) (fun h144 => ?_)
        · refine G_iload (pc := 152) 10 dL_acts_152 rfl ?_
          refine G_if_ne (pc := 154) (tgt := 162) dL_acts_154 (by decide) (fun h154 => ?_) (fun h154 => ?_)
          · refine G_iload (pc := 162) 4 dL_acts_162 rfl ?_
            refine G_iconst (pc := 164) (v := 5) dL_acts_164 rfl ?_
            refine G_icmp_ne (pc := 165) (tgt := 173) dL_acts_165 (by decide) (fun h165 => ?_) (fun h165 => ?_)
            · exact absurd (by rw [h5]; rfl) h165
            · refine G_ldc (pc := 168) dL_acts_168 kcL_66 ?_
              refine G_goto (pc := 170) (tgt := 175) dL_acts_170 (by decide) ?_
              refine G_icmp_ne (pc := 175) (tgt := 230) dL_acts_175 (by decide) (fun h175 => ?_) (fun h175 => ?_)
              · exact absurd rfl h175
              · refine G_iload (pc := 178) 11 dL_acts_178 rfl ?_
                refine G_if_lt (pc := 180) (tgt := 226) dL_acts_180 (by decide) (fun h180 => ?_) (fun h180 => ?_)
                · refine G_iconst (pc := 226) (v := 1) dL_acts_226 rfl ?_
                  refine G_goto (pc := 227) (tgt := 231) dL_acts_227 (by decide) ?_
                  refine G_iret (pc := 231) dL_acts_231 ⟨_, rfl, rfl⟩ ⟨by decide, by decide⟩ ?_
                  exact hQ r l i none tx ln hx hX
                · exact absurd (by decide) h180
          · exact absurd h154 (by decide)
        · exact absurd h144 hs0
      · have hlt : nW S < 5 := by omega
        have eC := aCorr_0 hp hq hc
        have eB := aBegin_y hp hq hsg hc h5
        have hxF : xS (nxS S (some (oF S (nW S) sg (-1) (-1) c))) := by
          have z := x_begin (x := p) (y := q) (sg := sg) hx hS
          rw [eB] at z
          exact z
        refine G_sn9 (pc := 105) (gSt_i dL_acts_105 (by decide)) rfl ?_
        refine G_aload_n (pc := 107) 0 dL_acts_107 rfl ?_
        refine G_iload (pc := 108) 7 dL_acts_108 rfl ?_
        refine G_iload (pc := 110) 8 dL_acts_110 rfl ?_
        refine G_iconst (pc := 112) (v := 0) dL_acts_112 rfl ?_
        refine gV3 (pc := 113) (k' := 0) (n' := 0) dL_acts_113 lkL_42 ⟨by decide, by decide⟩ (Nat.le_of_ble_eq_true rfl) rfl rfl ⟨by decide, by decide⟩ hX.k (q_corrected hA hX ?_)
        intro l i hX
        dsimp only [gRt]
        rw [eC]
        refine G_ldc (pc := 116) dL_acts_116 kcL_41 ?_
        refine G_dia (pc := 118) (va := 1) (vb := 0) (fun kt kf => G_icmp_eq (pc := 118) (tgt := 125) dL_acts_118 (by decide) kt kf) dL_acts_121 rfl dL_acts_122 (by decide) dL_acts_125 rfl rfl ?_
        rw [if_neg (inB_ne (gCor_in _ _ _ _ hc).1)]
        refine G_sn10 (pc := 126) (gSt_i dL_acts_126 (by decide)) rfl ?_
        refine G_aload_n (pc := 128) 0 dL_acts_128 rfl ?_
        refine G_iload (pc := 129) 7 dL_acts_129 rfl ?_
        refine G_iload (pc := 131) 8 dL_acts_131 rfl ?_
        refine G_iload (pc := 133) 9 dL_acts_133 rfl ?_
        refine gV3 (pc := 135) (k' := 0) (n' := 0) dL_acts_135 lkL_62 ⟨by decide, by decide⟩ (Nat.le_of_ble_eq_true rfl) rfl rfl ⟨by decide, by decide⟩ hX.k (q_begin hA hX ?_)
        intro r l i hX
        dsimp only [gRt]
        rw [eB] at hX ⊢
        replace hX : lwX T r i x (oF S (nW S) sg (-1) (-1) c) (nxP n P S (some (oF S (nW S) sg (-1) (-1) c))) (nxN n (some (oF S (nW S) sg (-1) (-1) c))) tx ln := hX
        dsimp only
        obtain ⟨t0, t1, t2, _⟩ := op_told hlt hX.v.1
        refine G_sn11 (pc := 138) (gSt_i dL_acts_138 (by decide)) rfl ?_
        refine G_iload (pc := 140) 11 dL_acts_140 rfl ?_
        refine G_iload (pc := 142) 9 dL_acts_142 rfl ?_
        refine G_if_ne (pc := 144) (tgt := 152) dL_acts_144 (by decide) (fun h144 => ?_) (fun h144 => ?_)
        · refine G_iload (pc := 152) 10 dL_acts_152 rfl ?_
          refine G_if_ne (pc := 154) (tgt := 162) dL_acts_154 (by decide) (fun h154 => ?_) (fun h154 => ?_)
          · refine G_iload (pc := 162) 4 dL_acts_162 rfl ?_
            refine G_iconst (pc := 164) (v := 5) dL_acts_164 rfl ?_
            refine G_icmp_ne (pc := 165) (tgt := 173) dL_acts_165 (by decide) (fun h165 => ?_) (fun h165 => ?_)
            · refine G_iload (pc := 173) 4 dL_acts_173 rfl ?_
              refine G_icmp_ne (pc := 175) (tgt := 230) dL_acts_175 (by decide) (fun h175 => ?_) (fun h175 => ?_)
              · exact absurd rfl h175
              · refine G_iload (pc := 178) 11 dL_acts_178 rfl ?_
                refine G_if_lt (pc := 180) (tgt := 226) dL_acts_180 (by decide) (fun h180 => ?_) (fun h180 => ?_)
                · exact absurd h180 (nI_pos (by omega))
                · refine G_aload_n (pc := 183) 0 dL_acts_183 rfl ?_
                  refine G_iload (pc := 184) 11 dL_acts_184 rfl ?_
                  refine G_iconst (pc := 186) (v := 0) dL_acts_186 rfl ?_
                  refine gV2 (pc := 187) (k' := 0) (n' := 0) dL_acts_187 lkL_23 ⟨by decide, by decide⟩ (Nat.le_of_ble_eq_true rfl) rfl rfl ⟨by decide, by decide⟩ hX.k (q_walkOf hA hX ?_)
                  intro i hX
                  dsimp only [gRt]
                  rw [t0]
                  refine G_iconst (pc := 190) (v := 1) dL_acts_190 rfl ?_
                  refine G_icmp_ne (pc := 191) (tgt := 230) dL_acts_191 (by decide) (fun h191 => ?_) (fun h191 => ?_)
                  · exact absurd rfl h191
                  · refine G_aload_n (pc := 194) 0 dL_acts_194 rfl ?_
                    refine G_iload (pc := 195) 11 dL_acts_195 rfl ?_
                    refine G_iconst (pc := 197) (v := 1) dL_acts_197 rfl ?_
                    refine gV2 (pc := 198) (k' := 0) (n' := 0) dL_acts_198 lkL_23 ⟨by decide, by decide⟩ (Nat.le_of_ble_eq_true rfl) rfl rfl ⟨by decide, by decide⟩ hX.k (q_walkOf hA hX ?_)
                    intro i hX
                    dsimp only [gRt]
                    rw [t1]
                    refine G_iload (pc := 201) 9 dL_acts_201 rfl ?_
                    refine G_icmp_ne (pc := 203) (tgt := 230) dL_acts_203 (by decide) (fun h203 => ?_) (fun h203 => ?_)
                    · exact absurd rfl h203
                    · refine G_aload_n (pc := 206) 0 dL_acts_206 rfl ?_
                      refine G_iload (pc := 207) 11 dL_acts_207 rfl ?_
                      refine G_iconst (pc := 209) (v := 0) dL_acts_209 rfl ?_
                      refine G_iconst (pc := 210) (v := 0) dL_acts_210 rfl ?_
                      refine gV3 (pc := 211) (k' := 0) (n' := 0) dL_acts_211 lkL_28 ⟨by decide, by decide⟩ (Nat.le_of_ble_eq_true rfl) rfl rfl ⟨by decide, by decide⟩ hX.k (q_placeOf hA hX ?_)
                      dsimp only [gRt]
                      rw [t2]
                      refine G_aload_n (pc := 214) 0 dL_acts_214 rfl ?_
                      refine G_iload (pc := 215) 7 dL_acts_215 rfl ?_
                      refine G_iload (pc := 217) 8 dL_acts_217 rfl ?_
                      refine G_iconst (pc := 219) (v := 0) dL_acts_219 rfl ?_
                      refine gV3 (pc := 220) (k' := 0) (n' := 0) dL_acts_220 lkL_42 ⟨by decide, by decide⟩ (Nat.le_of_ble_eq_true rfl) rfl rfl ⟨by decide, by decide⟩ hX.k (q_corrected hA hX ?_)
                      intro l i hX
                      dsimp only [gRt]
                      rw [aCorr_oF, eC]
                      refine G_icmp_ne (pc := 223) (tgt := 230) dL_acts_223 (by decide) (fun h223 => ?_) (fun h223 => ?_)
                      · exact absurd rfl h223
                      · refine G_iconst (pc := 226) (v := 1) dL_acts_226 rfl ?_
                        refine G_goto (pc := 227) (tgt := 231) dL_acts_227 (by decide) ?_
                        refine G_iret (pc := 231) dL_acts_231 ⟨_, rfl, rfl⟩ ⟨by decide, by decide⟩ ?_
                        exact hQ r l i (some (oF S (nW S) sg (-1) (-1) c)) tx ln hxF hX
            · exact absurd ((nI_eq (by omega) (by decide)).mp (show nI (nW S) = nI 5 from h165)) h5
          · exact absurd h154 (by decide)
        · exact absurd h144 hs0

set_option maxRecDepth 100000 in
set_option maxHeartbeats 4000000 in
theorem t_acts_begin {Γ : gG} {T : gTy} {r : gR} {l : gLg} {i : gI} {Q : gQ} {x n ln : Nat} {S : Nat → Int32} {P : Nat → Nat → Int32} {tx : Nat → Int32} {a : Nat} {v y t3 t6 : Int32} (hA : gN Γ ≤ x) (hX : lwX T r i x S P n tx ln) (hx : xS S) (hQ : ∀ r' l' i' o' tx' ln', xS (nxS S o') → lwX T r' i' x (nxS S o') (nxP n P S o') (nxN n o') tx' ln' → Q (some (.int 1)) T r' l' i') : G Γ ML_acts 0 0 45 [(0, .ref x), (1, .int v), (2, .int y), (3, .int t3), (4, .int (nI (nW S))), (5, .int (nI a)), (6, .int t6)] [] T r l i Q := by
  refine G_iload_n (pc := 45) 2 dL_acts_45 rfl ?_
  refine G_sipush (pc := 46) (v := 900) dL_acts_46 rfl ?_
  refine gS2 (pc := 49) (k' := 0) (n' := 0) dL_acts_49 lkL_36 ⟨by decide, by decide⟩ (Nat.le_of_ble_eq_true rfl) rfl rfl ⟨by decide, by decide⟩ (c_L_low (m := 900) (by decide) (by decide) ?_)
  intro u hu
  dsimp only [gRt]
  refine G_sipush (pc := 52) (v := 450) dL_acts_52 rfl ?_
  refine G_isub (pc := 55) dL_acts_55 ?_
  refine G_sn7 (pc := 56) (gSt_i dL_acts_56 (by decide)) rfl ?_
  refine G_iload_n (pc := 58) 2 dL_acts_58 rfl ?_
  refine G_bipush (pc := 59) (v := 10) dL_acts_59 rfl ?_
  refine G_ishr (pc := 61) dL_acts_61 ?_
  refine G_sipush (pc := 62) (v := 900) dL_acts_62 rfl ?_
  refine gS2 (pc := 65) (k' := 0) (n' := 0) dL_acts_65 lkL_36 ⟨by decide, by decide⟩ (Nat.le_of_ble_eq_true rfl) rfl rfl ⟨by decide, by decide⟩ (c_L_low (m := 900) (by decide) (by decide) ?_)
  intro g hg
  dsimp only [gRt]
  refine G_sipush (pc := 68) (v := 450) dL_acts_68 rfl ?_
  refine G_isub (pc := 71) dL_acts_71 ?_
  refine G_sn8 (pc := 72) (gSt_i dL_acts_72 (by decide)) rfl ?_
  refine G_iload_n (pc := 74) 2 dL_acts_74 rfl ?_
  refine G_bipush (pc := 75) (v := 20) dL_acts_75 rfl ?_
  refine G_ishr (pc := 77) dL_acts_77 ?_
  refine G_iconst (pc := 78) (v := 5) dL_acts_78 rfl ?_
  refine gS2 (pc := 79) (k' := 0) (n' := 0) dL_acts_79 lkL_36 ⟨by decide, by decide⟩ (Nat.le_of_ble_eq_true rfl) rfl rfl ⟨by decide, by decide⟩ (c_L_low (m := 5) (by decide) (by decide) ?_)
  intro e he
  dsimp only [gRt]
  refine G_if_ne (pc := 82) (tgt := 89) dL_acts_82 (by decide) (fun h82 => ?_) (fun h82 => ?_)
  · refine G_iload_n (pc := 89) 2 dL_acts_89 rfl ?_
    refine G_bipush (pc := 90) (v := 21) dL_acts_90 rfl ?_
    refine G_ishr (pc := 92) dL_acts_92 ?_
    refine G_iconst (pc := 93) (v := 2) dL_acts_93 rfl ?_
    refine gS2 (pc := 94) (k' := 0) (n' := 0) dL_acts_94 lkL_36 ⟨by decide, by decide⟩ (Nat.le_of_ble_eq_true rfl) rfl rfl ⟨by decide, by decide⟩ (c_L_low (m := 2) (by decide) (by decide) ?_)
    intro e2 he2
    dsimp only [gRt]
    refine G_if_ne (pc := 97) (tgt := 104) dL_acts_97 (by decide) (fun h97 => ?_) (fun h97 => ?_)
    · refine G_iconst (pc := 104) (v := (-1)) dL_acts_104 rfl ?_
      exact t_acts_b hA hX hx hQ (inI_450 hu) (inI_450 hg) (Or.inr (Or.inr rfl))
    · refine G_iconst (pc := 100) (v := 1) dL_acts_100 rfl ?_
      refine G_goto (pc := 101) (tgt := 105) dL_acts_101 (by decide) ?_
      exact t_acts_b hA hX hx hQ (inI_450 hu) (inI_450 hg) (Or.inr (Or.inl rfl))
  · refine G_iconst (pc := 85) (v := 0) dL_acts_85 rfl ?_
    refine G_goto (pc := 86) (tgt := 105) dL_acts_86 (by decide) ?_
    exact t_acts_b hA hX hx hQ (inI_450 hu) (inI_450 hg) (Or.inl rfl)

set_option maxRecDepth 100000 in
set_option maxHeartbeats 4000000 in
theorem t_acts_s {Γ : gG} {T : gTy} {r : gR} {l : gLg} {i : gI} {Q : gQ} {x n ln : Nat} {S : Nat → Int32} {P : Nat → Nat → Int32} {tx : Nat → Int32} {a : Nat} {v y t3 t6 : Int32} {K : Nat} (hA : gN Γ ≤ x) (hX : lwX T r i x S P n tx ln) (hx : xS S) (hQ : ∀ r' l' i' o' tx' ln', xS (nxS S o') → lwX T r' i' x (nxS S o') (nxP n P S o') (nxN n o') tx' ln' → Q (some (.int 1)) T r' l' i') (ht : (a < nW S ∧ t6 = 1) ∨ (a = nW S ∧ t6 = 0)) (hK : K ≤ 41) : G Γ ML_acts 0 0 267 [(0, .ref x), (1, .int v), (2, .int y), (3, .int t3), (4, .int (nI (nW S))), (5, .int (nI a)), (6, .int t6)] [.int (nI K)] T r l i Q := by
  have hS := hX.v.1
  have hn5 := (nW_of hS).1
  rcases ht with ⟨ha, rfl⟩ | ⟨rfl, rfl⟩
  · by_cases hK0 : K = 0
    · subst hK0
      have eB : aStep S (nI a) (nI 0) = (-1000001, none) := aStep_K (Or.inl rfl)
      refine G_sn7 (pc := 267) (gSt_i dL_acts_267 (by decide)) rfl ?_
      refine G_iload (pc := 269) 6 dL_acts_269 rfl ?_
      refine G_if_eq (pc := 271) (tgt := 284) dL_acts_271 (by decide) (fun h271 => ?_) (fun h271 => ?_)
      · exact absurd h271 (by decide)
      · refine G_aload_n (pc := 274) 0 dL_acts_274 rfl ?_
        refine G_iload (pc := 275) 5 dL_acts_275 rfl ?_
        refine G_iconst (pc := 277) (v := 0) dL_acts_277 rfl ?_
        refine gV2 (pc := 278) (k' := 0) (n' := 0) dL_acts_278 lkL_23 ⟨by decide, by decide⟩ (Nat.le_of_ble_eq_true rfl) rfl rfl ⟨by decide, by decide⟩ hX.k (q_walkOf hA hX ?_)
        intro i hX
        dsimp only [gRt]
        rw [w0_of hS ha]
        refine G_goto (pc := 281) (tgt := 285) dL_acts_281 (by decide) ?_
        refine G_sn8 (pc := 285) (gSt_i dL_acts_285 (by decide)) rfl ?_
        refine G_iload (pc := 287) 6 dL_acts_287 rfl ?_
        refine G_if_eq (pc := 289) (tgt := 302) dL_acts_289 (by decide) (fun h289 => ?_) (fun h289 => ?_)
        · exact absurd h289 (by decide)
        · refine G_aload_n (pc := 292) 0 dL_acts_292 rfl ?_
          refine G_iload (pc := 293) 5 dL_acts_293 rfl ?_
          refine G_iconst (pc := 295) (v := 3) dL_acts_295 rfl ?_
          refine gV2 (pc := 296) (k' := 0) (n' := 0) dL_acts_296 lkL_23 ⟨by decide, by decide⟩ (Nat.le_of_ble_eq_true rfl) rfl rfl ⟨by decide, by decide⟩ hX.k (q_walkOf hA hX ?_)
          intro i hX
          dsimp only [gRt]
          refine G_goto (pc := 299) (tgt := 303) dL_acts_299 (by decide) ?_
          refine G_sn9 (pc := 303) (gSt_i dL_acts_303 (by decide)) rfl ?_
          refine G_aload_n (pc := 305) 0 dL_acts_305 rfl ?_
          refine G_iload (pc := 306) 5 dL_acts_306 rfl ?_
          refine G_iload (pc := 308) 7 dL_acts_308 rfl ?_
          refine gV2 (pc := 310) (k' := 0) (n' := 0) dL_acts_310 lkL_67 ⟨by decide, by decide⟩ (Nat.le_of_ble_eq_true rfl) rfl rfl ⟨by decide, by decide⟩ hX.k (q_step hA hX ?_)
          intro r l i hX
          dsimp only [gRt]
          rw [eB] at hX ⊢
          (try dsimp only at hX ⊢)
          refine G_sn10 (pc := 313) (gSt_i dL_acts_313 (by decide)) rfl ?_
          refine G_iload (pc := 315) 6 dL_acts_315 rfl ?_
          refine G_if_eq (pc := 317) (tgt := 332) dL_acts_317 (by decide) (fun h317 => ?_) (fun h317 => ?_)
          · exact absurd h317 (by decide)
          · refine G_iload (pc := 320) 7 dL_acts_320 rfl ?_
            refine G_if_eq (pc := 322) (tgt := 332) dL_acts_322 (by decide) (fun h322 => ?_) (fun h322 => ?_)
            · refine G_iload (pc := 332) 10 dL_acts_332 rfl ?_
              refine G_ldc (pc := 334) dL_acts_334 kcL_65 ?_
              refine G_icmp_ne (pc := 336) (tgt := 343) dL_acts_336 (by decide) (fun h336 => ?_) (fun h336 => ?_)
              · exact absurd rfl h336
              · refine G_iconst (pc := 339) (v := 1) dL_acts_339 rfl ?_
                refine G_goto (pc := 340) (tgt := 416) dL_acts_340 (by decide) ?_
                refine G_iret (pc := 416) dL_acts_416 ⟨_, rfl, rfl⟩ ⟨by decide, by decide⟩ ?_
                exact hQ r l i none tx ln hx hX
            · exact absurd rfl h322
    · by_cases hK1 : K = 41
      · subst hK1
        have eB : aStep S (nI a) (nI 41) = (-1000001, none) := aStep_K (Or.inr rfl)
        refine G_sn7 (pc := 267) (gSt_i dL_acts_267 (by decide)) rfl ?_
        refine G_iload (pc := 269) 6 dL_acts_269 rfl ?_
        refine G_if_eq (pc := 271) (tgt := 284) dL_acts_271 (by decide) (fun h271 => ?_) (fun h271 => ?_)
        · exact absurd h271 (by decide)
        · refine G_aload_n (pc := 274) 0 dL_acts_274 rfl ?_
          refine G_iload (pc := 275) 5 dL_acts_275 rfl ?_
          refine G_iconst (pc := 277) (v := 0) dL_acts_277 rfl ?_
          refine gV2 (pc := 278) (k' := 0) (n' := 0) dL_acts_278 lkL_23 ⟨by decide, by decide⟩ (Nat.le_of_ble_eq_true rfl) rfl rfl ⟨by decide, by decide⟩ hX.k (q_walkOf hA hX ?_)
          intro i hX
          dsimp only [gRt]
          rw [w0_of hS ha]
          refine G_goto (pc := 281) (tgt := 285) dL_acts_281 (by decide) ?_
          refine G_sn8 (pc := 285) (gSt_i dL_acts_285 (by decide)) rfl ?_
          refine G_iload (pc := 287) 6 dL_acts_287 rfl ?_
          refine G_if_eq (pc := 289) (tgt := 302) dL_acts_289 (by decide) (fun h289 => ?_) (fun h289 => ?_)
          · exact absurd h289 (by decide)
          · refine G_aload_n (pc := 292) 0 dL_acts_292 rfl ?_
            refine G_iload (pc := 293) 5 dL_acts_293 rfl ?_
            refine G_iconst (pc := 295) (v := 3) dL_acts_295 rfl ?_
            refine gV2 (pc := 296) (k' := 0) (n' := 0) dL_acts_296 lkL_23 ⟨by decide, by decide⟩ (Nat.le_of_ble_eq_true rfl) rfl rfl ⟨by decide, by decide⟩ hX.k (q_walkOf hA hX ?_)
            intro i hX
            dsimp only [gRt]
            refine G_goto (pc := 299) (tgt := 303) dL_acts_299 (by decide) ?_
            refine G_sn9 (pc := 303) (gSt_i dL_acts_303 (by decide)) rfl ?_
            refine G_aload_n (pc := 305) 0 dL_acts_305 rfl ?_
            refine G_iload (pc := 306) 5 dL_acts_306 rfl ?_
            refine G_iload (pc := 308) 7 dL_acts_308 rfl ?_
            refine gV2 (pc := 310) (k' := 0) (n' := 0) dL_acts_310 lkL_67 ⟨by decide, by decide⟩ (Nat.le_of_ble_eq_true rfl) rfl rfl ⟨by decide, by decide⟩ hX.k (q_step hA hX ?_)
            intro r l i hX
            dsimp only [gRt]
            rw [eB] at hX ⊢
            (try dsimp only at hX ⊢)
            refine G_sn10 (pc := 313) (gSt_i dL_acts_313 (by decide)) rfl ?_
            refine G_iload (pc := 315) 6 dL_acts_315 rfl ?_
            refine G_if_eq (pc := 317) (tgt := 332) dL_acts_317 (by decide) (fun h317 => ?_) (fun h317 => ?_)
            · exact absurd h317 (by decide)
            · refine G_iload (pc := 320) 7 dL_acts_320 rfl ?_
              refine G_if_eq (pc := 322) (tgt := 332) dL_acts_322 (by decide) (fun h322 => ?_) (fun h322 => ?_)
              · exact absurd h322 (by decide)
              · refine G_iload (pc := 325) 7 dL_acts_325 rfl ?_
                refine G_bipush (pc := 327) (v := 41) dL_acts_327 rfl ?_
                refine G_icmp_ne (pc := 329) (tgt := 347) dL_acts_329 (by decide) (fun h329 => ?_) (fun h329 => ?_)
                · exact absurd rfl h329
                · refine G_iload (pc := 332) 10 dL_acts_332 rfl ?_
                  refine G_ldc (pc := 334) dL_acts_334 kcL_65 ?_
                  refine G_icmp_ne (pc := 336) (tgt := 343) dL_acts_336 (by decide) (fun h336 => ?_) (fun h336 => ?_)
                  · exact absurd rfl h336
                  · refine G_iconst (pc := 339) (v := 1) dL_acts_339 rfl ?_
                    refine G_goto (pc := 340) (tgt := 416) dL_acts_340 (by decide) ?_
                    refine G_iret (pc := 416) dL_acts_416 ⟨_, rfl, rfl⟩ ⟨by decide, by decide⟩ ?_
                    exact hQ r l i none tx ln hx hX
      · by_cases hs : gStop S (23 + 166 * a)
        · have eB := aStep_st (K := K) hS ha (by omega) (by omega) hs
          have w3 := (w3_of hS ha).1 hs
          refine G_sn7 (pc := 267) (gSt_i dL_acts_267 (by decide)) rfl ?_
          refine G_iload (pc := 269) 6 dL_acts_269 rfl ?_
          refine G_if_eq (pc := 271) (tgt := 284) dL_acts_271 (by decide) (fun h271 => ?_) (fun h271 => ?_)
          · exact absurd h271 (by decide)
          · refine G_aload_n (pc := 274) 0 dL_acts_274 rfl ?_
            refine G_iload (pc := 275) 5 dL_acts_275 rfl ?_
            refine G_iconst (pc := 277) (v := 0) dL_acts_277 rfl ?_
            refine gV2 (pc := 278) (k' := 0) (n' := 0) dL_acts_278 lkL_23 ⟨by decide, by decide⟩ (Nat.le_of_ble_eq_true rfl) rfl rfl ⟨by decide, by decide⟩ hX.k (q_walkOf hA hX ?_)
            intro i hX
            dsimp only [gRt]
            rw [w0_of hS ha]
            refine G_goto (pc := 281) (tgt := 285) dL_acts_281 (by decide) ?_
            refine G_sn8 (pc := 285) (gSt_i dL_acts_285 (by decide)) rfl ?_
            refine G_iload (pc := 287) 6 dL_acts_287 rfl ?_
            refine G_if_eq (pc := 289) (tgt := 302) dL_acts_289 (by decide) (fun h289 => ?_) (fun h289 => ?_)
            · exact absurd h289 (by decide)
            · refine G_aload_n (pc := 292) 0 dL_acts_292 rfl ?_
              refine G_iload (pc := 293) 5 dL_acts_293 rfl ?_
              refine G_iconst (pc := 295) (v := 3) dL_acts_295 rfl ?_
              refine gV2 (pc := 296) (k' := 0) (n' := 0) dL_acts_296 lkL_23 ⟨by decide, by decide⟩ (Nat.le_of_ble_eq_true rfl) rfl rfl ⟨by decide, by decide⟩ hX.k (q_walkOf hA hX ?_)
              intro i hX
              dsimp only [gRt]
              refine G_goto (pc := 299) (tgt := 303) dL_acts_299 (by decide) ?_
              refine G_sn9 (pc := 303) (gSt_i dL_acts_303 (by decide)) rfl ?_
              refine G_aload_n (pc := 305) 0 dL_acts_305 rfl ?_
              refine G_iload (pc := 306) 5 dL_acts_306 rfl ?_
              refine G_iload (pc := 308) 7 dL_acts_308 rfl ?_
              refine gV2 (pc := 310) (k' := 0) (n' := 0) dL_acts_310 lkL_67 ⟨by decide, by decide⟩ (Nat.le_of_ble_eq_true rfl) rfl rfl ⟨by decide, by decide⟩ hX.k (q_step hA hX ?_)
              intro r l i hX
              dsimp only [gRt]
              rw [eB] at hX ⊢
              (try dsimp only at hX ⊢)
              refine G_sn10 (pc := 313) (gSt_i dL_acts_313 (by decide)) rfl ?_
              refine G_iload (pc := 315) 6 dL_acts_315 rfl ?_
              refine G_if_eq (pc := 317) (tgt := 332) dL_acts_317 (by decide) (fun h317 => ?_) (fun h317 => ?_)
              · exact absurd h317 (by decide)
              · refine G_iload (pc := 320) 7 dL_acts_320 rfl ?_
                refine G_if_eq (pc := 322) (tgt := 332) dL_acts_322 (by decide) (fun h322 => ?_) (fun h322 => ?_)
                · exact absurd h322 (nI_ne0 (by omega) (by omega))
                · refine G_iload (pc := 325) 7 dL_acts_325 rfl ?_
                  refine G_bipush (pc := 327) (v := 41) dL_acts_327 rfl ?_
                  refine G_icmp_ne (pc := 329) (tgt := 347) dL_acts_329 (by decide) (fun h329 => ?_) (fun h329 => ?_)
                  · refine G_iload (pc := 347) 9 dL_acts_347 rfl ?_
                    refine G_if_le (pc := 349) (tgt := 367) dL_acts_349 (by decide) (fun h349 => ?_) (fun h349 => ?_)
                    · exact absurd h349 w3
                    · refine G_iload (pc := 352) 10 dL_acts_352 rfl ?_
                      refine G_ldc (pc := 354) dL_acts_354 kcL_61 ?_
                      refine G_icmp_ne (pc := 356) (tgt := 363) dL_acts_356 (by decide) (fun h356 => ?_) (fun h356 => ?_)
                      · exact absurd rfl h356
                      · refine G_iconst (pc := 359) (v := 1) dL_acts_359 rfl ?_
                        refine G_goto (pc := 360) (tgt := 416) dL_acts_360 (by decide) ?_
                        refine G_iret (pc := 416) dL_acts_416 ⟨_, rfl, rfl⟩ ⟨by decide, by decide⟩ ?_
                        exact hQ r l i none tx ln hx hX
                  · exact absurd ((nI_eq (by omega) (by decide)).mp (show nI K = nI 41 from h329)) hK1
        · have eB := aStep_y (K := K) hS ha (by omega) (by omega) hs
          have w3 := (w3_of hS ha).2 hs
          obtain ⟨k1, k2, k3, k4⟩ := wk_of (a := a) K S hS ha
          have hxF : xS (nxS S (some (wkR (23 + 166 * a) K S).1)) := by
            have z := x_step (w := nI a) (k := nI K) hx hS
            rw [eB] at z
            exact z
          refine G_sn7 (pc := 267) (gSt_i dL_acts_267 (by decide)) rfl ?_
          refine G_iload (pc := 269) 6 dL_acts_269 rfl ?_
          refine G_if_eq (pc := 271) (tgt := 284) dL_acts_271 (by decide) (fun h271 => ?_) (fun h271 => ?_)
          · exact absurd h271 (by decide)
          · refine G_aload_n (pc := 274) 0 dL_acts_274 rfl ?_
            refine G_iload (pc := 275) 5 dL_acts_275 rfl ?_
            refine G_iconst (pc := 277) (v := 0) dL_acts_277 rfl ?_
            refine gV2 (pc := 278) (k' := 0) (n' := 0) dL_acts_278 lkL_23 ⟨by decide, by decide⟩ (Nat.le_of_ble_eq_true rfl) rfl rfl ⟨by decide, by decide⟩ hX.k (q_walkOf hA hX ?_)
            intro i hX
            dsimp only [gRt]
            rw [w0_of hS ha]
            refine G_goto (pc := 281) (tgt := 285) dL_acts_281 (by decide) ?_
            refine G_sn8 (pc := 285) (gSt_i dL_acts_285 (by decide)) rfl ?_
            refine G_iload (pc := 287) 6 dL_acts_287 rfl ?_
            refine G_if_eq (pc := 289) (tgt := 302) dL_acts_289 (by decide) (fun h289 => ?_) (fun h289 => ?_)
            · exact absurd h289 (by decide)
            · refine G_aload_n (pc := 292) 0 dL_acts_292 rfl ?_
              refine G_iload (pc := 293) 5 dL_acts_293 rfl ?_
              refine G_iconst (pc := 295) (v := 3) dL_acts_295 rfl ?_
              refine gV2 (pc := 296) (k' := 0) (n' := 0) dL_acts_296 lkL_23 ⟨by decide, by decide⟩ (Nat.le_of_ble_eq_true rfl) rfl rfl ⟨by decide, by decide⟩ hX.k (q_walkOf hA hX ?_)
              intro i hX
              dsimp only [gRt]
              rw [w3]
              refine G_goto (pc := 299) (tgt := 303) dL_acts_299 (by decide) ?_
              refine G_sn9 (pc := 303) (gSt_i dL_acts_303 (by decide)) rfl ?_
              refine G_aload_n (pc := 305) 0 dL_acts_305 rfl ?_
              refine G_iload (pc := 306) 5 dL_acts_306 rfl ?_
              refine G_iload (pc := 308) 7 dL_acts_308 rfl ?_
              refine gV2 (pc := 310) (k' := 0) (n' := 0) dL_acts_310 lkL_67 ⟨by decide, by decide⟩ (Nat.le_of_ble_eq_true rfl) rfl rfl ⟨by decide, by decide⟩ hX.k (q_step hA hX ?_)
              intro r l i hX
              dsimp only [gRt]
              rw [eB] at hX ⊢
              replace hX : lwX T r i x (wkR (23 + 166 * a) K S).1 (nxP n P S (some (wkR (23 + 166 * a) K S).1)) (nxN n (some (wkR (23 + 166 * a) K S).1)) tx ln := hX
              dsimp only
              have ha2 : a < nW (wkR (23 + 166 * a) K S).1 := by omega
              have hF := hX.v.1
              refine G_sn10 (pc := 313) (gSt_i dL_acts_313 (by decide)) rfl ?_
              refine G_iload (pc := 315) 6 dL_acts_315 rfl ?_
              refine G_if_eq (pc := 317) (tgt := 332) dL_acts_317 (by decide) (fun h317 => ?_) (fun h317 => ?_)
              · exact absurd h317 (by decide)
              · refine G_iload (pc := 320) 7 dL_acts_320 rfl ?_
                refine G_if_eq (pc := 322) (tgt := 332) dL_acts_322 (by decide) (fun h322 => ?_) (fun h322 => ?_)
                · exact absurd h322 (nI_ne0 (by omega) (by omega))
                · refine G_iload (pc := 325) 7 dL_acts_325 rfl ?_
                  refine G_bipush (pc := 327) (v := 41) dL_acts_327 rfl ?_
                  refine G_icmp_ne (pc := 329) (tgt := 347) dL_acts_329 (by decide) (fun h329 => ?_) (fun h329 => ?_)
                  · refine G_iload (pc := 347) 9 dL_acts_347 rfl ?_
                    refine G_if_le (pc := 349) (tgt := 367) dL_acts_349 (by decide) (fun h349 => ?_) (fun h349 => ?_)
                    · refine G_iload (pc := 367) 10 dL_acts_367 rfl ?_
                      refine G_if_lt (pc := 369) (tgt := 415) dL_acts_369 (by decide) (fun h369 => ?_) (fun h369 => ?_)
                      · exact absurd h369 (nI_pos (by omega))
                      · refine G_iload (pc := 372) 10 dL_acts_372 rfl ?_
                        refine G_iload (pc := 374) 7 dL_acts_374 rfl ?_
                        refine G_icmp_gt (pc := 376) (tgt := 415) dL_acts_376 (by decide) (fun h376 => ?_) (fun h376 => ?_)
                        · exact absurd h376 (nI_nlt k1 (by omega))
                        · refine G_aload_n (pc := 379) 0 dL_acts_379 rfl ?_
                          refine G_iload (pc := 380) 5 dL_acts_380 rfl ?_
                          refine G_iconst (pc := 382) (v := 0) dL_acts_382 rfl ?_
                          refine gV2 (pc := 383) (k' := 0) (n' := 0) dL_acts_383 lkL_23 ⟨by decide, by decide⟩ (Nat.le_of_ble_eq_true rfl) rfl rfl ⟨by decide, by decide⟩ hX.k (q_walkOf hA hX ?_)
                          intro i hX
                          dsimp only [gRt]
                          rw [w0_of hF ha2, k2]
                          refine G_iload (pc := 386) 8 dL_acts_386 rfl ?_
                          refine G_iload (pc := 388) 10 dL_acts_388 rfl ?_
                          refine G_iadd (pc := 390) dL_acts_390 ?_
                          rw [nI_add]
                          refine G_icmp_ne (pc := 391) (tgt := 415) dL_acts_391 (by decide) (fun h391 => ?_) (fun h391 => ?_)
                          · exact absurd rfl h391
                          · refine G_iload (pc := 394) 10 dL_acts_394 rfl ?_
                            refine G_iload (pc := 396) 7 dL_acts_396 rfl ?_
                            refine G_icmp_eq (pc := 398) (tgt := 411) dL_acts_398 (by decide) (fun h398 => ?_) (fun h398 => ?_)
                            · refine G_iconst (pc := 411) (v := 1) dL_acts_411 rfl ?_
                              refine G_goto (pc := 412) (tgt := 416) dL_acts_412 (by decide) ?_
                              refine G_iret (pc := 416) dL_acts_416 ⟨_, rfl, rfl⟩ ⟨by decide, by decide⟩ ?_
                              exact hQ r l i (some (wkR (23 + 166 * a) K S).1) tx ln hxF hX
                            · have k3b : gStop (wkR (23 + 166 * a) K S).1 (23 + 166 * a) := k3.elim (fun z => absurd (by rw [z]) h398) id
                              refine G_aload_n (pc := 401) 0 dL_acts_401 rfl ?_
                              refine G_iload (pc := 402) 5 dL_acts_402 rfl ?_
                              refine G_iconst (pc := 404) (v := 3) dL_acts_404 rfl ?_
                              refine gV2 (pc := 405) (k' := 0) (n' := 0) dL_acts_405 lkL_23 ⟨by decide, by decide⟩ (Nat.le_of_ble_eq_true rfl) rfl rfl ⟨by decide, by decide⟩ hX.k (q_walkOf hA hX ?_)
                              intro i hX
                              dsimp only [gRt]
                              refine G_if_le (pc := 408) (tgt := 415) dL_acts_408 (by decide) (fun h408 => ?_) (fun h408 => ?_)
                              · exact absurd h408 ((w3_of hF ha2).1 k3b)
                              · refine G_iconst (pc := 411) (v := 1) dL_acts_411 rfl ?_
                                refine G_goto (pc := 412) (tgt := 416) dL_acts_412 (by decide) ?_
                                refine G_iret (pc := 416) dL_acts_416 ⟨_, rfl, rfl⟩ ⟨by decide, by decide⟩ ?_
                                exact hQ r l i (some (wkR (23 + 166 * a) K S).1) tx ln hxF hX
                    · exact absurd (by decide) h349
                  · exact absurd ((nI_eq (by omega) (by decide)).mp (show nI K = nI 41 from h329)) hK1
  · have eB : aStep S (nI (nW S)) (nI K) = (-1000001, none) := aStep_no hS
    refine G_sn7 (pc := 267) (gSt_i dL_acts_267 (by decide)) rfl ?_
    refine G_iload (pc := 269) 6 dL_acts_269 rfl ?_
    refine G_if_eq (pc := 271) (tgt := 284) dL_acts_271 (by decide) (fun h271 => ?_) (fun h271 => ?_)
    · refine G_iconst (pc := 284) (v := 0) dL_acts_284 rfl ?_
      refine G_sn8 (pc := 285) (gSt_i dL_acts_285 (by decide)) rfl ?_
      refine G_iload (pc := 287) 6 dL_acts_287 rfl ?_
      refine G_if_eq (pc := 289) (tgt := 302) dL_acts_289 (by decide) (fun h289 => ?_) (fun h289 => ?_)
      · refine G_iconst (pc := 302) (v := 0) dL_acts_302 rfl ?_
        refine G_sn9 (pc := 303) (gSt_i dL_acts_303 (by decide)) rfl ?_
        refine G_aload_n (pc := 305) 0 dL_acts_305 rfl ?_
        refine G_iload (pc := 306) 5 dL_acts_306 rfl ?_
        refine G_iload (pc := 308) 7 dL_acts_308 rfl ?_
        refine gV2 (pc := 310) (k' := 0) (n' := 0) dL_acts_310 lkL_67 ⟨by decide, by decide⟩ (Nat.le_of_ble_eq_true rfl) rfl rfl ⟨by decide, by decide⟩ hX.k (q_step hA hX ?_)
        intro r l i hX
        dsimp only [gRt]
        rw [eB] at hX ⊢
        (try dsimp only at hX ⊢)
        refine G_sn10 (pc := 313) (gSt_i dL_acts_313 (by decide)) rfl ?_
        refine G_iload (pc := 315) 6 dL_acts_315 rfl ?_
        refine G_if_eq (pc := 317) (tgt := 332) dL_acts_317 (by decide) (fun h317 => ?_) (fun h317 => ?_)
        · refine G_iload (pc := 332) 10 dL_acts_332 rfl ?_
          refine G_ldc (pc := 334) dL_acts_334 kcL_65 ?_
          refine G_icmp_ne (pc := 336) (tgt := 343) dL_acts_336 (by decide) (fun h336 => ?_) (fun h336 => ?_)
          · exact absurd rfl h336
          · refine G_iconst (pc := 339) (v := 1) dL_acts_339 rfl ?_
            refine G_goto (pc := 340) (tgt := 416) dL_acts_340 (by decide) ?_
            refine G_iret (pc := 416) dL_acts_416 ⟨_, rfl, rfl⟩ ⟨by decide, by decide⟩ ?_
            exact hQ r l i none tx ln hx hX
        · exact absurd rfl h317
      · exact absurd rfl h289
    · exact absurd rfl h271

set_option maxRecDepth 100000 in
set_option maxHeartbeats 4000000 in
theorem t_acts_step {Γ : gG} {T : gTy} {r : gR} {l : gLg} {i : gI} {Q : gQ} {x n ln : Nat} {S : Nat → Int32} {P : Nat → Nat → Int32} {tx : Nat → Int32} {a : Nat} {v y t3 t6 : Int32} (hA : gN Γ ≤ x) (hX : lwX T r i x S P n tx ln) (hx : xS S) (hQ : ∀ r' l' i' o' tx' ln', xS (nxS S o') → lwX T r' i' x (nxS S o') (nxP n P S o') (nxN n o') tx' ln' → Q (some (.int 1)) T r' l' i') (ht : (a < nW S ∧ t6 = 1) ∨ (a = nW S ∧ t6 = 0)) : G Γ ML_acts 0 0 238 [(0, .ref x), (1, .int v), (2, .int y), (3, .int t3), (4, .int (nI (nW S))), (5, .int (nI a)), (6, .int t6)] [] T r l i Q := by
  refine G_iload_n (pc := 238) 2 dL_acts_238 rfl ?_
  refine G_bipush (pc := 239) (v := 12) dL_acts_239 rfl ?_
  refine gS2 (pc := 241) (k' := 0) (n' := 0) dL_acts_241 lkL_36 ⟨by decide, by decide⟩ (Nat.le_of_ble_eq_true rfl) rfl rfl ⟨by decide, by decide⟩ (c_L_low (m := 12) (by decide) (by decide) ?_)
  intro u hu
  dsimp only [gRt]
  refine G_if_ne (pc := 244) (tgt := 258) dL_acts_244 (by decide) (fun h244 => ?_) (fun h244 => ?_)
  · refine G_iconst (pc := 258) (v := 1) dL_acts_258 rfl ?_
    refine G_iload_n (pc := 259) 2 dL_acts_259 rfl ?_
    refine G_iconst (pc := 260) (v := 4) dL_acts_260 rfl ?_
    refine G_ishr (pc := 261) dL_acts_261 ?_
    refine G_iconst (pc := 262) (v := 5) dL_acts_262 rfl ?_
    refine gS2 (pc := 263) (k' := 0) (n' := 0) dL_acts_263 lkL_36 ⟨by decide, by decide⟩ (Nat.le_of_ble_eq_true rfl) rfl rfl ⟨by decide, by decide⟩ (c_L_low (m := 5) (by decide) (by decide) ?_)
    intro e he
    dsimp only [gRt]
    refine G_iadd (pc := 266) dL_acts_266 ?_
    rw [show (1 : Int32) + nI e = nI (1 + e) from nI_add 1 e]
    exact t_acts_s hA hX hx hQ ht (by omega)
  · refine G_iload_n (pc := 247) 2 dL_acts_247 rfl ?_
    refine G_iconst (pc := 248) (v := 4) dL_acts_248 rfl ?_
    refine G_ishr (pc := 249) dL_acts_249 ?_
    refine G_bipush (pc := 250) (v := 42) dL_acts_250 rfl ?_
    refine gS2 (pc := 252) (k' := 0) (n' := 0) dL_acts_252 lkL_36 ⟨by decide, by decide⟩ (Nat.le_of_ble_eq_true rfl) rfl rfl ⟨by decide, by decide⟩ (c_L_low (m := 42) (by decide) (by decide) ?_)
    intro g hg
    dsimp only [gRt]
    refine G_goto (pc := 255) (tgt := 267) dL_acts_255 (by decide) ?_
    exact t_acts_s hA hX hx hQ ht (by omega)

