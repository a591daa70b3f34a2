/-! the law: its rounds, its entry -/
set_option maxRecDepth 100000 in
set_option maxHeartbeats 4000000 in
theorem t_law_277 {Γ : gG} {T : gTy} {r : gR} {l : gLg} {i : gI} {Q : gQ} {x n ln : Nat} {S : Nat → Int32} {P : Nat → Nat → Int32} {tx : Nat → Int32} {t : Nat} {v y c8 c9 : Int32} {w : Int64} (hA : gN Γ ≤ x) (ht : t < 30) (hK : ∀ (r : gR) (l : gLg) (i : gI) (S : Nat → Int32) (P : Nat → Nat → Int32) (n : Nat) (tx : Nat → Int32) (ln : Nat), lwX T r i x S P n tx ln → xS S → (∀ j, j < n → xS (P j)) → G Γ ML_law 194 4606 87 [(0, .ref (gsb Γ)), (1, .ref x), (2, .int 1), (3, .int (nI (t + 1)))] [] T r l i Q) (hX : lwX T r i x S P n tx ln) (hx : xS S) (hp : ∀ j, j < n → xS (P j)) : G Γ ML_law 194 4606 277 [(0, .ref (gsb Γ)), (1, .ref x), (2, .int 1), (3, .int (nI t)), (4, .int v), (5, .int y), (6, .long w), (8, .int c8), (9, .int c9)] [] T r l i Q := by
  have hn4 := hX.v.2.1
  have eC5 : aCount S n ln 5 = nI n := rfl
  refine G_iload_n (pc := 277) 2 dL_law_277 rfl ?_
  refine G_if_eq (pc := 278) (tgt := 323) dL_law_278 (by decide) (fun h278 => ?_) (fun h278 => ?_)
  · exact absurd h278 (by decide)
  · refine G_iload_n (pc := 281) 3 dL_law_281 rfl ?_
    refine G_bipush (pc := 282) (v := 6) dL_law_282 rfl ?_
    refine G_irem (pc := 284) dL_law_284 (by decide) ?_
    refine G_iconst (pc := 285) (v := 5) dL_law_285 rfl ?_
    refine G_icmp_ne (pc := 286) (tgt := 323) dL_law_286 (by decide) (fun h286 => ?_) (fun h286 => ?_)
    · refine G_inc3 (pc := 323) (v := 1) dL_law_323 rfl (by decide) rfl ?_
      refine G_goto (pc := 326) (tgt := 87) dL_law_326 (by decide) ?_
      refine G_drop8 ?_
      refine G_drop7 ?_
      refine G_drop6 ?_
      refine G_drop5 ?_
      refine G_drop4 ?_
      rw [nI_1]
      exact hK r l i S P _ tx ln hX hx hp
    · refine G_aload_n (pc := 289) 1 dL_law_289 rfl ?_
      refine G_iconst (pc := 290) (v := 5) dL_law_290 rfl ?_
      refine gV1 (pc := 291) (k' := 194) (n' := 4606) dL_law_291 lkL_13 ⟨by decide, by decide⟩ (Nat.le_of_ble_eq_true rfl) rfl rfl ⟨by decide, by decide⟩ hX.k (q_count hA hX ?_)
      dsimp only [gRt]
      rw [eC5]
      refine G_sn9 (pc := 294) (gSt_i dL_law_294 (by decide)) rfl ?_
      rcases Nat.eq_zero_or_pos n with hn0 | hn0
      · subst hn0
        refine G_aload_n (pc := 296) 1 dL_law_296 rfl ?_
        refine gV0 (pc := 297) (k' := 194) (n' := 4606) dL_law_297 lkL_97 ⟨by decide, by decide⟩ (Nat.le_of_ble_eq_true rfl) rfl rfl ⟨by decide, by decide⟩ hX.k (q_undo hA hX (fun _ => ?_) (fun b hb => absurd hb (by omega)))
        dsimp only [gRt]
        refine G_iload (pc := 300) 9 dL_law_300 rfl ?_
        refine G_if_ne (pc := 302) (tgt := 310) dL_law_302 (by decide) (fun h302 => ?_) (fun h302 => ?_)
        · exact absurd rfl h302
        · refine G_ldc (pc := 305) dL_law_305 kcL_61 ?_
          refine G_goto (pc := 307) (tgt := 314) dL_law_307 (by decide) ?_
          refine G_icmp_ne (pc := 314) (tgt := 321) dL_law_314 (by decide) (fun h314 => ?_) (fun h314 => ?_)
          · exact absurd rfl h314
          · refine G_iconst (pc := 317) (v := 1) dL_law_317 rfl ?_
            refine G_goto (pc := 318) (tgt := 322) dL_law_318 (by decide) ?_
            refine G_st2 (pc := 322) (gSt_in dL_law_322 rfl (by decide)) rfl ?_
            refine G_inc3 (pc := 323) (v := 1) dL_law_323 rfl (by decide) rfl ?_
            refine G_goto (pc := 326) (tgt := 87) dL_law_326 (by decide) ?_
            refine G_drop9 ?_
            refine G_drop8 ?_
            refine G_drop7 ?_
            refine G_drop6 ?_
            refine G_drop5 ?_
            refine G_drop4 ?_
            rw [nI_1]
            exact hK r l i S P _ tx ln hX hx hp
      · obtain ⟨b, rfl⟩ : ∃ b, n = b + 1 := ⟨n - 1, by omega⟩
        refine G_aload_n (pc := 296) 1 dL_law_296 rfl ?_
        refine gV0 (pc := 297) (k' := 194) (n' := 4606) dL_law_297 lkL_97 ⟨by decide, by decide⟩ (Nat.le_of_ble_eq_true rfl) rfl rfl ⟨by decide, by decide⟩ hX.k (q_undo hA hX (fun z => absurd z (by omega)) ?_)
        intro b2 hb2 i hX3
        dsimp only [gRt]
        have hbb : b2 = b := by omega
        rw [hbb] at hX3
        rw [hbb]
        refine G_iload (pc := 300) 9 dL_law_300 rfl ?_
        refine G_if_ne (pc := 302) (tgt := 310) dL_law_302 (by decide) (fun h302 => ?_) (fun h302 => ?_)
        · refine G_iload (pc := 310) 9 dL_law_310 rfl ?_
          refine G_iconst (pc := 312) (v := 1) dL_law_312 rfl ?_
          refine G_isub (pc := 313) dL_law_313 ?_
          rw [nI_pred]
          refine G_icmp_ne (pc := 314) (tgt := 321) dL_law_314 (by decide) (fun h314 => ?_) (fun h314 => ?_)
          · exact absurd rfl h314
          · refine G_iconst (pc := 317) (v := 1) dL_law_317 rfl ?_
            refine G_goto (pc := 318) (tgt := 322) dL_law_318 (by decide) ?_
            refine G_st2 (pc := 322) (gSt_in dL_law_322 rfl (by decide)) rfl ?_
            refine G_inc3 (pc := 323) (v := 1) dL_law_323 rfl (by decide) rfl ?_
            refine G_goto (pc := 326) (tgt := 87) dL_law_326 (by decide) ?_
            refine G_drop9 ?_
            refine G_drop8 ?_
            refine G_drop7 ?_
            refine G_drop6 ?_
            refine G_drop5 ?_
            refine G_drop4 ?_
            rw [nI_1]
            exact hK r l i (P b) P b tx ln hX3 (hp b (by omega)) (fun j hj => hp j (by omega))
        · exact absurd h302 (nI_ne0 (by omega) (by omega))

set_option maxRecDepth 100000 in
set_option maxHeartbeats 4000000 in
theorem t_law_177 {Γ : gG} {T : gTy} {r : gR} {l : gLg} {i : gI} {Q : gQ} {x n t : Nat} {S : Nat → Int32} {P : Nat → Nat → Int32} {is v y : Int32} {oo : Option (Nat → Int32)} {tx2 : Nat → Int32} {ln2 : Nat} (hA : gN Γ ≤ x) (ht : t < 30) (hK : ∀ (r : gR) (l : gLg) (i : gI) (S : Nat → Int32) (P : Nat → Nat → Int32) (n : Nat) (tx : Nat → Int32) (ln : Nat), lwX T r i x S P n tx ln → xS S → (∀ j, j < n → xS (P j)) → G Γ ML_law 194 4606 87 [(0, .ref (gsb Γ)), (1, .ref x), (2, .int 1), (3, .int (nI (t + 1)))] [] T r l i Q) (hS : vS S) (hx : xS S) (hn4 : n ≤ 4) (hp : ∀ j, j < n → xS (P j)) (hX2 : lwX T r i x (nxS S oo) (nxP n P S oo) (nxN n oo) tx2 ln2) (hx2 : xS (nxS S oo)) : G Γ ML_law 194 4606 177 [(0, .ref (gsb Γ)), (1, .ref x), (2, .int is), (3, .int (nI t)), (4, .int v), (5, .int y), (6, .long (DG S)), (8, .int (nI n))] [.int 1] T r l i Q := by
  have hp2 := vP_nx (V := xS) (o := oo) hx hn4 hp
  have eC5 : ∀ S' n', aCount S' n' ln2 5 = nI n' := fun _ _ => rfl
  cases oo with
  | none =>
    have hne : ¬ nI n = nI n + 1 := fun z => absurd ((nI_eq (a := n) (b := n + 1) (by omega) (by omega)).mp (z.trans (nI_1 n))) (by omega)
    replace hX2 : lwX T r i x S P n tx2 ln2 := hX2
    refine G_st2 (pc := 177) (gSt_in dL_law_177 rfl (by decide)) rfl ?_
    refine G_aload_n (pc := 178) 1 dL_law_178 rfl ?_
    refine G_iconst (pc := 179) (v := 5) dL_law_179 rfl ?_
    refine gV1 (pc := 180) (k' := 194) (n' := 4606) dL_law_180 lkL_13 ⟨by decide, by decide⟩ (Nat.le_of_ble_eq_true rfl) rfl rfl ⟨by decide, by decide⟩ hX2.k (q_count hA hX2 ?_)
    dsimp only [gRt]
    rw [eC5]
    refine G_sn8 (pc := 183) (gSt_i dL_law_183 (by decide)) rfl ?_
    refine G_iload_n (pc := 185) 2 dL_law_185 rfl ?_
    refine G_if_eq (pc := 186) (tgt := 225) dL_law_186 (by decide) (fun h186 => ?_) (fun h186 => ?_)
    · exact absurd h186 (by decide)
    · refine G_iload (pc := 189) 8 dL_law_189 rfl ?_
      refine G_iload (pc := 191) 7 dL_law_191 rfl ?_
      refine G_icmp_ne (pc := 193) (tgt := 212) dL_law_193 (by decide) (fun h193 => ?_) (fun h193 => ?_)
      · exact absurd rfl h193
      · refine G_iload (pc := 196) 7 dL_law_196 rfl ?_
        refine G_iconst (pc := 198) (v := 4) dL_law_198 rfl ?_
        refine G_icmp_eq (pc := 199) (tgt := 221) dL_law_199 (by decide) (fun h199 => ?_) (fun h199 => ?_)
        · refine G_iconst (pc := 221) (v := 1) dL_law_221 rfl ?_
          refine G_goto (pc := 222) (tgt := 226) dL_law_222 (by decide) ?_
          refine G_st2 (pc := 226) (gSt_in dL_law_226 rfl (by decide)) rfl ?_
          refine G_iload_n (pc := 227) 2 dL_law_227 rfl ?_
          refine G_if_eq (pc := 228) (tgt := 277) dL_law_228 (by decide) (fun h228 => ?_) (fun h228 => ?_)
          · exact absurd h228 (by decide)
          · refine G_iload (pc := 231) 8 dL_law_231 rfl ?_
            refine G_iload (pc := 233) 7 dL_law_233 rfl ?_
            refine G_iconst (pc := 235) (v := 1) dL_law_235 rfl ?_
            refine G_iadd (pc := 236) dL_law_236 ?_
            refine G_icmp_ne (pc := 237) (tgt := 277) dL_law_237 (by decide) (fun h237 => ?_) (fun h237 => ?_)
            · exact t_law_277 hA ht hK hX2 hx2 hp2
            · exact absurd h237 hne
        · refine G_aload_n (pc := 202) 1 dL_law_202 rfl ?_
          refine gS1 (pc := 203) (k' := 194) (n' := 4606) dL_law_203 lkL_106 ⟨by decide, by decide⟩ (Nat.le_of_ble_eq_true rfl) rfl rfl ⟨by decide, by decide⟩ (c_L_digest hA hX2 ?_)
          intro i hX2
          dsimp only [gRt]
          refine G_lload (pc := 206) 6 dL_law_206 rfl ?_
          refine G_lif_eq (pc := 208) (tgt := 221) dL_law_208 dL_law_209 (by decide) (fun h208 => ?_) (fun h208 => ?_)
          · refine G_iconst (pc := 221) (v := 1) dL_law_221 rfl ?_
            refine G_goto (pc := 222) (tgt := 226) dL_law_222 (by decide) ?_
            refine G_st2 (pc := 226) (gSt_in dL_law_226 rfl (by decide)) rfl ?_
            refine G_iload_n (pc := 227) 2 dL_law_227 rfl ?_
            refine G_if_eq (pc := 228) (tgt := 277) dL_law_228 (by decide) (fun h228 => ?_) (fun h228 => ?_)
            · exact absurd h228 (by decide)
            · refine G_iload (pc := 231) 8 dL_law_231 rfl ?_
              refine G_iload (pc := 233) 7 dL_law_233 rfl ?_
              refine G_iconst (pc := 235) (v := 1) dL_law_235 rfl ?_
              refine G_iadd (pc := 236) dL_law_236 ?_
              refine G_icmp_ne (pc := 237) (tgt := 277) dL_law_237 (by decide) (fun h237 => ?_) (fun h237 => ?_)
              · exact t_law_277 hA ht hK hX2 hx2 hp2
              · exact absurd h237 hne
          · exact absurd rfl h208
  | some F =>
    replace hX2 : lwX T r i x F (nxP n P S (some F)) (nxN n (some F)) tx2 ln2 := hX2
    by_cases h4 : n = 4
    · subst h4
      refine G_st2 (pc := 177) (gSt_in dL_law_177 rfl (by decide)) rfl ?_
      refine G_aload_n (pc := 178) 1 dL_law_178 rfl ?_
      refine G_iconst (pc := 179) (v := 5) dL_law_179 rfl ?_
      refine gV1 (pc := 180) (k' := 194) (n' := 4606) dL_law_180 lkL_13 ⟨by decide, by decide⟩ (Nat.le_of_ble_eq_true rfl) rfl rfl ⟨by decide, by decide⟩ hX2.k (q_count hA hX2 ?_)
      dsimp only [gRt]
      rw [eC5, show nxN 4 (some F) = 4 from rfl]
      refine G_sn8 (pc := 183) (gSt_i dL_law_183 (by decide)) rfl ?_
      refine G_iload_n (pc := 185) 2 dL_law_185 rfl ?_
      refine G_if_eq (pc := 186) (tgt := 225) dL_law_186 (by decide) (fun h186 => ?_) (fun h186 => ?_)
      · exact absurd h186 (by decide)
      · refine G_iload (pc := 189) 8 dL_law_189 rfl ?_
        refine G_iload (pc := 191) 7 dL_law_191 rfl ?_
        refine G_icmp_ne (pc := 193) (tgt := 212) dL_law_193 (by decide) (fun h193 => ?_) (fun h193 => ?_)
        · exact absurd rfl h193
        · refine G_iload (pc := 196) 7 dL_law_196 rfl ?_
          refine G_iconst (pc := 198) (v := 4) dL_law_198 rfl ?_
          refine G_icmp_eq (pc := 199) (tgt := 221) dL_law_199 (by decide) (fun h199 => ?_) (fun h199 => ?_)
          · refine G_iconst (pc := 221) (v := 1) dL_law_221 rfl ?_
            refine G_goto (pc := 222) (tgt := 226) dL_law_222 (by decide) ?_
            refine G_st2 (pc := 226) (gSt_in dL_law_226 rfl (by decide)) rfl ?_
            refine G_iload_n (pc := 227) 2 dL_law_227 rfl ?_
            refine G_if_eq (pc := 228) (tgt := 277) dL_law_228 (by decide) (fun h228 => ?_) (fun h228 => ?_)
            · exact absurd h228 (by decide)
            · refine G_iload (pc := 231) 8 dL_law_231 rfl ?_
              refine G_iload (pc := 233) 7 dL_law_233 rfl ?_
              refine G_iconst (pc := 235) (v := 1) dL_law_235 rfl ?_
              refine G_iadd (pc := 236) dL_law_236 ?_
              refine G_icmp_ne (pc := 237) (tgt := 277) dL_law_237 (by decide) (fun h237 => ?_) (fun h237 => ?_)
              · exact t_law_277 hA ht hK hX2 hx2 hp2
              · exact absurd h237 (by decide)
          · exact absurd rfl h199
    · have hlt : n < 4 := by omega
      have eN : nxN n (some F) = n + 1 := if_pos hlt
      have hne1 : ¬ nI n = nI (n + 1) := fun z => absurd ((nI_eq (by omega) (by omega)).mp z) (by omega)
      have eP : ∀ b, b = n → nxP n P S (some F) b = S := fun b hb => by
        show psP n P S b = S
        unfold psP
        rw [if_pos hlt, hb]
        exact if_pos rfl
      have eQ : ∀ j, j < n → nxP n P S (some F) j = P j := fun j hj => by
        show psP n P S j = P j
        unfold psP
        rw [if_pos hlt]
        exact if_neg (by omega)
      refine G_st2 (pc := 177) (gSt_in dL_law_177 rfl (by decide)) rfl ?_
      refine G_aload_n (pc := 178) 1 dL_law_178 rfl ?_
      refine G_iconst (pc := 179) (v := 5) dL_law_179 rfl ?_
      refine gV1 (pc := 180) (k' := 194) (n' := 4606) dL_law_180 lkL_13 ⟨by decide, by decide⟩ (Nat.le_of_ble_eq_true rfl) rfl rfl ⟨by decide, by decide⟩ hX2.k (q_count hA hX2 ?_)
      dsimp only [gRt]
      rw [eC5, eN]
      refine G_sn8 (pc := 183) (gSt_i dL_law_183 (by decide)) rfl ?_
      refine G_iload_n (pc := 185) 2 dL_law_185 rfl ?_
      refine G_if_eq (pc := 186) (tgt := 225) dL_law_186 (by decide) (fun h186 => ?_) (fun h186 => ?_)
      · exact absurd h186 (by decide)
      · refine G_iload (pc := 189) 8 dL_law_189 rfl ?_
        refine G_iload (pc := 191) 7 dL_law_191 rfl ?_
        refine G_icmp_ne (pc := 193) (tgt := 212) dL_law_193 (by decide) (fun h193 => ?_) (fun h193 => ?_)
        · refine G_iload (pc := 212) 8 dL_law_212 rfl ?_
          refine G_iload (pc := 214) 7 dL_law_214 rfl ?_
          refine G_iconst (pc := 216) (v := 1) dL_law_216 rfl ?_
          refine G_iadd (pc := 217) dL_law_217 ?_
          rw [nI_1]
          refine G_icmp_ne (pc := 218) (tgt := 225) dL_law_218 (by decide) (fun h218 => ?_) (fun h218 => ?_)
          · exact absurd rfl h218
          · refine G_iconst (pc := 221) (v := 1) dL_law_221 rfl ?_
            refine G_goto (pc := 222) (tgt := 226) dL_law_222 (by decide) ?_
            refine G_st2 (pc := 226) (gSt_in dL_law_226 rfl (by decide)) rfl ?_
            refine G_iload_n (pc := 227) 2 dL_law_227 rfl ?_
            refine G_if_eq (pc := 228) (tgt := 277) dL_law_228 (by decide) (fun h228 => ?_) (fun h228 => ?_)
            · exact absurd h228 (by decide)
            · refine G_iload (pc := 231) 8 dL_law_231 rfl ?_
              refine G_iload (pc := 233) 7 dL_law_233 rfl ?_
              refine G_iconst (pc := 235) (v := 1) dL_law_235 rfl ?_
              refine G_iadd (pc := 236) dL_law_236 ?_
              rw [nI_1]
              refine G_icmp_ne (pc := 237) (tgt := 277) dL_law_237 (by decide) (fun h237 => ?_) (fun h237 => ?_)
              · exact absurd rfl h237
              · refine G_iload (pc := 240) 5 dL_law_240 rfl ?_
                refine G_bipush (pc := 242) (v := 8) dL_law_242 rfl ?_
                refine G_ishr (pc := 244) dL_law_244 ?_
                refine G_iconst (pc := 245) (v := 3) dL_law_245 rfl ?_
                refine gS2 (pc := 246) (k' := 194) (n' := 4606) dL_law_246 lkL_36 ⟨by decide, by decide⟩ (Nat.le_of_ble_eq_true rfl) rfl rfl ⟨by decide, by decide⟩ (c_L_low (m := 3) (by decide) (by decide) ?_)
                intro u hu
                dsimp only [gRt]
                refine G_if_ne (pc := 249) (tgt := 277) dL_law_249 (by decide) (fun h249 => ?_) (fun h249 => ?_)
                · exact t_law_277 hA ht hK hX2 hx2 hp2
                · refine G_aload_n (pc := 252) 1 dL_law_252 rfl ?_
                  refine gV0 (pc := 253) (k' := 194) (n' := 4606) dL_law_253 lkL_97 ⟨by decide, by decide⟩ (Nat.le_of_ble_eq_true rfl) rfl rfl ⟨by decide, by decide⟩ hX2.k (q_undo hA hX2 (fun z => absurd z (by omega)) ?_)
                  intro b hb i hX3
                  dsimp only [gRt]
                  have hbn : b = n := by omega
                  rw [hbn, eP n rfl] at hX3
                  rw [hbn]
                  refine G_iload (pc := 256) 7 dL_law_256 rfl ?_
                  refine G_icmp_ne (pc := 258) (tgt := 275) dL_law_258 (by decide) (fun h258 => ?_) (fun h258 => ?_)
                  · exact absurd rfl h258
                  · refine G_aload_n (pc := 261) 1 dL_law_261 rfl ?_
                    refine gS1 (pc := 262) (k' := 194) (n' := 4606) dL_law_262 lkL_106 ⟨by decide, by decide⟩ (Nat.le_of_ble_eq_true rfl) rfl rfl ⟨by decide, by decide⟩ (c_L_digest hA hX3 ?_)
                    intro i hX3
                    dsimp only [gRt]
                    refine G_lload (pc := 265) 6 dL_law_265 rfl ?_
                    refine G_lif_ne (pc := 267) (tgt := 275) dL_law_267 dL_law_268 (by decide) (fun h267 => ?_) (fun h267 => ?_)
                    · exact absurd rfl h267
                    · refine G_iconst (pc := 271) (v := 1) dL_law_271 rfl ?_
                      refine G_goto (pc := 272) (tgt := 276) dL_law_272 (by decide) ?_
                      refine G_st2 (pc := 276) (gSt_in dL_law_276 rfl (by decide)) rfl ?_
                      exact t_law_277 hA ht hK hX3 hx (fun j hj => by rw [eQ j hj]; exact hp j hj)
        · exact absurd h193.symm hne1

set_option maxRecDepth 100000 in
set_option maxHeartbeats 4000000 in
theorem t_law_148 {Γ : gG} {T : gTy} {r : gR} {l : gLg} {i : gI} {Q : gQ} {x n ln : Nat} {S : Nat → Int32} {P : Nat → Nat → Int32} {tx : Nat → Int32} {t : Nat} {v v2 y : Int32} (hA : gN Γ ≤ x) (ht : t < 30) (hK : ∀ (r : gR) (l : gLg) (i : gI) (S : Nat → Int32) (P : Nat → Nat → Int32) (n : Nat) (tx : Nat → Int32) (ln : Nat), lwX T r i x S P n tx ln → xS S → (∀ j, j < n → xS (P j)) → G Γ ML_law 194 4606 87 [(0, .ref (gsb Γ)), (1, .ref x), (2, .int 1), (3, .int (nI (t + 1)))] [] T r l i Q) (hX : lwX T r i x S P n tx ln) (hx : xS S) (hp : ∀ j, j < n → xS (P j)) : G Γ ML_law 194 4606 148 [(0, .ref (gsb Γ)), (1, .ref x), (2, .int 1), (3, .int (nI t)), (4, .int v), (5, .int y), (6, .long (DG S)), (8, .int (nI n))] [.int v2, .ref x] T r l i Q := by
  have hS := hX.v.1
  have hn4 := hX.v.2.1
  refine G_iload (pc := 148) 5 dL_law_148 rfl ?_
  refine gS3 (pc := 150) (k' := 194) (n' := 4606) dL_law_150 lkL_110 ⟨by decide, by decide⟩ (Nat.le_of_ble_eq_true rfl) rfl rfl ⟨by decide, by decide⟩ (c_L_acts hA hX hx ?_)
  intro r l i oo tx2 ln2 hx2 hX2
  dsimp only [gRt]
  refine G_if_eq (pc := 153) (tgt := 176) dL_law_153 (by decide) (fun h153 => ?_) (fun h153 => ?_)
  · exact absurd h153 (by decide)
  · refine G_iload_n (pc := 156) 3 dL_law_156 rfl ?_
    refine G_iconst (pc := 157) (v := 4) dL_law_157 rfl ?_
    refine G_irem (pc := 158) dL_law_158 (by decide) ?_
    refine G_iconst (pc := 159) (v := 3) dL_law_159 rfl ?_
    refine G_icmp_ne (pc := 160) (tgt := 172) dL_law_160 (by decide) (fun h160 => ?_) (fun h160 => ?_)
    · refine G_iconst (pc := 172) (v := 1) dL_law_172 rfl ?_
      refine G_goto (pc := 173) (tgt := 177) dL_law_173 (by decide) ?_
      exact t_law_177 hA ht hK hS hx hn4 hp hX2 hx2
    · refine G_aload_n (pc := 163) 1 dL_law_163 rfl ?_
      refine G_iload (pc := 164) 5 dL_law_164 rfl ?_
      refine gS2 (pc := 166) (k' := 194) (n' := 4606) dL_law_166 lkL_94 ⟨by decide, by decide⟩ (Nat.le_of_ble_eq_true rfl) rfl rfl ⟨by decide, by decide⟩ (c_L_holds hA hX2 hx2 ?_)
      intro l i hX2
      dsimp only [gRt]
      refine G_if_eq (pc := 169) (tgt := 176) dL_law_169 (by decide) (fun h169 => ?_) (fun h169 => ?_)
      · exact absurd h169 (by decide)
      · refine G_iconst (pc := 172) (v := 1) dL_law_172 rfl ?_
        refine G_goto (pc := 173) (tgt := 177) dL_law_173 (by decide) ?_
        exact t_law_177 hA ht hK hS hx hn4 hp hX2 hx2

set_option maxRecDepth 100000 in
set_option maxHeartbeats 4000000 in
theorem t_law_87 {Γ : gG} {T : gTy} {r : gR} {l : gLg} {i : gI} {Q : gQ} {x n ln : Nat} {S : Nat → Int32} {P : Nat → Nat → Int32} {tx : Nat → Int32} {t : Nat} (hL : gsL Γ ≤ 260) (hA : gN Γ ≤ x) (ht : t < 30) (hK : ∀ (r : gR) (l : gLg) (i : gI) (S : Nat → Int32) (P : Nat → Nat → Int32) (n : Nat) (tx : Nat → Int32) (ln : Nat), lwX T r i x S P n tx ln → xS S → (∀ j, j < n → xS (P j)) → G Γ ML_law 194 4606 87 [(0, .ref (gsb Γ)), (1, .ref x), (2, .int 1), (3, .int (nI (t + 1)))] [] T r l i Q) (hX : lwX T r i x S P n tx ln) (hx : xS S) (hp : ∀ j, j < n → xS (P j)) : G Γ ML_law 194 4606 87 [(0, .ref (gsb Γ)), (1, .ref x), (2, .int 1), (3, .int (nI t))] [] T r l i Q := by
  refine G_iload_n (pc := 87) 3 dL_law_87 rfl ?_
  refine G_bipush (pc := 88) (v := 30) dL_law_88 rfl ?_
  refine G_icmp_ge (pc := 90) (tgt := 329) dL_law_90 (by decide) (fun h90 => ?_) (fun h90 => ?_)
  · exact absurd h90 (nI_ge ht (by decide))
  · refine G_iload_n (pc := 93) 2 dL_law_93 rfl ?_
    refine G_if_eq (pc := 94) (tgt := 329) dL_law_94 (by decide) (fun h94 => ?_) (fun h94 => ?_)
    · exact absurd h94 (by decide)
    · refine G_aload_n (pc := 97) 0 dL_law_97 rfl ?_
      refine G_iconst (pc := 98) (v := 1) dL_law_98 rfl ?_
      refine G_iconst (pc := 99) (v := 2) dL_law_99 rfl ?_
      refine G_iload_n (pc := 100) 3 dL_law_100 rfl ?_
      refine G_imul (pc := 101) dL_law_101 ?_
      refine G_iadd (pc := 102) dL_law_102 ?_
      rw [show (1 : Int32) + 2 * nI t = nI (1 + 2 * t) from by rw [show (2 : Int32) = nI 2 from rfl, pk_mul]; exact nI_add 1 (2 * t)]
      refine gS2 (pc := 103) (k' := 194) (n' := 4606) dL_law_103 lkL_100 ⟨by decide, by decide⟩ (Nat.le_of_ble_eq_true rfl) rfl rfl ⟨by decide, by decide⟩ (c_L_lot (by omega) hL ?_)
      intro v
      dsimp only [gRt]
      refine G_sn4 (pc := 106) (gSt_i dL_law_106 (by decide)) rfl ?_
      refine G_aload_n (pc := 108) 0 dL_law_108 rfl ?_
      refine G_iconst (pc := 109) (v := 2) dL_law_109 rfl ?_
      refine G_iconst (pc := 110) (v := 2) dL_law_110 rfl ?_
      refine G_iload_n (pc := 111) 3 dL_law_111 rfl ?_
      refine G_imul (pc := 112) dL_law_112 ?_
      refine G_iadd (pc := 113) dL_law_113 ?_
      rw [show (2 : Int32) + 2 * nI t = nI (2 + 2 * t) from by rw [show (2 : Int32) = nI 2 from rfl, pk_mul]; exact nI_add 2 (2 * t)]
      refine gS2 (pc := 114) (k' := 194) (n' := 4606) dL_law_114 lkL_100 ⟨by decide, by decide⟩ (Nat.le_of_ble_eq_true rfl) rfl rfl ⟨by decide, by decide⟩ (c_L_lot (by omega) hL ?_)
      intro y
      dsimp only [gRt]
      refine G_sn5 (pc := 117) (gSt_i dL_law_117 (by decide)) rfl ?_
      refine G_aload_n (pc := 119) 1 dL_law_119 rfl ?_
      refine gS1 (pc := 120) (k' := 194) (n' := 4606) dL_law_120 lkL_106 ⟨by decide, by decide⟩ (Nat.le_of_ble_eq_true rfl) rfl rfl ⟨by decide, by decide⟩ (c_L_digest hA hX ?_)
      intro i hX
      dsimp only [gRt]
      refine G_sn6 (pc := 123) (gSt_l dL_law_123 (by decide)) rfl ?_
      refine G_aload_n (pc := 125) 1 dL_law_125 rfl ?_
      refine G_iconst (pc := 126) (v := 5) dL_law_126 rfl ?_
      refine gV1 (pc := 127) (k' := 194) (n' := 4606) dL_law_127 lkL_13 ⟨by decide, by decide⟩ (Nat.le_of_ble_eq_true rfl) rfl rfl ⟨by decide, by decide⟩ hX.k (q_count hA hX ?_)
      dsimp only [gRt]
      rw [show aCount S n ln 5 = nI n from rfl]
      refine G_sn7 (pc := 130) (gSt_i dL_law_130 (by decide)) rfl ?_
      refine G_aload_n (pc := 132) 1 dL_law_132 rfl ?_
      refine G_iload_n (pc := 133) 3 dL_law_133 rfl ?_
      refine G_iconst (pc := 134) (v := 3) dL_law_134 rfl ?_
      refine G_icmp_ge (pc := 135) (tgt := 146) dL_law_135 (by decide) (fun h135 => ?_) (fun h135 => ?_)
      · refine G_iload (pc := 146) 4 dL_law_146 rfl ?_
        exact t_law_148 hA ht hK hX hx hp
      · refine G_iload (pc := 138) 4 dL_law_138 rfl ?_
        refine G_bipush (pc := 140) (v := (-32)) dL_law_140 rfl ?_
        refine G_iand (pc := 142) dL_law_142 ?_
        refine G_goto (pc := 143) (tgt := 148) dL_law_143 (by decide) ?_
        exact t_law_148 hA ht hK hX hx hp

set_option maxRecDepth 100000 in
set_option maxHeartbeats 4000000 in
theorem lp_L_law {Γ : gG} {T : gTy} {Q : gQ} {x : Nat} (hA : gN Γ ≤ x) (hL : gsL Γ ≤ 260) (hQ : ∀ (T : gTy) (r : gR) (l : gLg) (i : gI), Q (some (.int 1)) T r l i) : ∀ d t (r : gR) (l : gLg) (i : gI) (S : Nat → Int32) (P : Nat → Nat → Int32) (n : Nat) (tx : Nat → Int32) (ln : Nat), t + d = 30 → lwX T r i x S P n tx ln → xS S → (∀ j, j < n → xS (P j)) → G Γ ML_law 194 4606 87 [(0, .ref (gsb Γ)), (1, .ref x), (2, .int 1), (3, .int (nI t))] [] T r l i Q := by
  intro d
  induction d with
  | zero =>
    intro t r l i S P n tx ln htd hX hx hp
    obtain rfl : t = 30 := by omega
    refine G_iload_n (pc := 87) 3 dL_law_87 rfl ?_
    refine G_bipush (pc := 88) (v := 30) dL_law_88 rfl ?_
    refine G_icmp_ge (pc := 90) (tgt := 329) dL_law_90 (by decide) (fun h90 => ?_) (fun h90 => ?_)
    · refine G_iload_n (pc := 329) 2 dL_law_329 rfl ?_
      refine G_iret (pc := 330) dL_law_330 ⟨_, rfl, rfl⟩ ⟨by decide, by decide⟩ ?_
      exact hQ T r l i
    · exact absurd (show (30 : Int32) ≤ nI 30 by decide) h90
  | succ d ih =>
    intro t r l i S P n tx ln htd hX hx hp
    exact t_law_87 hL hA (by omega) (fun r l i S P n tx ln hX hx hp => ih (t + 1) r l i S P n tx ln (by omega) hX hx hp) hX hx hp

/-- the flat state of a new object -/
def lwS : Nat → Int32 := upd (upd (upd (fun _ => 0) 2 16) 3 64) 4 8
theorem lwS_v : vS lwS := by
  refine ⟨vT_mk (n := 0) (by decide) rfl (fun k hk => absurd hk (Nat.not_lt_zero k)), ⟨⟨16, by decide, by decide, rfl⟩, ⟨64, by decide, by decide, rfl⟩, ?_⟩, 0, by decide, rfl, fun k hk => absurd hk (Nat.not_lt_zero k)⟩
  have e : tM lwS = 8 := by
    unfold tM
    rw [show lwS 4 = nI 8 from rfl, nI_clamp (by decide)]
  rw [e]
  exact ⟨by decide, by decide, rfl⟩
theorem lwX.new {T : gTy} {r : gR} {i : gI} {x : Nat} {ws : Nat → Nat} {hs : Nat → Nat → Nat} (hX : lyX T r x ws hs) (h1 : ∀ b, x + 1 ≤ b → b < x + 35 → i b = fun _ => 0) (h2 : i (x + 1 + 35) 0 = 16 ∧ i (x + 1 + 35) 1 = 64 ∧ i (x + 1 + 35) 2 = 8) (h3 : i (x + 37) = fun _ => 0) (h4 : i (x + 187) = fun _ => 0) : lwX T r i x lwS (fun _ _ => 0) 0 (i (x + 187 + 1)) 0 := by
  obtain ⟨s0, s1, s2⟩ := h2
  refine ⟨ws, hs, hX, ⟨⟨0, 0, ⟨by decide, ?_, rfl, fun k hk => absurd hk (Nat.not_lt_zero k)⟩, ⟨by decide, ?_, rfl, fun k hk => absurd hk (Nat.not_lt_zero k)⟩, fun c hc => ?_⟩, 0, by decide, by decide, ?_, ?_, fun j hj => absurd hj (Nat.not_lt_zero j)⟩, lwS_v, by decide, fun j hj => absurd hj (Nat.not_lt_zero j), ?_, by decide, rfl⟩
  · rw [h1 _ (by omega) (by omega)]; rfl
  · rw [h1 _ (by omega) (by omega)]; rfl
  · rcases (show c = 0 ∨ c = 1 ∨ c = 2 by omega) with rfl | rfl | rfl
    · exact s0
    · exact s1
    · exact s2
  · rw [h3]; rfl
  · rw [h3]; rfl
  · rw [h4]; rfl
theorem aTerm_lo {S : Nat → Int32} {f u v : Int32} (hok : okT f u v) (h : tN S < 6) : (aTerm S f u v).1 = nI (tN S + 1) ∧ tN (nxS S (aTerm S f u v).2) = tN S + 1 := by
  unfold aTerm
  rw [if_pos hok, if_neg (by omega)]
  refine ⟨rfl, ?_⟩
  show (adF S (tN S) f u v 0).toNatClampNeg = _
  rw [adF_0, nI_clamp (by omega)]
set_option maxRecDepth 100000 in
set_option maxHeartbeats 4000000 in
theorem t_law_50 {Γ : gG} {T : gTy} {r : gR} {l : gLg} {i : gI} {Q : gQ} {x n ln : Nat} {S : Nat → Int32} {P : Nat → Nat → Int32} {tx : Nat → Int32} (hA : gN Γ ≤ x) (hL : gsL Γ ≤ 260) (hQ : ∀ (T : gTy) (r : gR) (l : gLg) (i : gI), Q (some (.int 1)) T r l i) (hX : lwX T r i x S P n tx ln) (hx : xS S) (hp : ∀ j, j < n → xS (P j)) : G Γ ML_law 194 4606 50 [(0, .ref (gsb Γ)), (1, .ref x)] [] T r l i Q := by
  have hS := hX.v.1
  have hn4 := hX.v.2.1
  refine G_aload_n (pc := 50) 1 dL_law_50 rfl ?_
  refine G_iconst (pc := 51) (v := 0) dL_law_51 rfl ?_
  refine gV1 (pc := 52) (k' := 194) (n' := 4606) dL_law_52 lkL_13 ⟨by decide, by decide⟩ (Nat.le_of_ble_eq_true rfl) rfl rfl ⟨by decide, by decide⟩ hX.k (q_count hA hX ?_)
  dsimp only [gRt]
  rw [aCount_t hS]
  refine G_iconst (pc := 55) (v := 1) dL_law_55 rfl ?_
  refine G_icmp_gt (pc := 56) (tgt := 79) dL_law_56 (by decide) (fun h56 => ?_) (fun h56 => ?_)
  · refine G_iconst (pc := 79) (v := 1) dL_law_79 rfl ?_
    refine G_goto (pc := 80) (tgt := 84) dL_law_80 (by decide) ?_
    refine G_sn2 (pc := 84) (gSt_in dL_law_84 rfl (by decide)) rfl ?_
    refine G_iconst (pc := 85) (v := 0) dL_law_85 rfl ?_
    refine G_sn3 (pc := 86) (gSt_in dL_law_86 rfl (by decide)) rfl ?_
    exact lp_L_law hA hL hQ 30 0 r l i _ _ _ _ _ rfl hX hx hp
  · have htn : tN S < 2 := by
      rcases Nat.lt_or_ge (tN S) 2 with z | z
      · exact z
      · exact absurd (nI_lt z (by have := (vT_el hS.1).1; omega)) h56
    obtain ⟨e1, e2⟩ := aTerm_lo (S := S) (f := 1) (u := 1) (v := 1) (by decide) (by omega)
    obtain ⟨e3, _⟩ := aTerm_lo (S := nxS S (aTerm S 1 1 1).2) (f := 2) (u := 0) (v := 2) (by decide) (by omega)
    refine G_aload_n (pc := 59) 1 dL_law_59 rfl ?_
    refine G_iconst (pc := 60) (v := 1) dL_law_60 rfl ?_
    refine G_iconst (pc := 61) (v := 1) dL_law_61 rfl ?_
    refine G_iconst (pc := 62) (v := 1) dL_law_62 rfl ?_
    refine gV3 (pc := 63) (k' := 194) (n' := 4606) dL_law_63 lkL_79 ⟨by decide, by decide⟩ (Nat.le_of_ble_eq_true rfl) rfl rfl ⟨by decide, by decide⟩ hX.k (q_term hA hX ?_)
    intro r l i hX
    dsimp only [gRt]
    rw [e1]
    replace hp := vP_nx (V := xS) (o := (aTerm S 1 1 1).2) hx hn4 hp
    replace hx := x_term (f := 1) (x := 1) (y := 1) hx
    refine G_if_le (pc := 66) (tgt := 83) dL_law_66 (by decide) (fun h66 => ?_) (fun h66 => ?_)
    · exact absurd h66 (nI_nle (by omega) (by omega))
    · refine G_aload_n (pc := 69) 1 dL_law_69 rfl ?_
      refine G_iconst (pc := 70) (v := 2) dL_law_70 rfl ?_
      refine G_iconst (pc := 71) (v := 0) dL_law_71 rfl ?_
      refine G_iconst (pc := 72) (v := 2) dL_law_72 rfl ?_
      refine gV3 (pc := 73) (k' := 194) (n' := 4606) dL_law_73 lkL_79 ⟨by decide, by decide⟩ (Nat.le_of_ble_eq_true rfl) rfl rfl ⟨by decide, by decide⟩ hX.k (q_term hA hX ?_)
      intro r l i hX
      dsimp only [gRt]
      rw [e3]
      replace hp := vP_nx (V := xS) (o := (aTerm (nxS S (aTerm S 1 1 1).2) 2 0 2).2) hx (nxN_le hn4) hp
      replace hx := x_term (f := 2) (x := 0) (y := 2) hx
      refine G_if_le (pc := 76) (tgt := 83) dL_law_76 (by decide) (fun h76 => ?_) (fun h76 => ?_)
      · exact absurd h76 (nI_nle (by omega) (by omega))
      · refine G_iconst (pc := 79) (v := 1) dL_law_79 rfl ?_
        refine G_goto (pc := 80) (tgt := 84) dL_law_80 (by decide) ?_
        refine G_sn2 (pc := 84) (gSt_in dL_law_84 rfl (by decide)) rfl ?_
        refine G_iconst (pc := 85) (v := 0) dL_law_85 rfl ?_
        refine G_sn3 (pc := 86) (gSt_in dL_law_86 rfl (by decide)) rfl ?_
        exact lp_L_law hA hL hQ 30 0 r l i _ _ _ _ _ rfl hX hx hp

set_option maxRecDepth 100000 in
set_option maxHeartbeats 4000000 in
theorem t_law_8 {Γ : gG} {T : gTy} {r : gR} {l : gLg} {i : gI} {Q : gQ} {x ln : Nat} {P : Nat → Nat → Int32} {S tx : Nat → Int32} (hA : gN Γ ≤ x) (hL : gsL Γ ≤ 260) (hQ : ∀ (T : gTy) (r : gR) (l : gLg) (i : gI), Q (some (.int 1)) T r l i) (hX : lwX T r i x S P 0 tx ln) (hx : xS S) : G Γ ML_law 194 4606 8 [(0, .ref (gsb Γ)), (1, .ref x)] [] T r l i Q := by
  refine G_aload_n (pc := 8) 1 dL_law_8 rfl ?_
  refine G_iconst (pc := 9) (v := 0) dL_law_9 rfl ?_
  refine gS2 (pc := 10) (k' := 194) (n' := 4606) dL_law_10 lkL_94 ⟨by decide, by decide⟩ (Nat.le_of_ble_eq_true rfl) rfl rfl ⟨by decide, by decide⟩ (c_L_holds hA hX hx ?_)
  intro l i hX
  dsimp only [gRt]
  refine G_if_eq (pc := 13) (tgt := 83) dL_law_13 (by decide) (fun h13 => ?_) (fun h13 => ?_)
  · exact absurd h13 (by decide)
  · refine G_aload_n (pc := 16) 1 dL_law_16 rfl ?_
    refine gV0 (pc := 17) (k' := 194) (n' := 4606) dL_law_17 lkL_97 ⟨by decide, by decide⟩ (Nat.le_of_ble_eq_true rfl) rfl rfl ⟨by decide, by decide⟩ hX.k (q_undo hA hX (fun _ => ?_) (fun b hb => absurd hb (by omega)))
    dsimp only [gRt]
    refine G_ldc (pc := 20) dL_law_20 kcL_61 ?_
    refine G_icmp_ne (pc := 22) (tgt := 83) dL_law_22 (by decide) (fun h22 => ?_) (fun h22 => ?_)
    · exact absurd rfl h22
    · refine G_aload_n (pc := 25) 1 dL_law_25 rfl ?_
      refine G_aload_n (pc := 26) 0 dL_law_26 rfl ?_
      refine G_iconst (pc := 27) (v := 0) dL_law_27 rfl ?_
      refine gS2 (pc := 28) (k' := 194) (n' := 4606) dL_law_28 lkL_100 ⟨by decide, by decide⟩ (Nat.le_of_ble_eq_true rfl) rfl rfl ⟨by decide, by decide⟩ (c_L_lot (k := 0) (by decide) hL ?_)
      intro v
      dsimp only [gRt]
      refine G_ldc (pc := 31) dL_law_31 kcL_104 ?_
      refine G_iand (pc := 33) dL_law_33 ?_
      refine G_ldc (pc := 34) dL_law_34 kcL_105 ?_
      refine G_ior (pc := 36) dL_law_36 ?_
      refine gS2 (pc := 37) (k' := 194) (n' := 4606) dL_law_37 lkL_85 ⟨by decide, by decide⟩ (Nat.le_of_ble_eq_true rfl) rfl rfl ⟨by decide, by decide⟩ (c_L_types hA hX ?_)
      intro i tx ln hln hX
      dsimp only [gRt]
      refine G_if_eq (pc := 40) (tgt := 83) dL_law_40 (by decide) (fun h40 => ?_) (fun h40 => ?_)
      · exact absurd h40 (by decide)
      · refine G_aload_n (pc := 43) 1 dL_law_43 rfl ?_
        refine gS1 (pc := 44) (k' := 194) (n' := 4606) dL_law_44 lkL_89 ⟨by decide, by decide⟩ (Nat.le_of_ble_eq_true rfl) rfl rfl ⟨by decide, by decide⟩ (c_L_reads hA hX ?_)
        intro r l i hX
        dsimp only [gRt]
        refine G_if_eq (pc := 47) (tgt := 83) dL_law_47 (by decide) (fun h47 => ?_) (fun h47 => ?_)
        · exact absurd h47 (by decide)
        · exact t_law_50 hA hL hQ hX (x_read hx) (vP_nx (V := xS) (o := (aRead tx ln S).2) hx (Nat.zero_le 4) (fun j hj => absurd hj (Nat.not_lt_zero j)))

set_option maxRecDepth 100000 in
set_option maxHeartbeats 4000000 in
theorem law_main {Γ : gG} {Q : gQ} {x : Nat} (hA : gN Γ ≤ x) (hL : gsL Γ ≤ 260) (hQ : ∀ (T : gTy) (r : gR) (l : gLg) (i : gI), Q (some (.int 1)) T r l i) : ∀ (sh : Nat → Nat × Nat) (r : gR) (l : gLg) (i : gI), G Γ ML_law 0 0 0 [(0, .ref (gsb Γ))] [] (x, sh) r l i Q := by
  intro sh r l i
  refine G_new (pc := 0) (ci := 11) (C := RX11) (Tb := TX11) (ty0 := tyX11) dL_law_0 rfl (by decide) rfl inGX11 tyX11_ok (fun j hj => by rcases (show j = 0 ∨ j = 1 ∨ j = 2 ∨ j = 3 ∨ j = 4 by omega) with rfl | rfl | rfl | rfl | rfl <;> rfl) clL_14 insX11 iniX11 (by decide) (by decide) ?_
  dsimp only [gT1, gR1, gL1, gI1]
  refine G_dup (pc := 3) dL_law_3 rfl ?_
  refine gI0 (pc := 4) (k' := 194) (n' := 4606) dL_law_4 lkL_93 ⟨by decide, by decide⟩ (Nat.le_of_ble_eq_true rfl) rfl rfl ⟨by decide, by decide⟩ (c_X11_init (a := x) rfl (by simp (disch := omega) only [vu_o, vu_s, up2_ne, up2_row, up2_self]) hA (by simp (disch := omega) only [vu_o, vu_s, up2_ne, up2_row, up2_self]) ?_)
  intro T1 r1 l1 i1 e1 o1 p1_0 p1_1 p1_2 p1_3 p1_4 p1_5
  dsimp only [gRt]
  refine G_sn1 (pc := 7) (gSt_an dL_law_7 rfl (by decide)) rfl ?_
  exact t_law_8 hA hL hQ (lwX.new p1_0 p1_1 p1_2 p1_3 p1_4) (xS_0 rfl)
