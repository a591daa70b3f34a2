/-! the law, case by case -/
set_option maxRecDepth 100000 in
set_option maxHeartbeats 4000000 in
theorem law_term {Γ : gG} {T : gTy} {r : gR} {l : gLg} {i : gI} {Q : gQ} {x t : Nat} (hA : gN Γ ≤ x) (hL : gsL Γ ≤ 2048) (ht : 4 * t + 4 ≤ gsL Γ) (hI : lwI T r i x) (hK : ∀ r' l' i', lwI T r' i' x → G Γ ML_law 200 9801 766 [(0, .ref (gsb Γ)), (1, .ref x), (2, .ref (x + 194)), (3, .int (nI (4 * t)))] [] T r' l' i' Q) : G Γ ML_law 200 9801 132 [(0, .ref (gsb Γ)), (1, .ref x), (2, .ref (x + 194)), (3, .int (nI (4 * t)))] [] T r l i Q := by
  have hI2 := hI
  obtain ⟨ws, hs, S, P, n, ln, hX, hM, hRX, hS, he, hP, hV, hl, hlm, hl6, htx⟩ := hI
  have hXk := hX.1
  have hMk := hM.1
  have hn4 := hP.1
  refine G_aload_n (pc := 132) 1 dL_law_132 rfl ?_
  refine G_aload_n (pc := 133) 0 dL_law_133 rfl ?_
  refine G_iload_n (pc := 134) 3 dL_law_134 rfl ?_
  refine G_iconst (pc := 135) (v := 1) dL_law_135 rfl ?_
  refine G_iadd (pc := 136) dL_law_136 ?_
  rw [nI_1]
  refine G_tldXJ (pc := 137) (j := 4 * t + 1) dL_law_137 rfl (by omega) (by omega) ?_
  refine G_aload_n (pc := 138) 0 dL_law_138 rfl ?_
  refine G_iload_n (pc := 139) 3 dL_law_139 rfl ?_
  refine G_iconst (pc := 140) (v := 2) dL_law_140 rfl ?_
  refine G_iadd (pc := 141) dL_law_141 ?_
  rw [gl2, nI_add]
  refine G_tldXJ (pc := 142) (j := 4 * t + 2) dL_law_142 rfl (by omega) (by omega) ?_
  refine G_aload_n (pc := 143) 0 dL_law_143 rfl ?_
  refine G_iload_n (pc := 144) 3 dL_law_144 rfl ?_
  refine G_iconst (pc := 145) (v := 3) dL_law_145 rfl ?_
  refine G_iadd (pc := 146) dL_law_146 ?_
  rw [gl3, nI_add]
  refine G_tldXJ (pc := 147) (j := 4 * t + 3) dL_law_147 rfl (by omega) (by omega) ?_
  refine gV3 (pc := 148) (k' := 200) (n' := 9801) dL_law_148 lkL_13 ⟨by decide, by decide⟩ (Nat.le_of_ble_eq_true rfl) rfl rfl ⟨by decide, by decide⟩ hXk (c_X11_term hX hA hRX hS ?_)
  intro l1 i1 f1 g1
  dsimp only [gRt]
  have he1 : i1 (x + 194 + 1) = S := (f1 _ (by omega)).trans he
  have hP1 : rpP i1 (x + 194) P n := hP.eq (by rw [f1 _ (by omega)]) (f1 _ (by omega))
  refine G_aload_n (pc := 151) 2 dL_law_151 rfl ?_
  refine G_aload_n (pc := 152) 0 dL_law_152 rfl ?_
  refine G_iload_n (pc := 153) 3 dL_law_153 rfl ?_
  refine G_iconst (pc := 154) (v := 1) dL_law_154 rfl ?_
  refine G_iadd (pc := 155) dL_law_155 ?_
  rw [nI_1]
  refine G_tldXJ (pc := 156) (j := 4 * t + 1) dL_law_156 rfl (by omega) (by omega) ?_
  refine G_aload_n (pc := 157) 0 dL_law_157 rfl ?_
  refine G_iload_n (pc := 158) 3 dL_law_158 rfl ?_
  refine G_iconst (pc := 159) (v := 2) dL_law_159 rfl ?_
  refine G_iadd (pc := 160) dL_law_160 ?_
  rw [gl2, nI_add]
  refine G_tldXJ (pc := 161) (j := 4 * t + 2) dL_law_161 rfl (by omega) (by omega) ?_
  refine G_aload_n (pc := 162) 0 dL_law_162 rfl ?_
  refine G_iload_n (pc := 163) 3 dL_law_163 rfl ?_
  refine G_iconst (pc := 164) (v := 3) dL_law_164 rfl ?_
  refine G_iadd (pc := 165) dL_law_165 ?_
  rw [gl3, nI_add]
  refine G_tldXJ (pc := 166) (j := 4 * t + 3) dL_law_166 rfl (by omega) (by omega) ?_
  refine gV3 (pc := 167) (k' := 200) (n' := 9801) dL_law_167 lkL_17 ⟨by decide, by decide⟩ (Nat.le_of_ble_eq_true rfl) rfl rfl ⟨by decide, by decide⟩ hMk (c_X12_term hM (by omega) he1 hP1 hS ?_)
  intro i2 q2
  dsimp only [gRt]
  refine G_icmp_eq (pc := 170) (tgt := 766) dL_law_170 (by decide) (fun h170 => ?_) (fun h170 => ?_)
  · exact hK r l1 i2 (lwI.act hX hM (vS_term hS) hS hn4 hV f1 g1 q2 hl hlm hl6 htx)
  · exact absurd rfl h170

set_option maxRecDepth 100000 in
set_option maxHeartbeats 4000000 in
theorem law_dropTerm {Γ : gG} {T : gTy} {r : gR} {l : gLg} {i : gI} {Q : gQ} {x t : Nat} (hA : gN Γ ≤ x) (hL : gsL Γ ≤ 2048) (ht : 4 * t + 4 ≤ gsL Γ) (hI : lwI T r i x) (hK : ∀ r' l' i', lwI T r' i' x → G Γ ML_law 200 9801 766 [(0, .ref (gsb Γ)), (1, .ref x), (2, .ref (x + 194)), (3, .int (nI (4 * t)))] [] T r' l' i' Q) : G Γ ML_law 200 9801 175 [(0, .ref (gsb Γ)), (1, .ref x), (2, .ref (x + 194)), (3, .int (nI (4 * t)))] [] T r l i Q := by
  have hI2 := hI
  obtain ⟨ws, hs, S, P, n, ln, hX, hM, hRX, hS, he, hP, hV, hl, hlm, hl6, htx⟩ := hI
  have hXk := hX.1
  have hMk := hM.1
  have hn4 := hP.1
  refine G_aload_n (pc := 175) 1 dL_law_175 rfl ?_
  refine G_aload_n (pc := 176) 0 dL_law_176 rfl ?_
  refine G_iload_n (pc := 177) 3 dL_law_177 rfl ?_
  refine G_iconst (pc := 178) (v := 1) dL_law_178 rfl ?_
  refine G_iadd (pc := 179) dL_law_179 ?_
  rw [nI_1]
  refine G_tldXJ (pc := 180) (j := 4 * t + 1) dL_law_180 rfl (by omega) (by omega) ?_
  refine gV1 (pc := 181) (k' := 200) (n' := 9801) dL_law_181 lkL_18 ⟨by decide, by decide⟩ (Nat.le_of_ble_eq_true rfl) rfl rfl ⟨by decide, by decide⟩ hXk (c_X11_dropTerm hX hA hRX hS ?_)
  intro l1 i1 f1 g1
  dsimp only [gRt]
  have he1 : i1 (x + 194 + 1) = S := (f1 _ (by omega)).trans he
  have hP1 : rpP i1 (x + 194) P n := hP.eq (by rw [f1 _ (by omega)]) (f1 _ (by omega))
  refine G_aload_n (pc := 184) 2 dL_law_184 rfl ?_
  refine G_aload_n (pc := 185) 0 dL_law_185 rfl ?_
  refine G_iload_n (pc := 186) 3 dL_law_186 rfl ?_
  refine G_iconst (pc := 187) (v := 1) dL_law_187 rfl ?_
  refine G_iadd (pc := 188) dL_law_188 ?_
  rw [nI_1]
  refine G_tldXJ (pc := 189) (j := 4 * t + 1) dL_law_189 rfl (by omega) (by omega) ?_
  refine gV1 (pc := 190) (k' := 200) (n' := 9801) dL_law_190 lkL_22 ⟨by decide, by decide⟩ (Nat.le_of_ble_eq_true rfl) rfl rfl ⟨by decide, by decide⟩ hMk (c_X12_dropTerm hM (by omega) he1 hP1 hS ?_)
  intro i2 q2
  dsimp only [gRt]
  refine G_icmp_eq (pc := 193) (tgt := 766) dL_law_193 (by decide) (fun h193 => ?_) (fun h193 => ?_)
  · exact hK r l1 i2 (lwI.act hX hM (vS_dropT hS) hS hn4 hV f1 g1 q2 hl hlm hl6 htx)
  · exact absurd rfl h193

set_option maxRecDepth 100000 in
set_option maxHeartbeats 4000000 in
theorem law_begin {Γ : gG} {T : gTy} {r : gR} {l : gLg} {i : gI} {Q : gQ} {x t : Nat} (hA : gN Γ ≤ x) (hL : gsL Γ ≤ 2048) (ht : 4 * t + 4 ≤ gsL Γ) (hI : lwI T r i x) (hK : ∀ r' l' i', lwI T r' i' x → G Γ ML_law 200 9801 766 [(0, .ref (gsb Γ)), (1, .ref x), (2, .ref (x + 194)), (3, .int (nI (4 * t)))] [] T r' l' i' Q) : G Γ ML_law 200 9801 318 [(0, .ref (gsb Γ)), (1, .ref x), (2, .ref (x + 194)), (3, .int (nI (4 * t)))] [] T r l i Q := by
  have hI2 := hI
  obtain ⟨ws, hs, S, P, n, ln, hX, hM, hRX, hS, he, hP, hV, hl, hlm, hl6, htx⟩ := hI
  have hXk := hX.1
  have hMk := hM.1
  have hn4 := hP.1
  refine G_aload_n (pc := 318) 1 dL_law_318 rfl ?_
  refine G_aload_n (pc := 319) 0 dL_law_319 rfl ?_
  refine G_iload_n (pc := 320) 3 dL_law_320 rfl ?_
  refine G_iconst (pc := 321) (v := 1) dL_law_321 rfl ?_
  refine G_iadd (pc := 322) dL_law_322 ?_
  rw [nI_1]
  refine G_tldXJ (pc := 323) (j := 4 * t + 1) dL_law_323 rfl (by omega) (by omega) ?_
  refine G_aload_n (pc := 324) 0 dL_law_324 rfl ?_
  refine G_iload_n (pc := 325) 3 dL_law_325 rfl ?_
  refine G_iconst (pc := 326) (v := 2) dL_law_326 rfl ?_
  refine G_iadd (pc := 327) dL_law_327 ?_
  rw [gl2, nI_add]
  refine G_tldXJ (pc := 328) (j := 4 * t + 2) dL_law_328 rfl (by omega) (by omega) ?_
  refine G_aload_n (pc := 329) 0 dL_law_329 rfl ?_
  refine G_iload_n (pc := 330) 3 dL_law_330 rfl ?_
  refine G_iconst (pc := 331) (v := 3) dL_law_331 rfl ?_
  refine G_iadd (pc := 332) dL_law_332 ?_
  rw [gl3, nI_add]
  refine G_tldXJ (pc := 333) (j := 4 * t + 3) dL_law_333 rfl (by omega) (by omega) ?_
  refine gV3 (pc := 334) (k' := 200) (n' := 9801) dL_law_334 lkL_37 ⟨by decide, by decide⟩ (Nat.le_of_ble_eq_true rfl) rfl rfl ⟨by decide, by decide⟩ hXk (c_X11_begin hX hA hRX hS ?_)
  intro l1 i1 f1 g1
  dsimp only [gRt]
  have he1 : i1 (x + 194 + 1) = S := (f1 _ (by omega)).trans he
  have hP1 : rpP i1 (x + 194) P n := hP.eq (by rw [f1 _ (by omega)]) (f1 _ (by omega))
  refine G_aload_n (pc := 337) 2 dL_law_337 rfl ?_
  refine G_aload_n (pc := 338) 0 dL_law_338 rfl ?_
  refine G_iload_n (pc := 339) 3 dL_law_339 rfl ?_
  refine G_iconst (pc := 340) (v := 1) dL_law_340 rfl ?_
  refine G_iadd (pc := 341) dL_law_341 ?_
  rw [nI_1]
  refine G_tldXJ (pc := 342) (j := 4 * t + 1) dL_law_342 rfl (by omega) (by omega) ?_
  refine G_aload_n (pc := 343) 0 dL_law_343 rfl ?_
  refine G_iload_n (pc := 344) 3 dL_law_344 rfl ?_
  refine G_iconst (pc := 345) (v := 2) dL_law_345 rfl ?_
  refine G_iadd (pc := 346) dL_law_346 ?_
  rw [gl2, nI_add]
  refine G_tldXJ (pc := 347) (j := 4 * t + 2) dL_law_347 rfl (by omega) (by omega) ?_
  refine G_aload_n (pc := 348) 0 dL_law_348 rfl ?_
  refine G_iload_n (pc := 349) 3 dL_law_349 rfl ?_
  refine G_iconst (pc := 350) (v := 3) dL_law_350 rfl ?_
  refine G_iadd (pc := 351) dL_law_351 ?_
  rw [gl3, nI_add]
  refine G_tldXJ (pc := 352) (j := 4 * t + 3) dL_law_352 rfl (by omega) (by omega) ?_
  refine gV3 (pc := 353) (k' := 200) (n' := 9801) dL_law_353 lkL_40 ⟨by decide, by decide⟩ (Nat.le_of_ble_eq_true rfl) rfl rfl ⟨by decide, by decide⟩ hMk (c_X12_begin hM (by omega) he1 hP1 hS ?_)
  intro i2 q2
  dsimp only [gRt]
  refine G_icmp_eq (pc := 356) (tgt := 766) dL_law_356 (by decide) (fun h356 => ?_) (fun h356 => ?_)
  · exact hK r l1 i2 (lwI.act hX hM (vS_begin hS) hS hn4 hV f1 g1 q2 hl hlm hl6 htx)
  · exact absurd rfl h356

set_option maxRecDepth 100000 in
set_option maxHeartbeats 4000000 in
theorem law_branch {Γ : gG} {T : gTy} {r : gR} {l : gLg} {i : gI} {Q : gQ} {x t : Nat} (hA : gN Γ ≤ x) (hL : gsL Γ ≤ 2048) (ht : 4 * t + 4 ≤ gsL Γ) (hI : lwI T r i x) (hK : ∀ r' l' i', lwI T r' i' x → G Γ ML_law 200 9801 766 [(0, .ref (gsb Γ)), (1, .ref x), (2, .ref (x + 194)), (3, .int (nI (4 * t)))] [] T r' l' i' Q) : G Γ ML_law 200 9801 361 [(0, .ref (gsb Γ)), (1, .ref x), (2, .ref (x + 194)), (3, .int (nI (4 * t)))] [] T r l i Q := by
  have hI2 := hI
  obtain ⟨ws, hs, S, P, n, ln, hX, hM, hRX, hS, he, hP, hV, hl, hlm, hl6, htx⟩ := hI
  have hXk := hX.1
  have hMk := hM.1
  have hn4 := hP.1
  refine G_aload_n (pc := 361) 1 dL_law_361 rfl ?_
  refine G_aload_n (pc := 362) 0 dL_law_362 rfl ?_
  refine G_iload_n (pc := 363) 3 dL_law_363 rfl ?_
  refine G_iconst (pc := 364) (v := 1) dL_law_364 rfl ?_
  refine G_iadd (pc := 365) dL_law_365 ?_
  rw [nI_1]
  refine G_tldXJ (pc := 366) (j := 4 * t + 1) dL_law_366 rfl (by omega) (by omega) ?_
  refine G_aload_n (pc := 367) 0 dL_law_367 rfl ?_
  refine G_iload_n (pc := 368) 3 dL_law_368 rfl ?_
  refine G_iconst (pc := 369) (v := 2) dL_law_369 rfl ?_
  refine G_iadd (pc := 370) dL_law_370 ?_
  rw [gl2, nI_add]
  refine G_tldXJ (pc := 371) (j := 4 * t + 2) dL_law_371 rfl (by omega) (by omega) ?_
  refine G_aload_n (pc := 372) 0 dL_law_372 rfl ?_
  refine G_iload_n (pc := 373) 3 dL_law_373 rfl ?_
  refine G_iconst (pc := 374) (v := 3) dL_law_374 rfl ?_
  refine G_iadd (pc := 375) dL_law_375 ?_
  rw [gl3, nI_add]
  refine G_tldXJ (pc := 376) (j := 4 * t + 3) dL_law_376 rfl (by omega) (by omega) ?_
  refine gV3 (pc := 377) (k' := 200) (n' := 9801) dL_law_377 lkL_41 ⟨by decide, by decide⟩ (Nat.le_of_ble_eq_true rfl) rfl rfl ⟨by decide, by decide⟩ hXk (c_X11_branch hX hA hRX hS ?_)
  intro l1 i1 f1 g1
  dsimp only [gRt]
  have he1 : i1 (x + 194 + 1) = S := (f1 _ (by omega)).trans he
  have hP1 : rpP i1 (x + 194) P n := hP.eq (by rw [f1 _ (by omega)]) (f1 _ (by omega))
  refine G_aload_n (pc := 380) 2 dL_law_380 rfl ?_
  refine G_aload_n (pc := 381) 0 dL_law_381 rfl ?_
  refine G_iload_n (pc := 382) 3 dL_law_382 rfl ?_
  refine G_iconst (pc := 383) (v := 1) dL_law_383 rfl ?_
  refine G_iadd (pc := 384) dL_law_384 ?_
  rw [nI_1]
  refine G_tldXJ (pc := 385) (j := 4 * t + 1) dL_law_385 rfl (by omega) (by omega) ?_
  refine G_aload_n (pc := 386) 0 dL_law_386 rfl ?_
  refine G_iload_n (pc := 387) 3 dL_law_387 rfl ?_
  refine G_iconst (pc := 388) (v := 2) dL_law_388 rfl ?_
  refine G_iadd (pc := 389) dL_law_389 ?_
  rw [gl2, nI_add]
  refine G_tldXJ (pc := 390) (j := 4 * t + 2) dL_law_390 rfl (by omega) (by omega) ?_
  refine G_aload_n (pc := 391) 0 dL_law_391 rfl ?_
  refine G_iload_n (pc := 392) 3 dL_law_392 rfl ?_
  refine G_iconst (pc := 393) (v := 3) dL_law_393 rfl ?_
  refine G_iadd (pc := 394) dL_law_394 ?_
  rw [gl3, nI_add]
  refine G_tldXJ (pc := 395) (j := 4 * t + 3) dL_law_395 rfl (by omega) (by omega) ?_
  refine gV3 (pc := 396) (k' := 200) (n' := 9801) dL_law_396 lkL_44 ⟨by decide, by decide⟩ (Nat.le_of_ble_eq_true rfl) rfl rfl ⟨by decide, by decide⟩ hMk (c_X12_branch hM (by omega) he1 hP1 hS ?_)
  intro i2 q2
  dsimp only [gRt]
  refine G_icmp_eq (pc := 399) (tgt := 766) dL_law_399 (by decide) (fun h399 => ?_) (fun h399 => ?_)
  · exact hK r l1 i2 (lwI.act hX hM (vS_branch hS) hS hn4 hV f1 g1 q2 hl hlm hl6 htx)
  · exact absurd rfl h399

set_option maxRecDepth 100000 in
set_option maxHeartbeats 4000000 in
theorem law_step {Γ : gG} {T : gTy} {r : gR} {l : gLg} {i : gI} {Q : gQ} {x t : Nat} (hA : gN Γ ≤ x) (hL : gsL Γ ≤ 2048) (ht : 4 * t + 4 ≤ gsL Γ) (hI : lwI T r i x) (hK : ∀ r' l' i', lwI T r' i' x → G Γ ML_law 200 9801 766 [(0, .ref (gsb Γ)), (1, .ref x), (2, .ref (x + 194)), (3, .int (nI (4 * t)))] [] T r' l' i' Q) : G Γ ML_law 200 9801 404 [(0, .ref (gsb Γ)), (1, .ref x), (2, .ref (x + 194)), (3, .int (nI (4 * t)))] [] T r l i Q := by
  have hI2 := hI
  obtain ⟨ws, hs, S, P, n, ln, hX, hM, hRX, hS, he, hP, hV, hl, hlm, hl6, htx⟩ := hI
  have hXk := hX.1
  have hMk := hM.1
  have hn4 := hP.1
  refine G_aload_n (pc := 404) 1 dL_law_404 rfl ?_
  refine G_aload_n (pc := 405) 0 dL_law_405 rfl ?_
  refine G_iload_n (pc := 406) 3 dL_law_406 rfl ?_
  refine G_iconst (pc := 407) (v := 1) dL_law_407 rfl ?_
  refine G_iadd (pc := 408) dL_law_408 ?_
  rw [nI_1]
  refine G_tldXJ (pc := 409) (j := 4 * t + 1) dL_law_409 rfl (by omega) (by omega) ?_
  refine G_aload_n (pc := 410) 0 dL_law_410 rfl ?_
  refine G_iload_n (pc := 411) 3 dL_law_411 rfl ?_
  refine G_iconst (pc := 412) (v := 2) dL_law_412 rfl ?_
  refine G_iadd (pc := 413) dL_law_413 ?_
  rw [gl2, nI_add]
  refine G_tldXJ (pc := 414) (j := 4 * t + 2) dL_law_414 rfl (by omega) (by omega) ?_
  refine gV2 (pc := 415) (k' := 200) (n' := 9801) dL_law_415 lkL_45 ⟨by decide, by decide⟩ (Nat.le_of_ble_eq_true rfl) rfl rfl ⟨by decide, by decide⟩ hXk (c_X11_step hX hA hRX hS ?_)
  intro l1 i1 f1 g1
  dsimp only [gRt]
  have he1 : i1 (x + 194 + 1) = S := (f1 _ (by omega)).trans he
  have hP1 : rpP i1 (x + 194) P n := hP.eq (by rw [f1 _ (by omega)]) (f1 _ (by omega))
  refine G_aload_n (pc := 418) 2 dL_law_418 rfl ?_
  refine G_aload_n (pc := 419) 0 dL_law_419 rfl ?_
  refine G_iload_n (pc := 420) 3 dL_law_420 rfl ?_
  refine G_iconst (pc := 421) (v := 1) dL_law_421 rfl ?_
  refine G_iadd (pc := 422) dL_law_422 ?_
  rw [nI_1]
  refine G_tldXJ (pc := 423) (j := 4 * t + 1) dL_law_423 rfl (by omega) (by omega) ?_
  refine G_aload_n (pc := 424) 0 dL_law_424 rfl ?_
  refine G_iload_n (pc := 425) 3 dL_law_425 rfl ?_
  refine G_iconst (pc := 426) (v := 2) dL_law_426 rfl ?_
  refine G_iadd (pc := 427) dL_law_427 ?_
  rw [gl2, nI_add]
  refine G_tldXJ (pc := 428) (j := 4 * t + 2) dL_law_428 rfl (by omega) (by omega) ?_
  refine gV2 (pc := 429) (k' := 200) (n' := 9801) dL_law_429 lkL_48 ⟨by decide, by decide⟩ (Nat.le_of_ble_eq_true rfl) rfl rfl ⟨by decide, by decide⟩ hMk (c_X12_step hM (by omega) he1 hP1 hS ?_)
  intro i2 q2
  dsimp only [gRt]
  refine G_icmp_eq (pc := 432) (tgt := 766) dL_law_432 (by decide) (fun h432 => ?_) (fun h432 => ?_)
  · exact hK r l1 i2 (lwI.act hX hM (vS_step hS) hS hn4 hV f1 g1 q2 hl hlm hl6 htx)
  · exact absurd rfl h432

set_option maxRecDepth 100000 in
set_option maxHeartbeats 4000000 in
theorem law_set {Γ : gG} {T : gTy} {r : gR} {l : gLg} {i : gI} {Q : gQ} {x t : Nat} (hA : gN Γ ≤ x) (hL : gsL Γ ≤ 2048) (ht : 4 * t + 4 ≤ gsL Γ) (hI : lwI T r i x) (hK : ∀ r' l' i', lwI T r' i' x → G Γ ML_law 200 9801 766 [(0, .ref (gsb Γ)), (1, .ref x), (2, .ref (x + 194)), (3, .int (nI (4 * t)))] [] T r' l' i' Q) : G Γ ML_law 200 9801 460 [(0, .ref (gsb Γ)), (1, .ref x), (2, .ref (x + 194)), (3, .int (nI (4 * t)))] [] T r l i Q := by
  have hI2 := hI
  obtain ⟨ws, hs, S, P, n, ln, hX, hM, hRX, hS, he, hP, hV, hl, hlm, hl6, htx⟩ := hI
  have hXk := hX.1
  have hMk := hM.1
  have hn4 := hP.1
  refine G_aload_n (pc := 460) 1 dL_law_460 rfl ?_
  refine G_aload_n (pc := 461) 0 dL_law_461 rfl ?_
  refine G_iload_n (pc := 462) 3 dL_law_462 rfl ?_
  refine G_iconst (pc := 463) (v := 1) dL_law_463 rfl ?_
  refine G_iadd (pc := 464) dL_law_464 ?_
  rw [nI_1]
  refine G_tldXJ (pc := 465) (j := 4 * t + 1) dL_law_465 rfl (by omega) (by omega) ?_
  refine G_aload_n (pc := 466) 0 dL_law_466 rfl ?_
  refine G_iload_n (pc := 467) 3 dL_law_467 rfl ?_
  refine G_iconst (pc := 468) (v := 2) dL_law_468 rfl ?_
  refine G_iadd (pc := 469) dL_law_469 ?_
  rw [gl2, nI_add]
  refine G_tldXJ (pc := 470) (j := 4 * t + 2) dL_law_470 rfl (by omega) (by omega) ?_
  refine gV2 (pc := 471) (k' := 200) (n' := 9801) dL_law_471 lkL_53 ⟨by decide, by decide⟩ (Nat.le_of_ble_eq_true rfl) rfl rfl ⟨by decide, by decide⟩ hXk (c_X11_set hX hA hRX hS ?_)
  intro l1 i1 f1 g1
  dsimp only [gRt]
  have he1 : i1 (x + 194 + 1) = S := (f1 _ (by omega)).trans he
  have hP1 : rpP i1 (x + 194) P n := hP.eq (by rw [f1 _ (by omega)]) (f1 _ (by omega))
  refine G_aload_n (pc := 474) 2 dL_law_474 rfl ?_
  refine G_aload_n (pc := 475) 0 dL_law_475 rfl ?_
  refine G_iload_n (pc := 476) 3 dL_law_476 rfl ?_
  refine G_iconst (pc := 477) (v := 1) dL_law_477 rfl ?_
  refine G_iadd (pc := 478) dL_law_478 ?_
  rw [nI_1]
  refine G_tldXJ (pc := 479) (j := 4 * t + 1) dL_law_479 rfl (by omega) (by omega) ?_
  refine G_aload_n (pc := 480) 0 dL_law_480 rfl ?_
  refine G_iload_n (pc := 481) 3 dL_law_481 rfl ?_
  refine G_iconst (pc := 482) (v := 2) dL_law_482 rfl ?_
  refine G_iadd (pc := 483) dL_law_483 ?_
  rw [gl2, nI_add]
  refine G_tldXJ (pc := 484) (j := 4 * t + 2) dL_law_484 rfl (by omega) (by omega) ?_
  refine gV2 (pc := 485) (k' := 200) (n' := 9801) dL_law_485 lkL_56 ⟨by decide, by decide⟩ (Nat.le_of_ble_eq_true rfl) rfl rfl ⟨by decide, by decide⟩ hMk (c_X12_set hM (by omega) he1 hP1 hS ?_)
  intro i2 q2
  dsimp only [gRt]
  refine G_icmp_eq (pc := 488) (tgt := 766) dL_law_488 (by decide) (fun h488 => ?_) (fun h488 => ?_)
  · exact hK r l1 i2 (lwI.act hX hM (vS_set hS) hS hn4 hV f1 g1 q2 hl hlm hl6 htx)
  · exact absurd rfl h488

set_option maxRecDepth 100000 in
set_option maxHeartbeats 4000000 in
theorem law_read {Γ : gG} {T : gTy} {r : gR} {l : gLg} {i : gI} {Q : gQ} {x t : Nat} (hA : gN Γ ≤ x) (hL : gsL Γ ≤ 2048) (ht : 4 * t + 4 ≤ gsL Γ) (hI : lwI T r i x) (hK : ∀ r' l' i', lwI T r' i' x → G Γ ML_law 200 9801 766 [(0, .ref (gsb Γ)), (1, .ref x), (2, .ref (x + 194)), (3, .int (nI (4 * t)))] [] T r' l' i' Q) : G Γ ML_law 200 9801 753 [(0, .ref (gsb Γ)), (1, .ref x), (2, .ref (x + 194)), (3, .int (nI (4 * t)))] [] T r l i Q := by
  have hI2 := hI
  obtain ⟨ws, hs, S, P, n, ln, hX, hM, hRX, hS, he, hP, hV, hl, hlm, hl6, htx⟩ := hI
  have hXk := hX.1
  have hMk := hM.1
  have hn4 := hP.1
  refine G_aload_n (pc := 753) 1 dL_law_753 rfl ?_
  refine gV0 (pc := 754) (k' := 200) (n' := 9801) dL_law_754 lkL_98 ⟨by decide, by decide⟩ (Nat.le_of_ble_eq_true rfl) rfl rfl ⟨by decide, by decide⟩ hXk (c_X11_read hX hA hRX hS hl hl6 ?_)
  intro l1 i1 f1 g1
  dsimp only [gRt]
  have he1 : i1 (x + 194 + 1) = S := (f1 _ (by omega)).trans he
  have hP1 : rpP i1 (x + 194) P n := hP.eq (by rw [f1 _ (by omega)]) (f1 _ (by omega))
  have htx1 : i1 (x + 194 + 4) = i (x + 187 + 1) := (f1 _ (by omega)).trans htx.symm
  refine G_aload_n (pc := 757) 2 dL_law_757 rfl ?_
  refine gV0 (pc := 758) (k' := 200) (n' := 9801) dL_law_758 lkL_101 ⟨by decide, by decide⟩ (Nat.le_of_ble_eq_true rfl) rfl rfl ⟨by decide, by decide⟩ hMk (c_X12_read hM (by omega) he1 hP1 hS (by rw [f1 _ (by omega)]; exact hlm) hl6 ?_)
  intro i2 q2
  dsimp only [gRt]
  rw [htx1] at q2 ⊢
  refine G_icmp_eq (pc := 761) (tgt := 766) dL_law_761 (by decide) (fun h761 => ?_) (fun h761 => ?_)
  · exact hK r l1 i2 (lwI.act hX hM (vS_read hS) hS hn4 hV f1 g1 q2 hl hlm hl6 htx)
  · exact absurd rfl h761

set_option maxRecDepth 100000 in
set_option maxHeartbeats 4000000 in
theorem law_fault {Γ : gG} {T : gTy} {r : gR} {l : gLg} {i : gI} {Q : gQ} {x t : Nat} (hA : gN Γ ≤ x) (hL : gsL Γ ≤ 2048) (ht : 4 * t + 4 ≤ gsL Γ) (hI : lwI T r i x) (hK : ∀ r' l' i', lwI T r' i' x → G Γ ML_law 200 9801 766 [(0, .ref (gsb Γ)), (1, .ref x), (2, .ref (x + 194)), (3, .int (nI (4 * t)))] [] T r' l' i' Q) : G Γ ML_law 200 9801 730 [(0, .ref (gsb Γ)), (1, .ref x), (2, .ref (x + 194)), (3, .int (nI (4 * t)))] [] T r l i Q := by
  have hI2 := hI
  obtain ⟨ws, hs, S, P, n, ln, hX, hM, hRX, hS, he, hP, hV, hl, hlm, hl6, htx⟩ := hI
  have hXk := hX.1
  have hMk := hM.1
  have hn4 := hP.1
  refine G_aload_n (pc := 730) 1 dL_law_730 rfl ?_
  refine G_aload_n (pc := 731) 0 dL_law_731 rfl ?_
  refine G_iload_n (pc := 732) 3 dL_law_732 rfl ?_
  refine G_iconst (pc := 733) (v := 1) dL_law_733 rfl ?_
  refine G_iadd (pc := 734) dL_law_734 ?_
  rw [nI_1]
  refine G_tldXJ (pc := 735) (j := 4 * t + 1) dL_law_735 rfl (by omega) (by omega) ?_
  refine gV1 (pc := 736) (k' := 200) (n' := 9801) dL_law_736 lkL_94 ⟨by decide, by decide⟩ (Nat.le_of_ble_eq_true rfl) rfl rfl ⟨by decide, by decide⟩ hXk (c_X11_fault hX hA hRX hS hl hl6 ?_)
  intro i1 f1 g1
  dsimp only [gRt]
  have he1 : i1 (x + 194 + 1) = S := (f1 _ (by omega)).trans he
  have hP1 : rpP i1 (x + 194) P n := hP.eq (by rw [f1 _ (by omega)]) (f1 _ (by omega))
  have htx1 : i1 (x + 194 + 4) = i (x + 187 + 1) := (f1 _ (by omega)).trans htx.symm
  refine G_aload_n (pc := 739) 2 dL_law_739 rfl ?_
  refine G_aload_n (pc := 740) 0 dL_law_740 rfl ?_
  refine G_iload_n (pc := 741) 3 dL_law_741 rfl ?_
  refine G_iconst (pc := 742) (v := 1) dL_law_742 rfl ?_
  refine G_iadd (pc := 743) dL_law_743 ?_
  rw [nI_1]
  refine G_tldXJ (pc := 744) (j := 4 * t + 1) dL_law_744 rfl (by omega) (by omega) ?_
  refine gV1 (pc := 745) (k' := 200) (n' := 9801) dL_law_745 lkL_97 ⟨by decide, by decide⟩ (Nat.le_of_ble_eq_true rfl) rfl rfl ⟨by decide, by decide⟩ hMk (c_X12_fault hM (by omega) he1 hP1 (by rw [f1 _ (by omega)]; exact hlm) hl6 ?_)
  intro i2 q2
  dsimp only [gRt]
  rw [htx1]
  refine G_icmp_eq (pc := 748) (tgt := 766) dL_law_748 (by decide) (fun h748 => ?_) (fun h748 => ?_)
  · exact hK r l i2 (lwI.act (o := none) hX hM hS hS hn4 hV f1 g1 q2 hl hlm hl6 htx)
  · exact absurd rfl h748

set_option maxRecDepth 100000 in
set_option maxHeartbeats 4000000 in
theorem law_termOf {Γ : gG} {T : gTy} {r : gR} {l : gLg} {i : gI} {Q : gQ} {x t : Nat} (hA : gN Γ ≤ x) (hL : gsL Γ ≤ 2048) (ht : 4 * t + 4 ≤ gsL Γ) (hI : lwI T r i x) (hK : ∀ r' l' i', lwI T r' i' x → G Γ ML_law 200 9801 766 [(0, .ref (gsb Γ)), (1, .ref x), (2, .ref (x + 194)), (3, .int (nI (4 * t)))] [] T r' l' i' Q) : G Γ ML_law 200 9801 198 [(0, .ref (gsb Γ)), (1, .ref x), (2, .ref (x + 194)), (3, .int (nI (4 * t)))] [] T r l i Q := by
  have hI2 := hI
  obtain ⟨ws, hs, S, P, n, ln, hX, hM, hRX, hS, he, hP, hV, hl, hlm, hl6, htx⟩ := hI
  have hXk := hX.1
  have hMk := hM.1
  have hn4 := hP.1
  refine G_aload_n (pc := 198) 1 dL_law_198 rfl ?_
  refine G_aload_n (pc := 199) 0 dL_law_199 rfl ?_
  refine G_iload_n (pc := 200) 3 dL_law_200 rfl ?_
  refine G_iconst (pc := 201) (v := 1) dL_law_201 rfl ?_
  refine G_iadd (pc := 202) dL_law_202 ?_
  rw [nI_1]
  refine G_tldXJ (pc := 203) (j := 4 * t + 1) dL_law_203 rfl (by omega) (by omega) ?_
  refine G_aload_n (pc := 204) 0 dL_law_204 rfl ?_
  refine G_iload_n (pc := 205) 3 dL_law_205 rfl ?_
  refine G_iconst (pc := 206) (v := 2) dL_law_206 rfl ?_
  refine G_iadd (pc := 207) dL_law_207 ?_
  rw [gl2, nI_add]
  refine G_tldXJ (pc := 208) (j := 4 * t + 2) dL_law_208 rfl (by omega) (by omega) ?_
  refine gV2 (pc := 209) (k' := 200) (n' := 9801) dL_law_209 lkL_23 ⟨by decide, by decide⟩ (Nat.le_of_ble_eq_true rfl) rfl rfl ⟨by decide, by decide⟩ hXk (c_X11_termOf hX hA hRX.1 hS ?_)
  dsimp only [gRt]
  refine G_aload_n (pc := 212) 2 dL_law_212 rfl ?_
  refine G_aload_n (pc := 213) 0 dL_law_213 rfl ?_
  refine G_iload_n (pc := 214) 3 dL_law_214 rfl ?_
  refine G_iconst (pc := 215) (v := 1) dL_law_215 rfl ?_
  refine G_iadd (pc := 216) dL_law_216 ?_
  rw [nI_1]
  refine G_tldXJ (pc := 217) (j := 4 * t + 1) dL_law_217 rfl (by omega) (by omega) ?_
  refine G_aload_n (pc := 218) 0 dL_law_218 rfl ?_
  refine G_iload_n (pc := 219) 3 dL_law_219 rfl ?_
  refine G_iconst (pc := 220) (v := 2) dL_law_220 rfl ?_
  refine G_iadd (pc := 221) dL_law_221 ?_
  rw [gl2, nI_add]
  refine G_tldXJ (pc := 222) (j := 4 * t + 2) dL_law_222 rfl (by omega) (by omega) ?_
  refine gV2 (pc := 223) (k' := 200) (n' := 9801) dL_law_223 lkL_27 ⟨by decide, by decide⟩ (Nat.le_of_ble_eq_true rfl) rfl rfl ⟨by decide, by decide⟩ hMk (c_X12_termOf hM he hS ?_)
  dsimp only [gRt]
  refine G_icmp_eq (pc := 226) (tgt := 766) dL_law_226 (by decide) (fun h226 => ?_) (fun h226 => ?_)
  · exact hK r l i hI2
  · exact absurd rfl h226

set_option maxRecDepth 100000 in
set_option maxHeartbeats 4000000 in
theorem law_placeOf {Γ : gG} {T : gTy} {r : gR} {l : gLg} {i : gI} {Q : gQ} {x t : Nat} (hA : gN Γ ≤ x) (hL : gsL Γ ≤ 2048) (ht : 4 * t + 4 ≤ gsL Γ) (hI : lwI T r i x) (hK : ∀ r' l' i', lwI T r' i' x → G Γ ML_law 200 9801 766 [(0, .ref (gsb Γ)), (1, .ref x), (2, .ref (x + 194)), (3, .int (nI (4 * t)))] [] T r' l' i' Q) : G Γ ML_law 200 9801 526 [(0, .ref (gsb Γ)), (1, .ref x), (2, .ref (x + 194)), (3, .int (nI (4 * t)))] [] T r l i Q := by
  have hI2 := hI
  obtain ⟨ws, hs, S, P, n, ln, hX, hM, hRX, hS, he, hP, hV, hl, hlm, hl6, htx⟩ := hI
  have hXk := hX.1
  have hMk := hM.1
  have hn4 := hP.1
  refine G_aload_n (pc := 526) 1 dL_law_526 rfl ?_
  refine G_aload_n (pc := 527) 0 dL_law_527 rfl ?_
  refine G_iload_n (pc := 528) 3 dL_law_528 rfl ?_
  refine G_iconst (pc := 529) (v := 1) dL_law_529 rfl ?_
  refine G_iadd (pc := 530) dL_law_530 ?_
  rw [nI_1]
  refine G_tldXJ (pc := 531) (j := 4 * t + 1) dL_law_531 rfl (by omega) (by omega) ?_
  refine G_aload_n (pc := 532) 0 dL_law_532 rfl ?_
  refine G_iload_n (pc := 533) 3 dL_law_533 rfl ?_
  refine G_iconst (pc := 534) (v := 2) dL_law_534 rfl ?_
  refine G_iadd (pc := 535) dL_law_535 ?_
  rw [gl2, nI_add]
  refine G_tldXJ (pc := 536) (j := 4 * t + 2) dL_law_536 rfl (by omega) (by omega) ?_
  refine G_aload_n (pc := 537) 0 dL_law_537 rfl ?_
  refine G_iload_n (pc := 538) 3 dL_law_538 rfl ?_
  refine G_iconst (pc := 539) (v := 3) dL_law_539 rfl ?_
  refine G_iadd (pc := 540) dL_law_540 ?_
  rw [gl3, nI_add]
  refine G_tldXJ (pc := 541) (j := 4 * t + 3) dL_law_541 rfl (by omega) (by omega) ?_
  refine gV3 (pc := 542) (k' := 200) (n' := 9801) dL_law_542 lkL_61 ⟨by decide, by decide⟩ (Nat.le_of_ble_eq_true rfl) rfl rfl ⟨by decide, by decide⟩ hXk (c_X11_placeOf hX hA hRX.1 hS ?_)
  dsimp only [gRt]
  refine G_aload_n (pc := 545) 2 dL_law_545 rfl ?_
  refine G_aload_n (pc := 546) 0 dL_law_546 rfl ?_
  refine G_iload_n (pc := 547) 3 dL_law_547 rfl ?_
  refine G_iconst (pc := 548) (v := 1) dL_law_548 rfl ?_
  refine G_iadd (pc := 549) dL_law_549 ?_
  rw [nI_1]
  refine G_tldXJ (pc := 550) (j := 4 * t + 1) dL_law_550 rfl (by omega) (by omega) ?_
  refine G_aload_n (pc := 551) 0 dL_law_551 rfl ?_
  refine G_iload_n (pc := 552) 3 dL_law_552 rfl ?_
  refine G_iconst (pc := 553) (v := 2) dL_law_553 rfl ?_
  refine G_iadd (pc := 554) dL_law_554 ?_
  rw [gl2, nI_add]
  refine G_tldXJ (pc := 555) (j := 4 * t + 2) dL_law_555 rfl (by omega) (by omega) ?_
  refine G_aload_n (pc := 556) 0 dL_law_556 rfl ?_
  refine G_iload_n (pc := 557) 3 dL_law_557 rfl ?_
  refine G_iconst (pc := 558) (v := 3) dL_law_558 rfl ?_
  refine G_iadd (pc := 559) dL_law_559 ?_
  rw [gl3, nI_add]
  refine G_tldXJ (pc := 560) (j := 4 * t + 3) dL_law_560 rfl (by omega) (by omega) ?_
  refine gV3 (pc := 561) (k' := 200) (n' := 9801) dL_law_561 lkL_64 ⟨by decide, by decide⟩ (Nat.le_of_ble_eq_true rfl) rfl rfl ⟨by decide, by decide⟩ hMk (c_X12_placeOf hM he hS ?_)
  dsimp only [gRt]
  refine G_icmp_eq (pc := 564) (tgt := 766) dL_law_564 (by decide) (fun h564 => ?_) (fun h564 => ?_)
  · exact hK r l i hI2
  · exact absurd rfl h564

set_option maxRecDepth 100000 in
set_option maxHeartbeats 4000000 in
theorem law_meets {Γ : gG} {T : gTy} {r : gR} {l : gLg} {i : gI} {Q : gQ} {x t : Nat} (hA : gN Γ ≤ x) (hL : gsL Γ ≤ 2048) (ht : 4 * t + 4 ≤ gsL Γ) (hI : lwI T r i x) (hK : ∀ r' l' i', lwI T r' i' x → G Γ ML_law 200 9801 766 [(0, .ref (gsb Γ)), (1, .ref x), (2, .ref (x + 194)), (3, .int (nI (4 * t)))] [] T r' l' i' Q) : G Γ ML_law 200 9801 592 [(0, .ref (gsb Γ)), (1, .ref x), (2, .ref (x + 194)), (3, .int (nI (4 * t)))] [] T r l i Q := by
  have hI2 := hI
  obtain ⟨ws, hs, S, P, n, ln, hX, hM, hRX, hS, he, hP, hV, hl, hlm, hl6, htx⟩ := hI
  have hXk := hX.1
  have hMk := hM.1
  have hn4 := hP.1
  refine G_aload_n (pc := 592) 1 dL_law_592 rfl ?_
  refine G_aload_n (pc := 593) 0 dL_law_593 rfl ?_
  refine G_iload_n (pc := 594) 3 dL_law_594 rfl ?_
  refine G_iconst (pc := 595) (v := 1) dL_law_595 rfl ?_
  refine G_iadd (pc := 596) dL_law_596 ?_
  rw [nI_1]
  refine G_tldXJ (pc := 597) (j := 4 * t + 1) dL_law_597 rfl (by omega) (by omega) ?_
  refine gV1 (pc := 598) (k' := 200) (n' := 9801) dL_law_598 lkL_69 ⟨by decide, by decide⟩ (Nat.le_of_ble_eq_true rfl) rfl rfl ⟨by decide, by decide⟩ hXk (c_X11_meets hX hA hRX.1 hS ?_)
  dsimp only [gRt]
  refine G_aload_n (pc := 601) 2 dL_law_601 rfl ?_
  refine G_aload_n (pc := 602) 0 dL_law_602 rfl ?_
  refine G_iload_n (pc := 603) 3 dL_law_603 rfl ?_
  refine G_iconst (pc := 604) (v := 1) dL_law_604 rfl ?_
  refine G_iadd (pc := 605) dL_law_605 ?_
  rw [nI_1]
  refine G_tldXJ (pc := 606) (j := 4 * t + 1) dL_law_606 rfl (by omega) (by omega) ?_
  refine gV1 (pc := 607) (k' := 200) (n' := 9801) dL_law_607 lkL_72 ⟨by decide, by decide⟩ (Nat.le_of_ble_eq_true rfl) rfl rfl ⟨by decide, by decide⟩ hMk (c_X12_meets hM he hS ?_)
  dsimp only [gRt]
  refine G_icmp_eq (pc := 610) (tgt := 766) dL_law_610 (by decide) (fun h610 => ?_) (fun h610 => ?_)
  · exact hK r l i hI2
  · exact absurd rfl h610

set_option maxRecDepth 100000 in
set_option maxHeartbeats 4000000 in
theorem law_lengthBits {Γ : gG} {T : gTy} {r : gR} {l : gLg} {i : gI} {Q : gQ} {x t : Nat} (hA : gN Γ ≤ x) (hL : gsL Γ ≤ 2048) (ht : 4 * t + 4 ≤ gsL Γ) (hI : lwI T r i x) (hK : ∀ r' l' i', lwI T r' i' x → G Γ ML_law 200 9801 766 [(0, .ref (gsb Γ)), (1, .ref x), (2, .ref (x + 194)), (3, .int (nI (4 * t)))] [] T r' l' i' Q) : G Γ ML_law 200 9801 615 [(0, .ref (gsb Γ)), (1, .ref x), (2, .ref (x + 194)), (3, .int (nI (4 * t)))] [] T r l i Q := by
  have hI2 := hI
  obtain ⟨ws, hs, S, P, n, ln, hX, hM, hRX, hS, he, hP, hV, hl, hlm, hl6, htx⟩ := hI
  have hXk := hX.1
  have hMk := hM.1
  have hn4 := hP.1
  refine G_aload_n (pc := 615) 1 dL_law_615 rfl ?_
  refine G_aload_n (pc := 616) 0 dL_law_616 rfl ?_
  refine G_iload_n (pc := 617) 3 dL_law_617 rfl ?_
  refine G_iconst (pc := 618) (v := 1) dL_law_618 rfl ?_
  refine G_iadd (pc := 619) dL_law_619 ?_
  rw [nI_1]
  refine G_tldXJ (pc := 620) (j := 4 * t + 1) dL_law_620 rfl (by omega) (by omega) ?_
  refine gV1 (pc := 621) (k' := 200) (n' := 9801) dL_law_621 lkL_73 ⟨by decide, by decide⟩ (Nat.le_of_ble_eq_true rfl) rfl rfl ⟨by decide, by decide⟩ hXk (c_X11_lengthBits hX hA hRX.1 hS ?_)
  dsimp only [gRt]
  refine G_aload_n (pc := 624) 2 dL_law_624 rfl ?_
  refine G_aload_n (pc := 625) 0 dL_law_625 rfl ?_
  refine G_iload_n (pc := 626) 3 dL_law_626 rfl ?_
  refine G_iconst (pc := 627) (v := 1) dL_law_627 rfl ?_
  refine G_iadd (pc := 628) dL_law_628 ?_
  rw [nI_1]
  refine G_tldXJ (pc := 629) (j := 4 * t + 1) dL_law_629 rfl (by omega) (by omega) ?_
  refine gV1 (pc := 630) (k' := 200) (n' := 9801) dL_law_630 lkL_76 ⟨by decide, by decide⟩ (Nat.le_of_ble_eq_true rfl) rfl rfl ⟨by decide, by decide⟩ hMk (c_X12_lengthBits hM he hS ?_)
  dsimp only [gRt]
  refine G_icmp_eq (pc := 633) (tgt := 766) dL_law_633 (by decide) (fun h633 => ?_) (fun h633 => ?_)
  · exact hK r l i hI2
  · exact absurd rfl h633

set_option maxRecDepth 100000 in
set_option maxHeartbeats 4000000 in
theorem law_nearest {Γ : gG} {T : gTy} {r : gR} {l : gLg} {i : gI} {Q : gQ} {x t : Nat} (hA : gN Γ ≤ x) (hL : gsL Γ ≤ 2048) (ht : 4 * t + 4 ≤ gsL Γ) (hI : lwI T r i x) (hK : ∀ r' l' i', lwI T r' i' x → G Γ ML_law 200 9801 766 [(0, .ref (gsb Γ)), (1, .ref x), (2, .ref (x + 194)), (3, .int (nI (4 * t)))] [] T r' l' i' Q) : G Γ ML_law 200 9801 638 [(0, .ref (gsb Γ)), (1, .ref x), (2, .ref (x + 194)), (3, .int (nI (4 * t)))] [] T r l i Q := by
  have hI2 := hI
  obtain ⟨ws, hs, S, P, n, ln, hX, hM, hRX, hS, he, hP, hV, hl, hlm, hl6, htx⟩ := hI
  have hXk := hX.1
  have hMk := hM.1
  have hn4 := hP.1
  refine G_aload_n (pc := 638) 1 dL_law_638 rfl ?_
  refine G_aload_n (pc := 639) 0 dL_law_639 rfl ?_
  refine G_iload_n (pc := 640) 3 dL_law_640 rfl ?_
  refine G_iconst (pc := 641) (v := 1) dL_law_641 rfl ?_
  refine G_iadd (pc := 642) dL_law_642 ?_
  rw [nI_1]
  refine G_tldXJ (pc := 643) (j := 4 * t + 1) dL_law_643 rfl (by omega) (by omega) ?_
  refine G_aload_n (pc := 644) 0 dL_law_644 rfl ?_
  refine G_iload_n (pc := 645) 3 dL_law_645 rfl ?_
  refine G_iconst (pc := 646) (v := 2) dL_law_646 rfl ?_
  refine G_iadd (pc := 647) dL_law_647 ?_
  rw [gl2, nI_add]
  refine G_tldXJ (pc := 648) (j := 4 * t + 2) dL_law_648 rfl (by omega) (by omega) ?_
  refine G_aload_n (pc := 649) 0 dL_law_649 rfl ?_
  refine G_iload_n (pc := 650) 3 dL_law_650 rfl ?_
  refine G_iconst (pc := 651) (v := 3) dL_law_651 rfl ?_
  refine G_iadd (pc := 652) dL_law_652 ?_
  rw [gl3, nI_add]
  refine G_tldXJ (pc := 653) (j := 4 * t + 3) dL_law_653 rfl (by omega) (by omega) ?_
  refine gV3 (pc := 654) (k' := 200) (n' := 9801) dL_law_654 lkL_77 ⟨by decide, by decide⟩ (Nat.le_of_ble_eq_true rfl) rfl rfl ⟨by decide, by decide⟩ hXk (c_X11_nearest hX hA hRX.1 hS ?_)
  dsimp only [gRt]
  refine G_aload_n (pc := 657) 2 dL_law_657 rfl ?_
  refine G_aload_n (pc := 658) 0 dL_law_658 rfl ?_
  refine G_iload_n (pc := 659) 3 dL_law_659 rfl ?_
  refine G_iconst (pc := 660) (v := 1) dL_law_660 rfl ?_
  refine G_iadd (pc := 661) dL_law_661 ?_
  rw [nI_1]
  refine G_tldXJ (pc := 662) (j := 4 * t + 1) dL_law_662 rfl (by omega) (by omega) ?_
  refine G_aload_n (pc := 663) 0 dL_law_663 rfl ?_
  refine G_iload_n (pc := 664) 3 dL_law_664 rfl ?_
  refine G_iconst (pc := 665) (v := 2) dL_law_665 rfl ?_
  refine G_iadd (pc := 666) dL_law_666 ?_
  rw [gl2, nI_add]
  refine G_tldXJ (pc := 667) (j := 4 * t + 2) dL_law_667 rfl (by omega) (by omega) ?_
  refine G_aload_n (pc := 668) 0 dL_law_668 rfl ?_
  refine G_iload_n (pc := 669) 3 dL_law_669 rfl ?_
  refine G_iconst (pc := 670) (v := 3) dL_law_670 rfl ?_
  refine G_iadd (pc := 671) dL_law_671 ?_
  rw [gl3, nI_add]
  refine G_tldXJ (pc := 672) (j := 4 * t + 3) dL_law_672 rfl (by omega) (by omega) ?_
  refine gV3 (pc := 673) (k' := 200) (n' := 9801) dL_law_673 lkL_80 ⟨by decide, by decide⟩ (Nat.le_of_ble_eq_true rfl) rfl rfl ⟨by decide, by decide⟩ hMk (c_X12_nearest hM he hS ?_)
  dsimp only [gRt]
  refine G_icmp_eq (pc := 676) (tgt := 766) dL_law_676 (by decide) (fun h676 => ?_) (fun h676 => ?_)
  · exact hK r l i hI2
  · exact absurd rfl h676

set_option maxRecDepth 100000 in
set_option maxHeartbeats 4000000 in
theorem law_value {Γ : gG} {T : gTy} {r : gR} {l : gLg} {i : gI} {Q : gQ} {x t : Nat} (hA : gN Γ ≤ x) (hL : gsL Γ ≤ 2048) (ht : 4 * t + 4 ≤ gsL Γ) (hI : lwI T r i x) (hK : ∀ r' l' i', lwI T r' i' x → G Γ ML_law 200 9801 766 [(0, .ref (gsb Γ)), (1, .ref x), (2, .ref (x + 194)), (3, .int (nI (4 * t)))] [] T r' l' i' Q) : G Γ ML_law 200 9801 231 [(0, .ref (gsb Γ)), (1, .ref x), (2, .ref (x + 194)), (3, .int (nI (4 * t)))] [] T r l i Q := by
  have hI2 := hI
  obtain ⟨ws, hs, S, P, n, ln, hX, hM, hRX, hS, he, hP, hV, hl, hlm, hl6, htx⟩ := hI
  have hXk := hX.1
  have hMk := hM.1
  have hn4 := hP.1
  refine G_aload_n (pc := 231) 1 dL_law_231 rfl ?_
  refine G_aload_n (pc := 232) 0 dL_law_232 rfl ?_
  refine G_iload_n (pc := 233) 3 dL_law_233 rfl ?_
  refine G_iconst (pc := 234) (v := 1) dL_law_234 rfl ?_
  refine G_iadd (pc := 235) dL_law_235 ?_
  rw [nI_1]
  refine G_tldXJ (pc := 236) (j := 4 * t + 1) dL_law_236 rfl (by omega) (by omega) ?_
  refine G_aload_n (pc := 237) 0 dL_law_237 rfl ?_
  refine G_iload_n (pc := 238) 3 dL_law_238 rfl ?_
  refine G_iconst (pc := 239) (v := 2) dL_law_239 rfl ?_
  refine G_iadd (pc := 240) dL_law_240 ?_
  rw [gl2, nI_add]
  refine G_tldXJ (pc := 241) (j := 4 * t + 2) dL_law_241 rfl (by omega) (by omega) ?_
  refine G_aload_n (pc := 242) 0 dL_law_242 rfl ?_
  refine G_iload_n (pc := 243) 3 dL_law_243 rfl ?_
  refine G_iconst (pc := 244) (v := 3) dL_law_244 rfl ?_
  refine G_iadd (pc := 245) dL_law_245 ?_
  rw [gl3, nI_add]
  refine G_tldXJ (pc := 246) (j := 4 * t + 3) dL_law_246 rfl (by omega) (by omega) ?_
  refine gV3 (pc := 247) (k' := 200) (n' := 9801) dL_law_247 lkL_28 ⟨by decide, by decide⟩ (Nat.le_of_ble_eq_true rfl) rfl rfl ⟨by decide, by decide⟩ hXk (c_X11_value hX hA hRX.1 hS ?_)
  intro l1
  dsimp only [gRt]
  refine G_aload_n (pc := 250) 2 dL_law_250 rfl ?_
  refine G_aload_n (pc := 251) 0 dL_law_251 rfl ?_
  refine G_iload_n (pc := 252) 3 dL_law_252 rfl ?_
  refine G_iconst (pc := 253) (v := 1) dL_law_253 rfl ?_
  refine G_iadd (pc := 254) dL_law_254 ?_
  rw [nI_1]
  refine G_tldXJ (pc := 255) (j := 4 * t + 1) dL_law_255 rfl (by omega) (by omega) ?_
  refine G_aload_n (pc := 256) 0 dL_law_256 rfl ?_
  refine G_iload_n (pc := 257) 3 dL_law_257 rfl ?_
  refine G_iconst (pc := 258) (v := 2) dL_law_258 rfl ?_
  refine G_iadd (pc := 259) dL_law_259 ?_
  rw [gl2, nI_add]
  refine G_tldXJ (pc := 260) (j := 4 * t + 2) dL_law_260 rfl (by omega) (by omega) ?_
  refine G_aload_n (pc := 261) 0 dL_law_261 rfl ?_
  refine G_iload_n (pc := 262) 3 dL_law_262 rfl ?_
  refine G_iconst (pc := 263) (v := 3) dL_law_263 rfl ?_
  refine G_iadd (pc := 264) dL_law_264 ?_
  rw [gl3, nI_add]
  refine G_tldXJ (pc := 265) (j := 4 * t + 3) dL_law_265 rfl (by omega) (by omega) ?_
  refine gV3 (pc := 266) (k' := 200) (n' := 9801) dL_law_266 lkL_32 ⟨by decide, by decide⟩ (Nat.le_of_ble_eq_true rfl) rfl rfl ⟨by decide, by decide⟩ hMk (c_X12_value hM he hS ?_)
  dsimp only [gRt]
  refine G_lif_eq (pc := 269) (tgt := 766) dL_law_269 dL_law_270 (by decide) (fun h269 => ?_) (fun h269 => ?_)
  · exact hK r l1 i hI2
  · exact absurd rfl h269

set_option maxRecDepth 100000 in
set_option maxHeartbeats 4000000 in
theorem law_corrected {Γ : gG} {T : gTy} {r : gR} {l : gLg} {i : gI} {Q : gQ} {x t : Nat} (hA : gN Γ ≤ x) (hL : gsL Γ ≤ 2048) (ht : 4 * t + 4 ≤ gsL Γ) (hI : lwI T r i x) (hK : ∀ r' l' i', lwI T r' i' x → G Γ ML_law 200 9801 766 [(0, .ref (gsb Γ)), (1, .ref x), (2, .ref (x + 194)), (3, .int (nI (4 * t)))] [] T r' l' i' Q) : G Γ ML_law 200 9801 275 [(0, .ref (gsb Γ)), (1, .ref x), (2, .ref (x + 194)), (3, .int (nI (4 * t)))] [] T r l i Q := by
  have hI2 := hI
  obtain ⟨ws, hs, S, P, n, ln, hX, hM, hRX, hS, he, hP, hV, hl, hlm, hl6, htx⟩ := hI
  have hXk := hX.1
  have hMk := hM.1
  have hn4 := hP.1
  refine G_aload_n (pc := 275) 1 dL_law_275 rfl ?_
  refine G_aload_n (pc := 276) 0 dL_law_276 rfl ?_
  refine G_iload_n (pc := 277) 3 dL_law_277 rfl ?_
  refine G_iconst (pc := 278) (v := 1) dL_law_278 rfl ?_
  refine G_iadd (pc := 279) dL_law_279 ?_
  rw [nI_1]
  refine G_tldXJ (pc := 280) (j := 4 * t + 1) dL_law_280 rfl (by omega) (by omega) ?_
  refine G_aload_n (pc := 281) 0 dL_law_281 rfl ?_
  refine G_iload_n (pc := 282) 3 dL_law_282 rfl ?_
  refine G_iconst (pc := 283) (v := 2) dL_law_283 rfl ?_
  refine G_iadd (pc := 284) dL_law_284 ?_
  rw [gl2, nI_add]
  refine G_tldXJ (pc := 285) (j := 4 * t + 2) dL_law_285 rfl (by omega) (by omega) ?_
  refine G_aload_n (pc := 286) 0 dL_law_286 rfl ?_
  refine G_iload_n (pc := 287) 3 dL_law_287 rfl ?_
  refine G_iconst (pc := 288) (v := 3) dL_law_288 rfl ?_
  refine G_iadd (pc := 289) dL_law_289 ?_
  rw [gl3, nI_add]
  refine G_tldXJ (pc := 290) (j := 4 * t + 3) dL_law_290 rfl (by omega) (by omega) ?_
  refine gV3 (pc := 291) (k' := 200) (n' := 9801) dL_law_291 lkL_33 ⟨by decide, by decide⟩ (Nat.le_of_ble_eq_true rfl) rfl rfl ⟨by decide, by decide⟩ hXk (c_X11_corrected hX hA hRX.1 hS ?_)
  intro l1 i1 f1
  dsimp only [gRt]
  have he1 : i1 (x + 194 + 1) = S := (f1 _ (by omega)).trans he
  refine G_aload_n (pc := 294) 2 dL_law_294 rfl ?_
  refine G_aload_n (pc := 295) 0 dL_law_295 rfl ?_
  refine G_iload_n (pc := 296) 3 dL_law_296 rfl ?_
  refine G_iconst (pc := 297) (v := 1) dL_law_297 rfl ?_
  refine G_iadd (pc := 298) dL_law_298 ?_
  rw [nI_1]
  refine G_tldXJ (pc := 299) (j := 4 * t + 1) dL_law_299 rfl (by omega) (by omega) ?_
  refine G_aload_n (pc := 300) 0 dL_law_300 rfl ?_
  refine G_iload_n (pc := 301) 3 dL_law_301 rfl ?_
  refine G_iconst (pc := 302) (v := 2) dL_law_302 rfl ?_
  refine G_iadd (pc := 303) dL_law_303 ?_
  rw [gl2, nI_add]
  refine G_tldXJ (pc := 304) (j := 4 * t + 2) dL_law_304 rfl (by omega) (by omega) ?_
  refine G_aload_n (pc := 305) 0 dL_law_305 rfl ?_
  refine G_iload_n (pc := 306) 3 dL_law_306 rfl ?_
  refine G_iconst (pc := 307) (v := 3) dL_law_307 rfl ?_
  refine G_iadd (pc := 308) dL_law_308 ?_
  rw [gl3, nI_add]
  refine G_tldXJ (pc := 309) (j := 4 * t + 3) dL_law_309 rfl (by omega) (by omega) ?_
  refine gV3 (pc := 310) (k' := 200) (n' := 9801) dL_law_310 lkL_36 ⟨by decide, by decide⟩ (Nat.le_of_ble_eq_true rfl) rfl rfl ⟨by decide, by decide⟩ hMk (c_X12_corrected hM he1 hS (by omega) ?_)
  intro i2 q2
  dsimp only [gRt]
  refine G_icmp_eq (pc := 313) (tgt := 766) dL_law_313 (by decide) (fun h313 => ?_) (fun h313 => ?_)
  · exact hK r l1 i2 (hI2.ask (fun c c1 c2 => f1 c c1) q2)
  · exact absurd rfl h313

set_option maxRecDepth 100000 in
set_option maxHeartbeats 4000000 in
theorem law_walkOf {Γ : gG} {T : gTy} {r : gR} {l : gLg} {i : gI} {Q : gQ} {x t : Nat} (hA : gN Γ ≤ x) (hL : gsL Γ ≤ 2048) (ht : 4 * t + 4 ≤ gsL Γ) (hI : lwI T r i x) (hK : ∀ r' l' i', lwI T r' i' x → G Γ ML_law 200 9801 766 [(0, .ref (gsb Γ)), (1, .ref x), (2, .ref (x + 194)), (3, .int (nI (4 * t)))] [] T r' l' i' Q) : G Γ ML_law 200 9801 493 [(0, .ref (gsb Γ)), (1, .ref x), (2, .ref (x + 194)), (3, .int (nI (4 * t)))] [] T r l i Q := by
  have hI2 := hI
  obtain ⟨ws, hs, S, P, n, ln, hX, hM, hRX, hS, he, hP, hV, hl, hlm, hl6, htx⟩ := hI
  have hXk := hX.1
  have hMk := hM.1
  have hn4 := hP.1
  refine G_aload_n (pc := 493) 1 dL_law_493 rfl ?_
  refine G_aload_n (pc := 494) 0 dL_law_494 rfl ?_
  refine G_iload_n (pc := 495) 3 dL_law_495 rfl ?_
  refine G_iconst (pc := 496) (v := 1) dL_law_496 rfl ?_
  refine G_iadd (pc := 497) dL_law_497 ?_
  rw [nI_1]
  refine G_tldXJ (pc := 498) (j := 4 * t + 1) dL_law_498 rfl (by omega) (by omega) ?_
  refine G_aload_n (pc := 499) 0 dL_law_499 rfl ?_
  refine G_iload_n (pc := 500) 3 dL_law_500 rfl ?_
  refine G_iconst (pc := 501) (v := 2) dL_law_501 rfl ?_
  refine G_iadd (pc := 502) dL_law_502 ?_
  rw [gl2, nI_add]
  refine G_tldXJ (pc := 503) (j := 4 * t + 2) dL_law_503 rfl (by omega) (by omega) ?_
  refine gV2 (pc := 504) (k' := 200) (n' := 9801) dL_law_504 lkL_57 ⟨by decide, by decide⟩ (Nat.le_of_ble_eq_true rfl) rfl rfl ⟨by decide, by decide⟩ hXk (c_X11_walkOf hX hA hRX.1 hS ?_)
  intro i1 f1
  dsimp only [gRt]
  have he1 : i1 (x + 194 + 1) = S := (f1 _ (by omega)).trans he
  refine G_aload_n (pc := 507) 2 dL_law_507 rfl ?_
  refine G_aload_n (pc := 508) 0 dL_law_508 rfl ?_
  refine G_iload_n (pc := 509) 3 dL_law_509 rfl ?_
  refine G_iconst (pc := 510) (v := 1) dL_law_510 rfl ?_
  refine G_iadd (pc := 511) dL_law_511 ?_
  rw [nI_1]
  refine G_tldXJ (pc := 512) (j := 4 * t + 1) dL_law_512 rfl (by omega) (by omega) ?_
  refine G_aload_n (pc := 513) 0 dL_law_513 rfl ?_
  refine G_iload_n (pc := 514) 3 dL_law_514 rfl ?_
  refine G_iconst (pc := 515) (v := 2) dL_law_515 rfl ?_
  refine G_iadd (pc := 516) dL_law_516 ?_
  rw [gl2, nI_add]
  refine G_tldXJ (pc := 517) (j := 4 * t + 2) dL_law_517 rfl (by omega) (by omega) ?_
  refine gV2 (pc := 518) (k' := 200) (n' := 9801) dL_law_518 lkL_60 ⟨by decide, by decide⟩ (Nat.le_of_ble_eq_true rfl) rfl rfl ⟨by decide, by decide⟩ hMk (c_X12_walkOf hM he1 hS ?_)
  dsimp only [gRt]
  refine G_icmp_eq (pc := 521) (tgt := 766) dL_law_521 (by decide) (fun h521 => ?_) (fun h521 => ?_)
  · exact hK r l i1 (hI2.ask (fun c c1 c2 => f1 c c2) frM.rfl')
  · exact absurd rfl h521

set_option maxRecDepth 100000 in
set_option maxHeartbeats 4000000 in
theorem law_count {Γ : gG} {T : gTy} {r : gR} {l : gLg} {i : gI} {Q : gQ} {x t : Nat} (hA : gN Γ ≤ x) (hL : gsL Γ ≤ 2048) (ht : 4 * t + 4 ≤ gsL Γ) (hI : lwI T r i x) (hK : ∀ r' l' i', lwI T r' i' x → G Γ ML_law 200 9801 766 [(0, .ref (gsb Γ)), (1, .ref x), (2, .ref (x + 194)), (3, .int (nI (4 * t)))] [] T r' l' i' Q) : G Γ ML_law 200 9801 569 [(0, .ref (gsb Γ)), (1, .ref x), (2, .ref (x + 194)), (3, .int (nI (4 * t)))] [] T r l i Q := by
  have hI2 := hI
  obtain ⟨ws, hs, S, P, n, ln, hX, hM, hRX, hS, he, hP, hV, hl, hlm, hl6, htx⟩ := hI
  have hXk := hX.1
  have hMk := hM.1
  have hn4 := hP.1
  obtain ⟨_, o9, hH⟩ := id hRX
  refine G_aload_n (pc := 569) 1 dL_law_569 rfl ?_
  refine G_aload_n (pc := 570) 0 dL_law_570 rfl ?_
  refine G_iload_n (pc := 571) 3 dL_law_571 rfl ?_
  refine G_iconst (pc := 572) (v := 1) dL_law_572 rfl ?_
  refine G_iadd (pc := 573) dL_law_573 ?_
  rw [nI_1]
  refine G_tldXJ (pc := 574) (j := 4 * t + 1) dL_law_574 rfl (by omega) (by omega) ?_
  refine gV1 (pc := 575) (k' := 200) (n' := 9801) dL_law_575 lkL_65 ⟨by decide, by decide⟩ (Nat.le_of_ble_eq_true rfl) rfl rfl ⟨by decide, by decide⟩ hXk (c_X11_count (n := n) (ln := ln) hX hA hRX.1 hS hH.2.2.2.1 hl ?_)
  dsimp only [gRt]
  refine G_aload_n (pc := 578) 2 dL_law_578 rfl ?_
  refine G_aload_n (pc := 579) 0 dL_law_579 rfl ?_
  refine G_iload_n (pc := 580) 3 dL_law_580 rfl ?_
  refine G_iconst (pc := 581) (v := 1) dL_law_581 rfl ?_
  refine G_iadd (pc := 582) dL_law_582 ?_
  rw [nI_1]
  refine G_tldXJ (pc := 583) (j := 4 * t + 1) dL_law_583 rfl (by omega) (by omega) ?_
  refine gV1 (pc := 584) (k' := 200) (n' := 9801) dL_law_584 lkL_68 ⟨by decide, by decide⟩ (Nat.le_of_ble_eq_true rfl) rfl rfl ⟨by decide, by decide⟩ hMk (c_X12_count hM he hS hP hlm ?_)
  dsimp only [gRt]
  refine G_icmp_eq (pc := 587) (tgt := 766) dL_law_587 (by decide) (fun h587 => ?_) (fun h587 => ?_)
  · exact hK r l i hI2
  · exact absurd rfl h587

set_option maxRecDepth 100000 in
set_option maxHeartbeats 4000000 in
theorem law_clearText {Γ : gG} {T : gTy} {r : gR} {l : gLg} {i : gI} {Q : gQ} {x t : Nat} (hA : gN Γ ≤ x) (hL : gsL Γ ≤ 2048) (ht : 4 * t + 4 ≤ gsL Γ) (hI : lwI T r i x) (hK : ∀ r' l' i', lwI T r' i' x → G Γ ML_law 200 9801 766 [(0, .ref (gsb Γ)), (1, .ref x), (2, .ref (x + 194)), (3, .int (nI (4 * t)))] [] T r' l' i' Q) : G Γ ML_law 200 9801 717 [(0, .ref (gsb Γ)), (1, .ref x), (2, .ref (x + 194)), (3, .int (nI (4 * t)))] [] T r l i Q := by
  have hI2 := hI
  obtain ⟨ws, hs, S, P, n, ln, hX, hM, hRX, hS, he, hP, hV, hl, hlm, hl6, htx⟩ := hI
  have hXk := hX.1
  have hMk := hM.1
  have hn4 := hP.1
  refine G_aload_n (pc := 717) 1 dL_law_717 rfl ?_
  refine gV0 (pc := 718) (k' := 200) (n' := 9801) dL_law_718 lkL_90 ⟨by decide, by decide⟩ (Nat.le_of_ble_eq_true rfl) rfl rfl ⟨by decide, by decide⟩ hXk (c_X11_clearText hX hA ?_)
  dsimp only [gRt]
  rw [hl]
  refine G_aload_n (pc := 721) 2 dL_law_721 rfl ?_
  refine gV0 (pc := 722) (k' := 200) (n' := 9801) dL_law_722 lkL_93 ⟨by decide, by decide⟩ (Nat.le_of_ble_eq_true rfl) rfl rfl ⟨by decide, by decide⟩ hMk (c_X12_clearText hM (by omega) ?_)
  dsimp only [gRt]
  rw [up2_ne (by omega), hlm]
  refine G_icmp_eq (pc := 725) (tgt := 766) dL_law_725 (by decide) (fun h725 => ?_) (fun h725 => ?_)
  · exact hK r l _ (hI2.txt (ln := 0) (fun c c1 c2 c3 c4 => by simp (disch := omega) only [up2_ne]) (by simp (disch := omega) only [up2_ne, up2_row]) (by simp (disch := omega) only [up2_ne, up2_self]; rfl) (by rw [up2_self]; rfl) (by decide) (by simp (disch := omega) only [up2_ne]; exact htx))
  · exact absurd rfl h725

set_option maxRecDepth 100000 in
set_option maxHeartbeats 4000000 in
theorem law_undo {Γ : gG} {T : gTy} {r : gR} {l : gLg} {i : gI} {Q : gQ} {x t : Nat} (hA : gN Γ ≤ x) (hL : gsL Γ ≤ 2048) (ht : 4 * t + 4 ≤ gsL Γ) (hI : lwI T r i x) (hK : ∀ r' l' i', lwI T r' i' x → G Γ ML_law 200 9801 766 [(0, .ref (gsb Γ)), (1, .ref x), (2, .ref (x + 194)), (3, .int (nI (4 * t)))] [] T r' l' i' Q) : G Γ ML_law 200 9801 681 [(0, .ref (gsb Γ)), (1, .ref x), (2, .ref (x + 194)), (3, .int (nI (4 * t)))] [] T r l i Q := by
  have hI2 := hI
  obtain ⟨ws, hs, S, P, n, ln, hX, hM, hRX, hS, he, hP, hV, hl, hlm, hl6, htx⟩ := hI
  have hXk := hX.1
  have hMk := hM.1
  have hn4 := hP.1
  refine G_aload_n (pc := 681) 1 dL_law_681 rfl ?_
  refine gV0 (pc := 682) (k' := 200) (n' := 9801) dL_law_682 lkL_81 ⟨by decide, by decide⟩ (Nat.le_of_ble_eq_true rfl) rfl rfl ⟨by decide, by decide⟩ hXk (c_X11_undo hX hA hRX ?_ ?_)
  · intro hn0
    dsimp only [gRt]
    refine G_aload_n (pc := 685) 2 dL_law_685 rfl ?_
    refine gV0 (pc := 686) (k' := 200) (n' := 9801) dL_law_686 lkL_85 ⟨by decide, by decide⟩ (Nat.le_of_ble_eq_true rfl) rfl rfl ⟨by decide, by decide⟩ hMk (c_X12_undo hM (by omega) he hP ?_ ?_)
    · intro _
      dsimp only [gRt]
      refine G_icmp_eq (pc := 689) (tgt := 766) dL_law_689 (by decide) (fun h689 => ?_) (fun h689 => ?_)
      · exact hK r l i hI2
      · exact absurd rfl h689
    · intro b hb
      exact absurd hb (by omega)
  · intro b hb i1 f1 g1
    have he1 : i1 (x + 194 + 1) = S := (f1 _ (by omega)).trans he
    have hP1 : rpP i1 (x + 194) P n := hP.eq (by rw [f1 _ (by omega)]) (f1 _ (by omega))
    dsimp only [gRt]
    refine G_aload_n (pc := 685) 2 dL_law_685 rfl ?_
    refine gV0 (pc := 686) (k' := 200) (n' := 9801) dL_law_686 lkL_85 ⟨by decide, by decide⟩ (Nat.le_of_ble_eq_true rfl) rfl rfl ⟨by decide, by decide⟩ hMk (c_X12_undo hM (by omega) he1 hP1 ?_ ?_)
    · intro h0
      exact absurd h0 (by omega)
    · intro b2 hb2 i2 q2
      obtain rfl : b2 = b := by omega
      dsimp only [gRt]
      refine G_icmp_eq (pc := 689) (tgt := 766) dL_law_689 (by decide) (fun h689 => ?_) (fun h689 => ?_)
      · have hn4b : b2 ≤ 4 := by omega
        have hVb : ∀ j, j < b2 → vS (P j) := fun j hj => hV j (by omega)
        have hSb := hV b2 (by omega)
        obtain ⟨q3, q4, q5, q6, q7⟩ := q2
        have ec : ∀ k, k < 853 → cpy S (P b2) 853 k = P b2 k := fun k hk => by unfold cpy; rw [if_pos hk]
        refine hK r l i2 ⟨ws, hs, cpy S (P b2) 853, P, b2, ln, hX, hM, ?_, vS_ext hSb ec, q6, q7, hVb, ?_, ?_, hl6, ?_⟩
        · obtain ⟨g3, o9, g4⟩ := g1.kept (i' := i2) hX (fun c c1 c2 => q3 c (by omega))
          exact ⟨rpSt_ext g3 ec, o9, g4⟩
        · rw [q3 _ (by omega), f1 _ (by omega)]; exact hl
        · rw [q4, f1 _ (by omega)]; exact hlm
        · rw [q3 _ (by omega), f1 _ (by omega), q5, f1 _ (by omega)]; exact htx
      · exact absurd rfl h689

set_option maxRecDepth 100000 in
set_option maxHeartbeats 4000000 in
theorem law_type {Γ : gG} {T : gTy} {r : gR} {l : gLg} {i : gI} {Q : gQ} {x t : Nat} (hA : gN Γ ≤ x) (hL : gsL Γ ≤ 2048) (ht : 4 * t + 4 ≤ gsL Γ) (hI : lwI T r i x) (hK : ∀ r' l' i', lwI T r' i' x → G Γ ML_law 200 9801 766 [(0, .ref (gsb Γ)), (1, .ref x), (2, .ref (x + 194)), (3, .int (nI (4 * t)))] [] T r' l' i' Q) : G Γ ML_law 200 9801 694 [(0, .ref (gsb Γ)), (1, .ref x), (2, .ref (x + 194)), (3, .int (nI (4 * t)))] [] T r l i Q := by
  have hI2 := hI
  obtain ⟨ws, hs, S, P, n, ln, hX, hM, hRX, hS, he, hP, hV, hl, hlm, hl6, htx⟩ := hI
  have hXk := hX.1
  have hMk := hM.1
  have hn4 := hP.1
  refine G_aload_n (pc := 694) 1 dL_law_694 rfl ?_
  refine G_aload_n (pc := 695) 0 dL_law_695 rfl ?_
  refine G_iload_n (pc := 696) 3 dL_law_696 rfl ?_
  refine G_iconst (pc := 697) (v := 1) dL_law_697 rfl ?_
  refine G_iadd (pc := 698) dL_law_698 ?_
  rw [nI_1]
  refine G_tldXJ (pc := 699) (j := 4 * t + 1) dL_law_699 rfl (by omega) (by omega) ?_
  refine gV1 (pc := 700) (k' := 200) (n' := 9801) dL_law_700 lkL_86 ⟨by decide, by decide⟩ (Nat.le_of_ble_eq_true rfl) rfl rfl ⟨by decide, by decide⟩ hXk (c_X11_type hX hA hl hl6 ?_ ?_ ?_)
  · intro hno
    dsimp only [gRt]
    refine G_aload_n (pc := 703) 2 dL_law_703 rfl ?_
    refine G_aload_n (pc := 704) 0 dL_law_704 rfl ?_
    refine G_iload_n (pc := 705) 3 dL_law_705 rfl ?_
    refine G_iconst (pc := 706) (v := 1) dL_law_706 rfl ?_
    refine G_iadd (pc := 707) dL_law_707 ?_
    rw [nI_1]
    refine G_tldXJ (pc := 708) (j := 4 * t + 1) dL_law_708 rfl (by omega) (by omega) ?_
    refine gV1 (pc := 709) (k' := 200) (n' := 9801) dL_law_709 lkL_89 ⟨by decide, by decide⟩ (Nat.le_of_ble_eq_true rfl) rfl rfl ⟨by decide, by decide⟩ hMk (c_X12_type hM (by omega) hlm hl6 ?_ ?_ ?_)
    · intro _
      dsimp only [gRt]
      refine G_icmp_eq (pc := 712) (tgt := 766) dL_law_712 (by decide) (fun h712 => ?_) (fun h712 => ?_)
      · exact hK r l i hI2
      · exact absurd rfl h712
    · intro u _
      exact absurd u hno
    · intro u _
      exact absurd u hno
  · intro hin hfull
    dsimp only [gRt]
    refine G_aload_n (pc := 703) 2 dL_law_703 rfl ?_
    refine G_aload_n (pc := 704) 0 dL_law_704 rfl ?_
    refine G_iload_n (pc := 705) 3 dL_law_705 rfl ?_
    refine G_iconst (pc := 706) (v := 1) dL_law_706 rfl ?_
    refine G_iadd (pc := 707) dL_law_707 ?_
    rw [nI_1]
    refine G_tldXJ (pc := 708) (j := 4 * t + 1) dL_law_708 rfl (by omega) (by omega) ?_
    refine gV1 (pc := 709) (k' := 200) (n' := 9801) dL_law_709 lkL_89 ⟨by decide, by decide⟩ (Nat.le_of_ble_eq_true rfl) rfl rfl ⟨by decide, by decide⟩ hMk (c_X12_type hM (by omega) hlm hl6 ?_ ?_ ?_)
    · intro u
      exact absurd hin u
    · intro _ _
      dsimp only [gRt]
      refine G_icmp_eq (pc := 712) (tgt := 766) dL_law_712 (by decide) (fun h712 => ?_) (fun h712 => ?_)
      · exact hK r l i hI2
      · exact absurd rfl h712
    · intro _ u
      exact absurd hfull (by omega)
  · intro hin hlt
    dsimp only [gRt]
    refine G_aload_n (pc := 703) 2 dL_law_703 rfl ?_
    refine G_aload_n (pc := 704) 0 dL_law_704 rfl ?_
    refine G_iload_n (pc := 705) 3 dL_law_705 rfl ?_
    refine G_iconst (pc := 706) (v := 1) dL_law_706 rfl ?_
    refine G_iadd (pc := 707) dL_law_707 ?_
    rw [nI_1]
    refine G_tldXJ (pc := 708) (j := 4 * t + 1) dL_law_708 rfl (by omega) (by omega) ?_
    refine gV1 (pc := 709) (k' := 200) (n' := 9801) dL_law_709 lkL_89 ⟨by decide, by decide⟩ (Nat.le_of_ble_eq_true rfl) rfl rfl ⟨by decide, by decide⟩ hMk (c_X12_type hM (by omega) (ln := ln) (by simp (disch := omega) only [up2_ne]; exact hlm) hl6 ?_ ?_ ?_)
    · intro u
      exact absurd hin u
    · intro _ u
      exact absurd u (by omega)
    · intro _ _
      dsimp only [gRt]
      refine G_icmp_eq (pc := 712) (tgt := 766) dL_law_712 (by decide) (fun h712 => ?_) (fun h712 => ?_)
      · refine hK r l _ (hI2.txt (ln := ln + 1) (fun c c1 c2 c3 c4 => by simp (disch := omega) only [up2_ne]) (by simp (disch := omega) only [up2_ne, up2_row]) (by simp (disch := omega) only [up2_ne, up2_self]) (by simp (disch := omega) only [up2_self]) (by omega) ?_)
        simp (disch := omega) only [up2_ne, up2_at]
        rw [htx]
      · exact absurd rfl h712

set_option maxRecDepth 100000 in
set_option maxHeartbeats 4000000 in
theorem law_drop {Γ : gG} {T : gTy} {r : gR} {l : gLg} {i : gI} {Q : gQ} {x t : Nat} (hA : gN Γ ≤ x) (hL : gsL Γ ≤ 2048) (ht : 4 * t + 4 ≤ gsL Γ) (hI : lwI T r i x) (hK : ∀ r' l' i', lwI T r' i' x → G Γ ML_law 200 9801 766 [(0, .ref (gsb Γ)), (1, .ref x), (2, .ref (x + 194)), (3, .int (nI (4 * t)))] [] T r' l' i' Q) : G Γ ML_law 200 9801 437 [(0, .ref (gsb Γ)), (1, .ref x), (2, .ref (x + 194)), (3, .int (nI (4 * t)))] [] T r l i Q := by
  have hI2 := hI
  obtain ⟨ws, hs, S, P, n, ln, hX, hM, hRX, hS, he, hP, hV, hl, hlm, hl6, htx⟩ := hI
  have hXk := hX.1
  have hMk := hM.1
  have hn4 := hP.1
  refine G_aload_n (pc := 437) 1 dL_law_437 rfl ?_
  refine G_aload_n (pc := 438) 0 dL_law_438 rfl ?_
  refine G_iload_n (pc := 439) 3 dL_law_439 rfl ?_
  refine G_iconst (pc := 440) (v := 1) dL_law_440 rfl ?_
  refine G_iadd (pc := 441) dL_law_441 ?_
  rw [nI_1]
  refine G_tldXJ (pc := 442) (j := 4 * t + 1) dL_law_442 rfl (by omega) (by omega) ?_
  refine gV1 (pc := 443) (k' := 200) (n' := 9801) dL_law_443 lkL_49 ⟨by decide, by decide⟩ (Nat.le_of_ble_eq_true rfl) rfl rfl ⟨by decide, by decide⟩ hXk (c_X11_drop hX hA hRX hS ?_ ?_)
  · intro hno
    dsimp only [gRt]
    refine G_aload_n (pc := 446) 2 dL_law_446 rfl ?_
    refine G_aload_n (pc := 447) 0 dL_law_447 rfl ?_
    refine G_iload_n (pc := 448) 3 dL_law_448 rfl ?_
    refine G_iconst (pc := 449) (v := 1) dL_law_449 rfl ?_
    refine G_iadd (pc := 450) dL_law_450 ?_
    rw [nI_1]
    refine G_tldXJ (pc := 451) (j := 4 * t + 1) dL_law_451 rfl (by omega) (by omega) ?_
    refine gV1 (pc := 452) (k' := 200) (n' := 9801) dL_law_452 lkL_52 ⟨by decide, by decide⟩ (Nat.le_of_ble_eq_true rfl) rfl rfl ⟨by decide, by decide⟩ hMk (c_X12_drop hM (by omega) he hP hS ?_ ?_)
    · intro _ i2 q2
      dsimp only [gRt]
      refine G_icmp_eq (pc := 455) (tgt := 766) dL_law_455 (by decide) (fun h455 => ?_) (fun h455 => ?_)
      · exact hK r l i2 (lwI.act (o := none) hX hM hS hS hn4 hV frC.rf hRX q2 hl hlm hl6 htx)
      · exact absurd rfl h455
    · intro a ha haw
      exact absurd (by rw [haw, (nW_of hS).2.1]; exact (isW (by have := (nW_of hS).1; omega)).mpr ⟨a, ha, rfl⟩) hno
  · intro a ha haw r1 i1 w1 hr hX1 f1 g1
    have he1 : i1 (x + 194 + 1) = S := (f1 _ (by omega)).trans he
    have hP1 : rpP i1 (x + 194) P n := hP.eq (by rw [f1 _ (by omega)]) (f1 _ (by omega))
    have hM1 : lyM T r1 (x + 194) := hM.rk (hr _ (by omega))
    dsimp only [gRt]
    refine G_aload_n (pc := 446) 2 dL_law_446 rfl ?_
    refine G_aload_n (pc := 447) 0 dL_law_447 rfl ?_
    refine G_iload_n (pc := 448) 3 dL_law_448 rfl ?_
    refine G_iconst (pc := 449) (v := 1) dL_law_449 rfl ?_
    refine G_iadd (pc := 450) dL_law_450 ?_
    rw [nI_1]
    refine G_tldXJ (pc := 451) (j := 4 * t + 1) dL_law_451 rfl (by omega) (by omega) ?_
    refine gV1 (pc := 452) (k' := 200) (n' := 9801) dL_law_452 lkL_52 ⟨by decide, by decide⟩ (Nat.le_of_ble_eq_true rfl) rfl rfl ⟨by decide, by decide⟩ hMk (c_X12_drop hM1 (by omega) he1 hP1 hS ?_ ?_)
    · intro hno
      exact absurd (by rw [haw, (nW_of hS).2.1]; exact (isW (by have := (nW_of hS).1; omega)).mpr ⟨a, ha, rfl⟩) hno
    · intro a2 ha2 haw2 i2 F hF q2
      obtain rfl : a2 = a := (nI_eq (by have := (nW_of hS).1; omega) (by have := (nW_of hS).1; omega)).mp (haw2.symm.trans haw)
      dsimp only [gRt]
      refine G_icmp_eq (pc := 455) (tgt := 766) dL_law_455 (by decide) (fun h455 => ?_) (fun h455 => ?_)
      · obtain ⟨q3, q4, q5, q6, q7⟩ := q2
        have g2 := g1 F hF
        refine hK r1 l i2 ⟨w1, hs, F, _, _, ln, hX1, hM1, g2.kept hX1 (fun c c1 c2 => q3 c (by omega)), vS_drop hS hF, q6, q7, vP_nx (o := some F) hS hn4 hV, ?_, ?_, hl6, ?_⟩
        · rw [q3 _ (by omega), f1 _ (by omega)]; exact hl
        · rw [q4, f1 _ (by omega)]; exact hlm
        · rw [q3 _ (by omega), f1 _ (by omega), q5, f1 _ (by omega)]; exact htx
      · exact absurd rfl h455

