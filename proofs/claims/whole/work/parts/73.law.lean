/-! the law: its loop, its entry -/
set_option maxRecDepth 100000 in
set_option maxHeartbeats 4000000 in
theorem lp_L_law {Γ : gG} {T : gTy} {Q : gQ} {x : Nat} (hA : gN Γ ≤ x) (hL : gsL Γ ≤ 2048) (hQ : ∀ (T : gTy) (r : gR) (l : gLg) (i : gI), Q (some (.int 1)) T r l i) : ∀ d t (r : gR) (l : gLg) (i : gI), gsL Γ < 4 * t + 4 * d + 4 → 4 * t ≤ gsL Γ + 3 → lwI T r i x → G Γ ML_law 200 9801 18 [(0, .ref (gsb Γ)), (1, .ref x), (2, .ref (x + 194)), (3, .int (nI (4 * t)))] [] T r l i Q := by
  intro d
  induction d with
  | zero =>
    intro t r l i hd ht4 hI
    refine G_iload_n (pc := 18) 3 dL_law_18 rfl ?_
    refine G_aload_n (pc := 19) 0 dL_law_19 rfl ?_
    refine G_tlenX (pc := 20) (v := nI (gsL Γ)) dL_law_20 rfl ?_
    refine G_iconst (pc := 21) (v := 4) dL_law_21 rfl ?_
    refine G_isub (pc := 22) dL_law_22 ?_
    refine G_icmp_gt (pc := 23) (tgt := 772) dL_law_23 (by decide) (fun h23 => ?_) (fun h23 => ?_)
    · refine G_iconst (pc := 772) (v := 1) dL_law_772 rfl ?_
      refine G_iret (pc := 773) dL_law_773 ⟨_, rfl, rfl⟩ ⟨by decide, by decide⟩ ?_
      exact hQ T r l i
    · exact absurd (gs_ge hL h23 (by omega)) (by omega)
  | succ d ih =>
    intro t r l i hd ht4 hI
    refine G_iload_n (pc := 18) 3 dL_law_18 rfl ?_
    refine G_aload_n (pc := 19) 0 dL_law_19 rfl ?_
    refine G_tlenX (pc := 20) (v := nI (gsL Γ)) dL_law_20 rfl ?_
    refine G_iconst (pc := 21) (v := 4) dL_law_21 rfl ?_
    refine G_isub (pc := 22) dL_law_22 ?_
    refine G_icmp_gt (pc := 23) (tgt := 772) dL_law_23 (by decide) (fun h23 => ?_) (fun h23 => ?_)
    · refine G_iconst (pc := 772) (v := 1) dL_law_772 rfl ?_
      refine G_iret (pc := 773) dL_law_773 ⟨_, rfl, rfl⟩ ⟨by decide, by decide⟩ ?_
      exact hQ T r l i
    · refine G_aload_n (pc := 26) 0 dL_law_26 rfl ?_
      refine G_iload_n (pc := 27) 3 dL_law_27 rfl ?_
      refine G_tldXJ (pc := 28) (j := 4 * t) dL_law_28 rfl (by have := gs_ge hL h23 (by omega); omega) (by omega) ?_
      refine G_bipush (pc := 29) (v := 31) dL_law_29 rfl ?_
      refine G_iand (pc := 31) dL_law_31 ?_
      have ht : 4 * t + 4 ≤ gsL Γ := gs_ge hL h23 (by omega)
      have hK : ∀ (r' : gR) (l' : gLg) (i' : gI), lwI T r' i' x → G Γ ML_law 200 9801 766 [(0, .ref (gsb Γ)), (1, .ref x), (2, .ref (x + 194)), (3, .int (nI (4 * t)))] [] T r' l' i' Q := by
        intro r' l' i' hI'
        refine G_inc3 (pc := 766) (v := 4) dL_law_766 rfl (by decide) rfl ?_
        refine G_goto (pc := 769) (tgt := 18) dL_law_769 (by decide) ?_
        have e4 : nI (4 * t) + 4 = nI (4 * (t + 1)) := by rw [show (4 : Int32) = nI 4 from rfl, nI_add, show 4 * t + 4 = 4 * (t + 1) by omega]
        rw [e4]
        exact ih (t + 1) r' l' i' (by omega) (by omega) hI'
      obtain ⟨j, hj, hv⟩ := pk_andE (gsx Γ (4 * t)) (m := 31) 5 (by decide)
      rw [hv]
      have hj : j < 32 := hj
      rcases (show j = 0 ∨ j = 1 ∨ j = 2 ∨ j = 3 ∨ j = 4 ∨ j = 5 ∨ j = 6 ∨ j = 7 ∨ j = 8 ∨ j = 9 ∨ j = 10 ∨ j = 11 ∨ j = 12 ∨ j = 13 ∨ j = 14 ∨ j = 15 ∨ j = 16 ∨ j = 17 ∨ j = 18 ∨ j = 19 ∨ j = 20 ∨ 21 ≤ j by omega) with rfl | rfl | rfl | rfl | rfl | rfl | rfl | rfl | rfl | rfl | rfl | rfl | rfl | rfl | rfl | rfl | rfl | rfl | rfl | rfl | rfl | hj21
      · refine G_tableIn (pc := 32) (tgt := 132) dL_law_32 (by decide) (by decide) rfl (by decide) ?_
        exact law_term hA hL ht hI hK
      · refine G_tableIn (pc := 32) (tgt := 175) dL_law_32 (by decide) (by decide) rfl (by decide) ?_
        exact law_dropTerm hA hL ht hI hK
      · refine G_tableIn (pc := 32) (tgt := 198) dL_law_32 (by decide) (by decide) rfl (by decide) ?_
        exact law_termOf hA hL ht hI hK
      · refine G_tableIn (pc := 32) (tgt := 231) dL_law_32 (by decide) (by decide) rfl (by decide) ?_
        exact law_value hA hL ht hI hK
      · refine G_tableIn (pc := 32) (tgt := 275) dL_law_32 (by decide) (by decide) rfl (by decide) ?_
        exact law_corrected hA hL ht hI hK
      · refine G_tableIn (pc := 32) (tgt := 318) dL_law_32 (by decide) (by decide) rfl (by decide) ?_
        exact law_begin hA hL ht hI hK
      · refine G_tableIn (pc := 32) (tgt := 361) dL_law_32 (by decide) (by decide) rfl (by decide) ?_
        exact law_branch hA hL ht hI hK
      · refine G_tableIn (pc := 32) (tgt := 404) dL_law_32 (by decide) (by decide) rfl (by decide) ?_
        exact law_step hA hL ht hI hK
      · refine G_tableIn (pc := 32) (tgt := 437) dL_law_32 (by decide) (by decide) rfl (by decide) ?_
        exact law_drop hA hL ht hI hK
      · refine G_tableIn (pc := 32) (tgt := 460) dL_law_32 (by decide) (by decide) rfl (by decide) ?_
        exact law_set hA hL ht hI hK
      · refine G_tableIn (pc := 32) (tgt := 493) dL_law_32 (by decide) (by decide) rfl (by decide) ?_
        exact law_walkOf hA hL ht hI hK
      · refine G_tableIn (pc := 32) (tgt := 526) dL_law_32 (by decide) (by decide) rfl (by decide) ?_
        exact law_placeOf hA hL ht hI hK
      · refine G_tableIn (pc := 32) (tgt := 569) dL_law_32 (by decide) (by decide) rfl (by decide) ?_
        exact law_count hA hL ht hI hK
      · refine G_tableIn (pc := 32) (tgt := 592) dL_law_32 (by decide) (by decide) rfl (by decide) ?_
        exact law_meets hA hL ht hI hK
      · refine G_tableIn (pc := 32) (tgt := 615) dL_law_32 (by decide) (by decide) rfl (by decide) ?_
        exact law_lengthBits hA hL ht hI hK
      · refine G_tableIn (pc := 32) (tgt := 638) dL_law_32 (by decide) (by decide) rfl (by decide) ?_
        exact law_nearest hA hL ht hI hK
      · refine G_tableIn (pc := 32) (tgt := 681) dL_law_32 (by decide) (by decide) rfl (by decide) ?_
        exact law_undo hA hL ht hI hK
      · refine G_tableIn (pc := 32) (tgt := 694) dL_law_32 (by decide) (by decide) rfl (by decide) ?_
        exact law_type hA hL ht hI hK
      · refine G_tableIn (pc := 32) (tgt := 717) dL_law_32 (by decide) (by decide) rfl (by decide) ?_
        exact law_clearText hA hL ht hI hK
      · refine G_tableIn (pc := 32) (tgt := 730) dL_law_32 (by decide) (by decide) rfl (by decide) ?_
        exact law_fault hA hL ht hI hK
      · refine G_tableIn (pc := 32) (tgt := 753) dL_law_32 (by decide) (by decide) rfl (by decide) ?_
        exact law_read hA hL ht hI hK
      · refine G_tableOut (pc := 32) (tgt := 766) dL_law_32 (Or.inr (by rw [nI_toInt (by omega)]; omega)) (by decide) ?_
        exact hK r l i hI

/-- the flat state of a new object -/
def lwS : Nat → Int32 := upd (upd (upd (fun _ => 0) 2 16) 3 64) 4 8
theorem lwS_v : vS lwS := by
  refine ⟨vT_mk (n := 0) (by decide) rfl (fun k hk => absurd hk (Nat.not_lt_zero k)), ⟨⟨16, by decide, by decide, rfl⟩, ⟨64, by decide, by decide, rfl⟩, ?_⟩, 0, by decide, rfl, fun k hk => absurd hk (Nat.not_lt_zero k)⟩
  have e : tM lwS = 8 := by
    unfold tM
    rw [show lwS 4 = nI 8 from rfl, nI_clamp (by decide)]
  rw [e]
  exact ⟨by decide, by decide, rfl⟩
theorem lwI.new {T : gTy} {r : gR} {i : gI} {x : Nat} {ws : Nat → Nat} {hs : Nat → Nat → Nat} (hX : lyX T r x ws hs) (hM : lyM T r (x + 194)) (h1 : ∀ b, x + 1 ≤ b → b < x + 35 → i b = fun _ => 0) (h2 : i (x + 1 + 35) 0 = 16 ∧ i (x + 1 + 35) 1 = 64 ∧ i (x + 1 + 35) 2 = 8) (h3 : i (x + 37) = fun _ => 0) (h4 : i (x + 187) = fun _ => 0) (h5 : i (x + 187 + 1) = fun _ => 0)
  (m0 : i (x + 194) = fun _ => 0) (m4 : i (x + 194 + 4) = fun _ => 0) (m1 : i (x + 194 + 1) = lwS) : lwI T r i x := by
  obtain ⟨s0, s1, s2⟩ := h2
  refine ⟨ws, hs, lwS, fun _ _ => 0, 0, 0, hX, hM, ⟨⟨0, 0, ⟨by decide, ?_, rfl, fun k hk => absurd hk (Nat.not_lt_zero k)⟩, ⟨by decide, ?_, rfl, fun k hk => absurd hk (Nat.not_lt_zero k)⟩, fun c hc => ?_⟩, 0, by decide, by decide, ?_, ?_, fun j hj => absurd hj (Nat.not_lt_zero j)⟩, lwS_v, m1, ⟨by decide, ?_, fun j hj => absurd hj (Nat.not_lt_zero j)⟩, fun j hj => absurd hj (Nat.not_lt_zero j), ?_, ?_, by decide, ?_⟩
  · rw [h1 _ (by omega) (by omega)]; rfl
  · rw [h1 _ (by omega) (by omega)]; rfl
  · rcases (show c = 0 ∨ c = 1 ∨ c = 2 by omega) with rfl | rfl | rfl
    · exact s0
    · exact s1
    · exact s2
  · rw [h3]; rfl
  · rw [h3]; rfl
  · rw [m0]; rfl
  · rw [h4]; rfl
  · rw [m0]; rfl
  · rw [h5, m4]
set_option maxRecDepth 100000 in
set_option maxHeartbeats 4000000 in
theorem law_main {Γ : gG} {Q : gQ} {x : Nat} (hA : gN Γ ≤ x) (hL : gsL Γ ≤ 2048) (hQ : ∀ (T : gTy) (r : gR) (l : gLg) (i : gI), Q (some (.int 1)) T r l i) : ∀ (sh : Nat → Nat × Nat) (r : gR) (l : gLg) (i : gI), G Γ ML_law 0 0 0 [(0, .ref (gsb Γ))] [] (x, sh) r l i Q := by
  intro sh r l i
  refine G_new (pc := 0) (ci := 11) (C := RX11) (Tb := TX11) (ty0 := tyX11) dL_law_0 rfl (by decide) rfl inGX11 tyX11_ok (fun j hj => by rcases (show j = 0 ∨ j = 1 ∨ j = 2 ∨ j = 3 ∨ j = 4 by omega) with rfl | rfl | rfl | rfl | rfl <;> rfl) clL_7 insX11 iniX11 (by decide) (by decide) ?_
  dsimp only [gT1, gR1, gL1, gI1]
  refine G_dup (pc := 3) dL_law_3 rfl ?_
  refine gI0 (pc := 4) (k' := 194) (n' := 4606) dL_law_4 lkL_9 ⟨by decide, by decide⟩ (Nat.le_of_ble_eq_true rfl) rfl rfl ⟨by decide, by decide⟩ (c_X11_init (a := x) rfl (by simp (disch := omega) only [vu_o, vu_s, up2_ne, up2_row, up2_self]) hA (by simp (disch := omega) only [vu_o, vu_s, up2_ne, up2_row, up2_self]) ?_)
  intro T1 r1 l1 i1 e1 o1 p1_0 p1_1 p1_2 p1_3 p1_4 p1_5
  dsimp only [gRt]
  obtain ⟨t1, s1⟩ := T1
  obtain rfl : t1 = x + 194 := e1
  dsimp only at o1
  have so1 := fun b hb => (o1 b hb).1
  have ro1 := fun b hb => (o1 b hb).2.1
  have io1 := fun b hb => (o1 b hb).2.2
  refine G_sn1 (pc := 7) (gSt_an dL_law_7 rfl (by decide)) rfl ?_
  refine G_new (pc := 8) (ci := 12) (C := RX12) (Tb := TX12) (ty0 := tyX12) dL_law_8 rfl (by decide) rfl inGX12 tyX12_ok (fun j hj => by rcases (show j = 0 ∨ j = 1 ∨ j = 2 ∨ j = 3 ∨ j = 4 ∨ j = 5 ∨ j = 6 ∨ j = 7 ∨ j = 8 ∨ j = 9 ∨ j = 10 ∨ j = 11 by omega) with rfl | rfl | rfl | rfl | rfl | rfl | rfl | rfl | rfl | rfl | rfl | rfl <;> rfl) clL_10 insX12 iniX12 (by decide) (by decide) ?_
  dsimp only [gT1, gR1, gL1, gI1]
  refine G_dup (pc := 11) dL_law_11 rfl ?_
  refine gI0 (pc := 12) (k' := 200) (n' := 9801) dL_law_12 lkL_12 ⟨by decide, by decide⟩ (Nat.le_of_ble_eq_true rfl) rfl rfl ⟨by decide, by decide⟩ (c_X12_init (a := x + 194) rfl (by simp (disch := omega) only [vu_o, vu_s, up2_ne, up2_row, up2_self]) (by omega) (by simp (disch := omega) only [vu_o, vu_s, up2_ne, up2_row, up2_self]) ?_)
  intro T2 r2 l2 i2 e2 o2 p2_0 p2_1 p2_2 p2_3
  dsimp only [gRt]
  obtain ⟨t2, s2⟩ := T2
  obtain rfl : t2 = x + 194 + 6 := e2
  dsimp only at o2
  have so2 := fun b hb => (o2 b hb).1
  have ro2 := fun b hb => (o2 b hb).2.1
  have io2 := fun b hb => (o2 b hb).2.2
  refine G_sn2 (pc := 15) (gSt_an dL_law_15 rfl (by decide)) rfl ?_
  refine G_iconst (pc := 16) (v := 0) dL_law_16 rfl ?_
  refine G_sn3 (pc := 17) (gSt_in dL_law_17 rfl (by decide)) rfl ?_
  refine lp_L_law hA hL hQ (gsL Γ) 0 _ _ _ (by omega) (by omega) (lwI.new (p1_0.mv (fun b b1 b2 => ⟨by simp (disch := omega) only [vu_o, vu_s, up2_ne, up2_row, up2_self, so2, ro2, io2], by simp (disch := omega) only [vu_o, vu_s, up2_ne, up2_row, up2_self, so2, ro2, io2]⟩)) p2_0 ?_ ?_ ?_ ?_ ?_ p2_1 p2_2 p2_3)
  · intro b b1 b2; simp (disch := omega) only [vu_o, vu_s, up2_ne, up2_row, up2_self, so2, ro2, io2]; exact p1_1 b b1 b2
  · simp (disch := omega) only [vu_o, vu_s, up2_ne, up2_row, up2_self, so2, ro2, io2]; exact p1_2
  · simp (disch := omega) only [vu_o, vu_s, up2_ne, up2_row, up2_self, so2, ro2, io2]; exact p1_3
  · simp (disch := omega) only [vu_o, vu_s, up2_ne, up2_row, up2_self, so2, ro2, io2]; exact p1_4
  · simp (disch := omega) only [vu_o, vu_s, up2_ne, up2_row, up2_self, so2, ro2, io2]; exact p1_5

