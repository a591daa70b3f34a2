/-! fault, read -/
theorem wi01 {x : Int32} : (¬ x.toInt64 < 0 ∧ ¬ 1 < x.toInt64) ↔ inI x 0 1 := wi (a := 0) (b := 1)
theorem rdX_rp {i1 i2 i3 : gI} {b rd n : Nat} {ws : Nat → Nat} {S F : Nat → Int32} {C : rS} (h3 : rpS i2 (b + 34) S) (hC : rdV i1 rd C) (hn : C.1 = n) (hn6 : n ≤ 6) (hk : ∀ c, rd ≤ c → c < rd + 5 → i2 c = i1 c) (hb : b + 36 ≤ rd) (g : cpT (up2 i2 (b + 5) 3 0) i3 (b + 1) (rd + 1) n n)
  (hM : rM n C.2.1 F) (f0 : F 0 = nI n) (f1 : F 1 = 0) (f2 : ∀ k, 2 ≤ k → k < 5 → F k = S k) : rpSt i3 b ws F := by
  obtain ⟨g1, g2, g3⟩ := g
  obtain ⟨-, -, -, -, -, -, e7⟩ := hC
  refine ⟨n, 0, ⟨hn6, g2, f0, fun k hk2 c hc => ?_⟩, ⟨by decide, ?_, f1, fun k hk => absurd hk (Nat.not_lt_zero k)⟩, fun c hc => ?_⟩
  · rw [g3 k hk2 c hc, up2_ne (by omega), hk _ (by omega) (by omega), e7 c hc k (by omega), hM c hc k hk2]
  · rw [g1 (b + 5) (by omega), up2_self]; rfl
  · rw [g1 (b + 34 + 1) (by omega), up2_ne (by omega), h3 c hc, f2 _ (by omega) (by omega)]
set_option maxRecDepth 100000 in
set_option maxHeartbeats 4000000 in
theorem c_X11_fault {Γ : gG} {T : gTy} {r : gR} {l : gLg} {i : gI} {Q : gQ} {x n : Nat} {ws : Nat → Nat} {hs : Nat → Nat → Nat} {S : Nat → Int32} {P : Nat → Nat → Int32} {ln : Nat} {w : Int32} (hX : lyX T r x ws hs) (hA : gN Γ ≤ x) (hRX : rX i x ws hs S P n) (hS : vS S) (hl : i (x + 187) 1 = nI ln) (hl6 : ln ≤ 60) (hQ : ∀ i', frC x i i' → rX i' x ws hs S P n → Q (some (.int (aFault (i (x + 187 + 1)) ln S w))) T r l i') : gC Γ MX11_fault [.ref x, .int w] T r l i Q := by
  have hX2 := hX
  have hR := hRX.1
  obtain ⟨x0, x1, x2, x3, x4, x5, x6, x7, x8, x9, x10⟩ := hX
  obtain ⟨s0, s1, s2, s3, s4, s5, s6⟩ := id x6
  obtain ⟨t0, t1, t2, t3, t4, t5, t6⟩ := id s4
  obtain ⟨f1, f2, f3, f4⟩ := stF hR hS
  have hT := hS.1
  have hE := hS.2.1
  have hn6 := hT.1.1
  have hn3 := f1.2.1
  obtain ⟨w5, w1, wk⟩ := nW_of hS
  have x7k := x7.1
  have s5k := s5.1
  have x10k := x10.1
  refine gC_of rfl (Nat.le_of_ble_eq_true rfl) (L := [(0, .ref x), (1, .int w)]) rfl ?_
  refine G_iload_n (pc := 0) 1 dX11_fault_0 rfl ?_
  refine G_i2l (pc := 1) dX11_fault_1 ?_
  refine G_lconst (pc := 2) (v := 0) dX11_fault_2 rfl ?_
  refine G_lconst (pc := 3) (v := 1) dX11_fault_3 rfl ?_
  refine gS3 (pc := 4) (k' := 0) (n' := 0) dX11_fault_4 lkX11_48 ⟨by decide, by decide⟩ (Nat.le_of_ble_eq_true rfl) rfl rfl ⟨by decide, by decide⟩ (c_X11_isWithin ?_)
  dsimp only [gRt]
  refine G_if_ne (pc := 7) (tgt := 13) dX11_fault_7 (by decide) (fun h7 => ?_) (fun h7 => ?_)
  · have hin := wi01.mp (gB_ne.mp h7)
    refine G_aload_n (pc := 13) 0 dX11_fault_13 rfl ?_
    refine G_getR (pc := 14) dX11_fault_14 fX11_40 (by assumption) (by assumption) ?_
    refine G_aload_n (pc := 17) 0 dX11_fault_17 rfl ?_
    refine G_getR (pc := 18) dX11_fault_18 fX11_33 (by assumption) (by assumption) ?_
    refine gV1 (pc := 21) (k' := 0) (n' := 0) dX11_fault_21 lkX11_291 ⟨by decide, by decide⟩ (Nat.le_of_ble_eq_true rfl) rfl rfl ⟨by decide, by decide⟩ x10k (c_X3_scan (n := ln) x10 x9 (by omega) (Or.inl (by omega)) hl hl6 ?_)
    intro i1 g1 g2 g3 g4
    dsimp only [gRt]
    have hrs : rsR (rScan (i (x + 187 + 1)) ln 0 rZ) (rfAll (i (x + 187 + 1)) ln S) := rs_all
    have hf1 : frC x i i1 := fun c hc => g1 c (by omega)
    have hR1 : rX i1 x ws hs S P n := hRX.hist hX2 (fun c c1 c2 => g1 c (by omega)) (hRX.1.kept x6 (fun c c1 c2 => g1 c (by omega)))
    refine G_aload_n (pc := 24) 0 dX11_fault_24 rfl ?_
    refine G_getR (pc := 25) dX11_fault_25 fX11_40 (by assumption) (by assumption) ?_
    refine G_getI (pc := 28) dX11_fault_28 fX11_295 (by assumption) ?_
    rw [g2]
    refine G_if_ne (pc := 31) (tgt := 37) dX11_fault_31 (by decide) (fun h31 => ?_) (fun h31 => ?_)
    · have hr1 : (rfAll (i (x + 187 + 1)) ln S).1 = false := Bool.eq_false_iff.mpr (fun z => h31 (hrs.1 z).1)
      obtain ⟨c1, c2, c3⟩ := hrs.2 hr1
      
      refine G_iload_n (pc := 37) 1 dX11_fault_37 rfl ?_
      refine G_if_ne (pc := 38) (tgt := 51) dX11_fault_38 (by decide) (fun h38 => ?_) (fun h38 => ?_)
      · refine G_aload_n (pc := 51) 0 dX11_fault_51 rfl ?_
        refine G_getR (pc := 52) dX11_fault_52 fX11_40 (by assumption) (by assumption) ?_
        refine G_getI (pc := 55) dX11_fault_55 fX11_295 (by assumption) ?_
        rw [g2]
        refine G_iret (pc := 58) dX11_fault_58 ⟨_, rfl, rfl⟩ ⟨by decide, by decide⟩ ?_
        rw [show aFault (i (x + 187 + 1)) ln S w = (rScan (i (x + 187 + 1)) ln 0 rZ).1 by unfold aFault; rw [if_pos hin, if_neg (fun z => Bool.noConfusion (hr1.symm.trans z)), if_neg h38, c1]] at hQ
        exact hQ i1 hf1 hR1
      · refine G_aload_n (pc := 41) 0 dX11_fault_41 rfl ?_
        refine G_getR (pc := 42) dX11_fault_42 fX11_40 (by assumption) (by assumption) ?_
        refine G_getI (pc := 45) dX11_fault_45 fX11_298 (by assumption) ?_
        rw [g3 h31]
        refine G_goto (pc := 48) (tgt := 58) dX11_fault_48 (by decide) ?_
        refine G_iret (pc := 58) dX11_fault_58 ⟨_, rfl, rfl⟩ ⟨by decide, by decide⟩ ?_
        rw [show aFault (i (x + 187 + 1)) ln S w = nI (rScan (i (x + 187 + 1)) ln 0 rZ).2.1 by unfold aFault; rw [if_pos hin, if_neg (fun z => Bool.noConfusion (hr1.symm.trans z)), if_pos h38, c2]] at hQ
        exact hQ i1 hf1 hR1
    · refine G_ldc (pc := 34) dX11_fault_34 kcX11_98 ?_
      refine G_iret (pc := 36) dX11_fault_36 ⟨_, rfl, rfl⟩ ⟨by decide, by decide⟩ ?_
      have hr1 : (rfAll (i (x + 187 + 1)) ln S).1 = true := by
        rcases Bool.eq_false_or_eq_true (rfAll (i (x + 187 + 1)) ln S).1 with z | z
        · exact z
        · exact absurd h31 (hrs.2 z).2.2
      obtain ⟨c1, c2, c3, c4⟩ := hrs.1 hr1
      rw [show aFault (i (x + 187 + 1)) ln S w = -1000004 by unfold aFault; rw [if_pos hin, if_pos hr1]] at hQ
      exact hQ i1 hf1 hR1
  · refine G_ldc (pc := 10) dX11_fault_10 kcX11_52 ?_
    refine G_iret (pc := 12) dX11_fault_12 ⟨_, rfl, rfl⟩ ⟨by decide, by decide⟩ ?_
    rw [show aFault (i (x + 187 + 1)) ln S w = -1000001 from if_neg (fun z => gB_eq.mp h7 (wi01.mpr z))] at hQ
    exact hQ i frC.rf hRX
set_option maxRecDepth 100000 in
set_option maxHeartbeats 4000000 in
theorem c_X11_read {Γ : gG} {T : gTy} {r : gR} {l : gLg} {i : gI} {Q : gQ} {x n : Nat} {ws : Nat → Nat} {hs : Nat → Nat → Nat} {S : Nat → Int32} {P : Nat → Nat → Int32} {ln : Nat} (hX : lyX T r x ws hs) (hA : gN Γ ≤ x) (hRX : rX i x ws hs S P n) (hS : vS S) (hl : i (x + 187) 1 = nI ln) (hl6 : ln ≤ 60) (hQ : ∀ l' i', frC x i i' → rX i' x ws hs (nxS S (aRead (i (x + 187 + 1)) ln S).2) (nxP n P S (aRead (i (x + 187 + 1)) ln S).2) (nxN n (aRead (i (x + 187 + 1)) ln S).2) → Q (some (.int (aRead (i (x + 187 + 1)) ln S).1)) T r l' i') : gC Γ MX11_read [.ref x] T r l i Q := by
  have hX2 := hX
  have hR := hRX.1
  obtain ⟨x0, x1, x2, x3, x4, x5, x6, x7, x8, x9, x10⟩ := hX
  obtain ⟨s0, s1, s2, s3, s4, s5, s6⟩ := id x6
  obtain ⟨t0, t1, t2, t3, t4, t5, t6⟩ := id s4
  obtain ⟨f1, f2, f3, f4⟩ := stF hR hS
  have hT := hS.1
  have hE := hS.2.1
  have hn6 := hT.1.1
  have hn3 := f1.2.1
  obtain ⟨w5, w1, wk⟩ := nW_of hS
  have x7k := x7.1
  have s5k := s5.1
  have x10k := x10.1
  refine gC_of rfl (Nat.le_of_ble_eq_true rfl) (L := [(0, .ref x)]) rfl ?_
  refine G_aload_n (pc := 0) 0 dX11_read_0 rfl ?_
  refine G_getR (pc := 1) dX11_read_1 fX11_40 (by assumption) (by assumption) ?_
  refine G_aload_n (pc := 4) 0 dX11_read_4 rfl ?_
  refine G_getR (pc := 5) dX11_read_5 fX11_33 (by assumption) (by assumption) ?_
  refine gV1 (pc := 8) (k' := 0) (n' := 0) dX11_read_8 lkX11_291 ⟨by decide, by decide⟩ (Nat.le_of_ble_eq_true rfl) rfl rfl ⟨by decide, by decide⟩ x10k (c_X3_scan (n := ln) x10 x9 (by omega) (Or.inl (by omega)) hl hl6 ?_)
  intro i1 g1 g2 g3 g4
  dsimp only [gRt]
  have hrs : rsR (rScan (i (x + 187 + 1)) ln 0 rZ) (rfAll (i (x + 187 + 1)) ln S) := rs_all
  have hf1 : frC x i i1 := fun c hc => g1 c (by omega)
  have hR1 : rX i1 x ws hs S P n := hRX.hist hX2 (fun c c1 c2 => g1 c (by omega)) (hRX.1.kept x6 (fun c c1 c2 => g1 c (by omega)))
  refine G_aload_n (pc := 11) 0 dX11_read_11 rfl ?_
  refine G_getR (pc := 12) dX11_read_12 fX11_40 (by assumption) (by assumption) ?_
  refine G_getI (pc := 15) dX11_read_15 fX11_295 (by assumption) ?_
  rw [g2]
  refine G_if_eq (pc := 18) (tgt := 24) dX11_read_18 (by decide) (fun h18 => ?_) (fun h18 => ?_)
  · have hr1 : (rfAll (i (x + 187 + 1)) ln S).1 = true := by
      rcases Bool.eq_false_or_eq_true (rfAll (i (x + 187 + 1)) ln S).1 with z | z
      · exact z
      · exact absurd h18 (hrs.2 z).2.2
    obtain ⟨c1, c2, c3, c4⟩ := hrs.1 hr1
    replace hQ := aDoneX hQ (show aRead (i (x + 187 + 1)) ln S = ((rfAll (i (x + 187 + 1)) ln S).2.2.2 0, some (rfAll (i (x + 187 + 1)) ln S).2.2.2) from if_pos hr1)
    refine G_aload_n (pc := 24) 0 dX11_read_24 rfl ?_
    refine G_getR (pc := 25) dX11_read_25 fX11_19 (by assumption) (by assumption) ?_
    refine G_aload_n (pc := 28) 0 dX11_read_28 rfl ?_
    refine G_getR (pc := 29) dX11_read_29 fX11_10 (by assumption) (by assumption) ?_
    refine gV1 (pc := 32) (k' := 0) (n' := 0) dX11_read_32 lkX11_66 ⟨by decide, by decide⟩ (Nat.le_of_ble_eq_true rfl) rfl rfl ⟨by decide, by decide⟩ x7k (c_keepX hX2 hA hR1 ?_)
    intro i2 k1 k2
    dsimp only [gRt]
    refine G_aload_n (pc := 35) 0 dX11_read_35 rfl ?_
    refine G_getR (pc := 36) dX11_read_36 fX11_10 (by assumption) (by assumption) ?_
    refine G_getR (pc := 39) dX11_read_39 fX11_70 (by assumption) (by assumption) ?_
    refine gV0 (pc := 42) (k' := 0) (n' := 0) dX11_read_42 lkX11_74 ⟨by decide, by decide⟩ (Nat.le_of_ble_eq_true rfl) rfl rfl ⟨by decide, by decide⟩ s5k (c_X10_clear s5.1 (by omega) ?_)
    dsimp only [gRt]
    refine G_aload_n (pc := 45) 0 dX11_read_45 rfl ?_
    refine G_getR (pc := 46) dX11_read_46 fX11_10 (by assumption) (by assumption) ?_
    refine G_getR (pc := 49) dX11_read_49 fX11_55 (by assumption) (by assumption) ?_
    refine G_aload_n (pc := 52) 0 dX11_read_52 rfl ?_
    refine G_getR (pc := 53) dX11_read_53 fX11_40 (by assumption) (by assumption) ?_
    refine G_getR (pc := 56) dX11_read_56 fX11_301 (by assumption) (show r (x + 189) 0 = some (x + 189 + 1) from x10.2.1) ?_
    obtain ⟨j1, j2, j3, j4⟩ := stF k2.1 hS
    have hk2 : ∀ c, x + 189 ≤ c → c < x + 189 + 5 → i2 c = i1 c := fun c d1 d2 => k1 c (by omega)
    have hrd : lyT T r (x + 189 + 1) := x10.2.2
    have y189 : r (x + 189) 0 = some (x + 189 + 1) := x10.2.1
    refine gV1 (pc := 59) (k' := 0) (n' := 0) dX11_read_59 lkX11_302 ⟨by decide, by decide⟩ (Nat.le_of_ble_eq_true rfl) rfl rfl ⟨by decide, by decide⟩ s4.1 (c_X7_copyFrom (n := (rScan (i (x + 187 + 1)) ln 0 rZ).2.2.1) s4 hrd (by omega) (Or.inl (by omega)) (by rw [up2_ne (by omega), hk2 _ (by omega) (by omega)]; exact g4.2.2.2.2.2.1) c4 ?_)
    intro i3 g
    dsimp only [gRt]
    refine G_aload_n (pc := 62) 0 dX11_read_62 rfl ?_
    refine G_getR (pc := 63) dX11_read_63 fX11_10 (by assumption) (by assumption) ?_
    refine G_getR (pc := 66) dX11_read_66 fX11_55 (by assumption) (by assumption) ?_
    refine G_getI (pc := 69) dX11_read_69 fX11_83 (by assumption) ?_
    rw [g.2.1, ← c3]
    refine G_iret (pc := 72) dX11_read_72 ⟨_, rfl, rfl⟩ ⟨by decide, by decide⟩ ?_
    have hf : ∀ c, (c < x + 1 + 1 ∨ x + 1 + 1 + 4 ≤ c) → c ≠ x + 1 + 5 → i3 c = i2 c := fun c d1 d2 => (g.1 c d1).trans (up2_ne d2)
    exact hQ l i3 (hf1.tr ((frC.of k1 (by omega) (by omega)).tr (fun c hc => hf c (by omega) (by omega)))) (k2.hist hX2 (fun c d1 d2 => hf c (by omega) (by omega)) (rdX_rp j3 g4 rfl c4 hk2 (by omega) g c2 c3 rfAll_4.1 rfAll_4.2))
  · have hr1 : (rfAll (i (x + 187 + 1)) ln S).1 = false := Bool.eq_false_iff.mpr (fun z => h18 (hrs.1 z).1)
    obtain ⟨c1, c2, c3⟩ := hrs.2 hr1
    replace hQ := aDoneX hQ (show aRead (i (x + 187 + 1)) ln S = (-1000002, none) from if_neg (fun z => Bool.noConfusion (hr1.symm.trans z)))
    refine G_ldc (pc := 21) dX11_read_21 kcX11_91 ?_
    refine G_iret (pc := 23) dX11_read_23 ⟨_, rfl, rfl⟩ ⟨by decide, by decide⟩ ?_
    exact hQ l i1 hf1 hR1
