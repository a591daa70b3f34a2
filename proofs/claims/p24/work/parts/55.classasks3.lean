/-! walkOf, count -/
theorem wi08 {x : Int32} : (¬ x.toInt64 < 0 ∧ ¬ 8 < x.toInt64) ↔ inI x 0 8 := wi (a := 0) (b := 8)
theorem cntK_c {f g : Nat → Int32} {v : Int32} : ∀ n, (∀ p, p < n → f p = g p) → cntK f v n = cntK g v n
  | 0, _ => rfl
  | n + 1, h => by rw [cntK, cntK, cntK_c n (fun p hp => h p (by omega)), h n (by omega)]
theorem famT_c {f g : Nat → Int32} {w : Nat} : ∀ m j, (∀ q, q < m → f q = g q) → famT f w m j = famT g w m j
  | 0, _, _ => rfl
  | m + 1, j, h => by
    rw [famT, famT, h m (by omega)]
    rw [famT_c m _ (fun q hq => h q (by omega)), famT_c m j (fun q hq => h q (by omega))]
theorem fam_c {f g : Nat → Int32} {w j : Nat} (h : ∀ q, q ≤ j → f q = g q) : fam f w j = fam g w j := famT_c (j + 1) j (fun q hq => h q (by omega))
theorem cFam_c {f g : Nat → Int32} {w : Nat} : ∀ n, (∀ q, q < n → f q = g q) → cFam f w n = cFam g w n
  | 0, _ => rfl
  | n + 1, h => by rw [cFam, cFam, cFam_c n (fun q hq => h q (by omega)), fam_c (fun q hq => h q (by omega))]
theorem kc_c {f g : Nat → Int32} {w : Nat} : ∀ n, (∀ q, q < n → f q = g q) → kc f w n = kc g w n
  | 0, _ => rfl
  | n + 1, h => by rw [kc, kc, kc_c n (fun q hq => h q (by omega)), fam_c (fun q hq => h q (by omega))]
theorem cFam_B {f : Nat → Int32} {w : Nat} : ∀ n, cFam f w n = cBg f w n + (if w < n then 1 else 0)
  | 0 => rfl
  | n + 1 => by
    rw [cFam, cBg, cFam_B n]
    by_cases h : n = w
    · subst h
      have a1 : (if fam f n n = true then 1 else 0 : Nat) = 1 := if_pos (fam_self _ _)
      have a2 : (if n ≠ n ∧ fam f n n = true then 1 else 0 : Nat) = 0 := if_neg (fun z => z.1 rfl)
      have a3 : (if n < n then 1 else 0 : Nat) = 0 := if_neg (by omega)
      have a4 : (if n < n + 1 then 1 else 0 : Nat) = 1 := if_pos (by omega)
      rw [a1, a2, a3, a4]
    · by_cases hf : fam f w n = true
      · have a1 : (if fam f w n = true then 1 else 0 : Nat) = 1 := if_pos hf
        have a2 : (if n ≠ w ∧ fam f w n = true then 1 else 0 : Nat) = 1 := if_pos ⟨h, hf⟩
        rw [a1, a2]
        split <;> split <;> omega
      · have a1 : (if fam f w n = true then 1 else 0 : Nat) = 0 := if_neg hf
        have a2 : (if n ≠ w ∧ fam f w n = true then 1 else 0 : Nat) = 0 := if_neg (fun z => hf z.2)
        rw [a1, a2]
        split <;> split <;> omega
theorem cond_eq {S : Nat → Int32} {w z : Nat} (hv : vW S w z) : gCond (S (w + 3)) (S w) = stS S w := by
  obtain ⟨v1, v2, _, _, v5, _⟩ := hv
  unfold gCond stS
  rcases v5 with e | e
  · have a1 : ¬ S (w + 3) = 1 := by rw [e]; decide
    rw [if_pos e, if_neg a1, v1]
    by_cases h : z + 1 = 40
    · rw [h]; rfl
    · have a2 : nI (z + 1) < 40 := nI_lt (b := 40) (by omega) (by decide)
      have a3 : ¬ nI (z + 1) = 40 := fun u => h ((nI_eq (b := 40) (by omega) (by decide)).mp u)
      rw [if_pos a2, if_neg a3]
  · have a1 : ¬ S (w + 3) = 0 := by rw [e]; decide
    rw [if_neg a1, if_pos e]
set_option maxRecDepth 100000 in
set_option maxHeartbeats 4000000 in
theorem c_X11_walkOf {Γ : gG} {T : gTy} {r : gR} {l : gLg} {i : gI} {Q : gQ} {x : Nat} {ws : Nat → Nat} {hs : Nat → Nat → Nat} {S : Nat → Int32} {w q : Int32} (hX : lyX T r x ws hs) (hA : gN Γ ≤ x) (hR : rpSt i (x + 1) ws S) (hS : vS S) (hQ : ∀ i', (∀ d, d ≠ x + 1 + 5 + 2 → i' d = i d) → Q (some (.int (aWalkOf S w q))) T r l i') : gC Γ MX11_walkOf [.ref x, .int w, .int q] T r l i Q := by
  obtain ⟨x0, x1, x2, x3, x4, x5, x6, x7, x8, x9, x10⟩ := hX
  obtain ⟨s0, s1, s2, s3, s4, s5, s6⟩ := id x6
  obtain ⟨t0, t1, t2, t3, t4, t5, t6⟩ := id s4
  obtain ⟨f1, f2, f3, f4⟩ := stF hR hS
  have hT := hS.1
  have hE := hS.2.1
  have hn6 := hT.1.1
  have hn3 := f1.2.1
  obtain ⟨w5, w1, wk⟩ := nW_of hS
  refine gC_of rfl (Nat.le_of_ble_eq_true rfl) (L := [(0, .ref x), (1, .int w), (2, .int q)]) rfl ?_
  refine G_aload_n (pc := 0) 0 dX11_walkOf_0 rfl ?_
  refine G_getR (pc := 1) dX11_walkOf_1 fX11_10 (by assumption) (by assumption) ?_
  refine G_getR (pc := 4) dX11_walkOf_4 fX11_70 (by assumption) (by assumption) ?_
  refine G_iload_n (pc := 7) 1 dX11_walkOf_7 rfl ?_
  refine gV1 (pc := 8) (k' := 0) (n' := 0) dX11_walkOf_8 lkX11_163 ⟨by decide, by decide⟩ (Nat.le_of_ble_eq_true rfl) rfl rfl ⟨by decide, by decide⟩ s5.1 (c_X10_at s5 f2.2.1 w5 ?_ ?_)
  · intro a ha haw
    subst haw
    obtain ⟨⟨z, hv⟩, hpar⟩ := wk a ha
    have hz40 := hv.2.1
    have hw := wsF f2 ha hv
    obtain ⟨wr, hW, wlo, whi⟩ := s5.2.2.2.2.2.2.2.1 a (by omega)
    have hW0 := hW.1
    have hw4 := hw.2.1
    obtain ⟨q0, q1, q2, q3, q4, q5, q6, q7, q8⟩ := id hW
    have rows := hw.2.2.2.1
    dsimp only [gRt]
    refine G_sn3 (pc := 11) (gSt_an dX11_walkOf_11 rfl (by decide)) rfl ?_
    refine G_aload_n (pc := 12) 3 dX11_walkOf_12 rfl ?_
    refine G_ifnull (pc := 13) dX11_walkOf_13 ?_
    refine G_iload_n (pc := 16) 2 dX11_walkOf_16 rfl ?_
    refine G_i2l (pc := 17) dX11_walkOf_17 ?_
    refine G_lconst (pc := 18) (v := 0) dX11_walkOf_18 rfl ?_
    refine G_ldc2 (pc := 19) dX11_walkOf_19 kcX11_225 ?_
    refine gS3 (pc := 22) (k' := 0) (n' := 0) dX11_walkOf_22 lkX11_48 ⟨by decide, by decide⟩ (Nat.le_of_ble_eq_true rfl) rfl rfl ⟨by decide, by decide⟩ (c_X11_isWithin ?_)
    dsimp only [gRt]
    refine G_if_ne (pc := 25) (tgt := 31) dX11_walkOf_25 (by decide) (fun h25 => ?_) (fun h25 => ?_)
    · refine G_iload_n (pc := 31) 2 dX11_walkOf_31 rfl ?_
      have gA : inI (nI a) 0 (S 1 - 1) := by rw [w1]; exact (isW (by omega)).mpr ⟨a, ha, rfl⟩
      obtain ⟨e, _, e8, rfl⟩ := inI_nat (a := 0) (b := 8) (by decide) (by decide) (wi08.mp (gB_ne.mp h25))
      have hin := wi08.mp (gB_ne.mp h25)
      rw [show aWalkOf S (nI a) (nI e) = aWalkN S a e by unfold aWalkOf; rw [if_pos ⟨gA, hin⟩, nI_clamp (by omega), nI_clamp (by omega)]] at hQ
      have g0 : i (ws a) 4 = S (23 + 166 * a) := hw.2.2.1 0 (by decide)
      have g1 : i (ws a) 5 = S (23 + 166 * a + 1) := hw.2.2.1 1 (by decide)
      have g2 : i (ws a) 6 = S (23 + 166 * a + 2) := hw.2.2.1 2 (by decide)
      have g3 : i (ws a) 7 = S (23 + 166 * a + 3) := hw.2.2.1 3 (by decide)
      have g4 : i (ws a) 8 = S (23 + 166 * a + 4) := hw.2.2.1 4 (by decide)
      have g5 : i (ws a) 9 = S (23 + 166 * a + 5) := hw.2.2.1 5 (by decide)
      have hneg : S (23 + 166 * a + 4) < 0 ↔ S (23 + 166 * a + 4) = -1 := by
        rcases hpar with u | ⟨q9, q8, u⟩
        · rw [u]; decide
        · rw [u]
          exact ⟨fun k9 => absurd k9 (nI_pos (by omega)), fun k9 => absurd (show nI q9 < 0 by rw [k9]; decide) (nI_pos (by omega))⟩
      have hkd : ∀ v, cntK (i (ws a + 4)) v (z + 1) = cntK (kdS S (23 + 166 * a)) v (S (23 + 166 * a)).toNatClampNeg := fun v => by
        rw [hv.1, nI_clamp (by omega)]
        exact cntK_c _ (fun p hp => rows p hp 3 (by decide))
      have hQ0 := hQ i (fun _ _ => rfl)
      rcases (show e = 0 ∨ e = 1 ∨ e = 2 ∨ e = 3 ∨ e = 4 ∨ e = 5 ∨ e = 6 ∨ e = 7 ∨ e = 8 by omega) with rfl | rfl | rfl | rfl | rfl | rfl | rfl | rfl | rfl
      · refine G_tableIn (pc := 32) (tgt := 80) dX11_walkOf_32 (by decide) (by decide) rfl (by decide) ?_
        refine G_aload_n (pc := 80) 3 dX11_walkOf_80 rfl ?_
        refine G_getI (pc := 81) dX11_walkOf_81 fX11_227 (by assumption) ?_
        rw [g0]
        refine G_iret (pc := 84) dX11_walkOf_84 ⟨_, rfl, rfl⟩ ⟨by decide, by decide⟩ ?_
        exact hQ0
      · refine G_tableIn (pc := 32) (tgt := 85) dX11_walkOf_32 (by decide) (by decide) rfl (by decide) ?_
        refine G_aload_n (pc := 85) 3 dX11_walkOf_85 rfl ?_
        refine G_getI (pc := 86) dX11_walkOf_86 fX11_228 (by assumption) ?_
        rw [g1]
        refine G_iret (pc := 89) dX11_walkOf_89 ⟨_, rfl, rfl⟩ ⟨by decide, by decide⟩ ?_
        exact hQ0
      · refine G_tableIn (pc := 32) (tgt := 90) dX11_walkOf_32 (by decide) (by decide) rfl (by decide) ?_
        refine G_aload_n (pc := 90) 3 dX11_walkOf_90 rfl ?_
        refine G_getI (pc := 91) dX11_walkOf_91 fX11_231 (by assumption) ?_
        rw [g2]
        refine G_iret (pc := 94) dX11_walkOf_94 ⟨_, rfl, rfl⟩ ⟨by decide, by decide⟩ ?_
        exact hQ0
      · refine G_tableIn (pc := 32) (tgt := 95) dX11_walkOf_32 (by decide) (by decide) rfl (by decide) ?_
        refine G_aload_n (pc := 95) 3 dX11_walkOf_95 rfl ?_
        refine gV0 (pc := 96) (k' := 0) (n' := 0) dX11_walkOf_96 lkX11_205 ⟨by decide, by decide⟩ (Nat.le_of_ble_eq_true rfl) rfl rfl ⟨by decide, by decide⟩ hW0 (c_X9_condition hW0 ?_)
        dsimp only [gRt]
        refine G_iret (pc := 99) dX11_walkOf_99 ⟨_, rfl, rfl⟩ ⟨by decide, by decide⟩ ?_
        rw [g3, g0, cond_eq hv]
        exact hQ0
      · refine G_tableIn (pc := 32) (tgt := 100) dX11_walkOf_32 (by decide) (by decide) rfl (by decide) ?_
        refine G_aload_n (pc := 100) 3 dX11_walkOf_100 rfl ?_
        refine G_iconst (pc := 101) (v := 1) dX11_walkOf_101 rfl ?_
        refine gV1 (pc := 102) (k' := 0) (n' := 0) dX11_walkOf_102 lkX11_234 ⟨by decide, by decide⟩ (Nat.le_of_ble_eq_true rfl) rfl rfl ⟨by decide, by decide⟩ hW0 (c_X9_placesOfKind hW hw4 hz40 ?_)
        dsimp only [gRt]
        refine G_iret (pc := 105) dX11_walkOf_105 ⟨_, rfl, rfl⟩ ⟨by decide, by decide⟩ ?_
        rw [hkd]
        exact hQ0
      · refine G_tableIn (pc := 32) (tgt := 106) dX11_walkOf_32 (by decide) (by decide) rfl (by decide) ?_
        refine G_aload_n (pc := 106) 3 dX11_walkOf_106 rfl ?_
        refine G_iconst (pc := 107) (v := 2) dX11_walkOf_107 rfl ?_
        refine gV1 (pc := 108) (k' := 0) (n' := 0) dX11_walkOf_108 lkX11_234 ⟨by decide, by decide⟩ (Nat.le_of_ble_eq_true rfl) rfl rfl ⟨by decide, by decide⟩ hW0 (c_X9_placesOfKind hW hw4 hz40 ?_)
        dsimp only [gRt]
        refine G_iret (pc := 111) dX11_walkOf_111 ⟨_, rfl, rfl⟩ ⟨by decide, by decide⟩ ?_
        rw [hkd]
        exact hQ0
      · refine G_tableIn (pc := 32) (tgt := 112) dX11_walkOf_32 (by decide) (by decide) rfl (by decide) ?_
        refine G_aload_n (pc := 112) 3 dX11_walkOf_112 rfl ?_
        refine G_getI (pc := 113) dX11_walkOf_113 fX11_237 (by assumption) ?_
        rw [g4]
        refine G_iconst (pc := 116) (v := (-1)) dX11_walkOf_116 rfl ?_
        refine G_icmp_ne (pc := 117) (tgt := 125) dX11_walkOf_117 (by decide) (fun h117 => ?_) (fun h117 => ?_)
        · refine G_aload_n (pc := 125) 3 dX11_walkOf_125 rfl ?_
          refine G_getI (pc := 126) dX11_walkOf_126 fX11_237 (by assumption) ?_
          rw [g4]
          refine G_iret (pc := 129) dX11_walkOf_129 ⟨_, rfl, rfl⟩ ⟨by decide, by decide⟩ ?_
          rw [show aWalkN S a 6 = S (23 + 166 * a + 4) from if_neg (fun u => h117 (hneg.mp u))] at hQ0
          exact hQ0
        · refine G_ldc (pc := 120) dX11_walkOf_120 kcX11_98 ?_
          refine G_goto (pc := 122) (tgt := 129) dX11_walkOf_122 (by decide) ?_
          refine G_iret (pc := 129) dX11_walkOf_129 ⟨_, rfl, rfl⟩ ⟨by decide, by decide⟩ ?_
          rw [show aWalkN S a 6 = -1000004 from if_pos (hneg.mpr h117)] at hQ0
          exact hQ0
      · refine G_tableIn (pc := 32) (tgt := 130) dX11_walkOf_32 (by decide) (by decide) rfl (by decide) ?_
        refine G_aload_n (pc := 130) 3 dX11_walkOf_130 rfl ?_
        refine G_getI (pc := 131) dX11_walkOf_131 fX11_237 (by assumption) ?_
        rw [g4]
        refine G_iconst (pc := 134) (v := (-1)) dX11_walkOf_134 rfl ?_
        refine G_icmp_ne (pc := 135) (tgt := 143) dX11_walkOf_135 (by decide) (fun h135 => ?_) (fun h135 => ?_)
        · refine G_aload_n (pc := 143) 3 dX11_walkOf_143 rfl ?_
          refine G_getI (pc := 144) dX11_walkOf_144 fX11_240 (by assumption) ?_
          rw [g5]
          refine G_iret (pc := 147) dX11_walkOf_147 ⟨_, rfl, rfl⟩ ⟨by decide, by decide⟩ ?_
          rw [show aWalkN S a 7 = S (23 + 166 * a + 5) from if_neg (fun u => h135 (hneg.mp u))] at hQ0
          exact hQ0
        · refine G_ldc (pc := 138) dX11_walkOf_138 kcX11_98 ?_
          refine G_goto (pc := 140) (tgt := 147) dX11_walkOf_140 (by decide) ?_
          refine G_iret (pc := 147) dX11_walkOf_147 ⟨_, rfl, rfl⟩ ⟨by decide, by decide⟩ ?_
          rw [show aWalkN S a 7 = -1000004 from if_pos (hneg.mpr h135)] at hQ0
          exact hQ0
      · have hcb : cBg (fun q => i (ws q) 8) a (nW S) = cBg (gPr4 S) a (nW S) := by
          have e1 := cFam_B (f := fun q => i (ws q) 8) (w := a) (nW S)
          have e2 := cFam_B (f := gPr4 S) (w := a) (nW S)
          have e3 := cFam_c (f := fun q => i (ws q) 8) (g := gPr4 S) (w := a) (nW S) (fun q hq => by
            obtain ⟨n9, g⟩ := f2.2.2.2 q hq
            exact g.2.2.1 4 (by decide))
          omega
        refine G_tableOut (pc := 32) (tgt := 148) dX11_walkOf_32 (by decide) (by decide) ?_
        refine G_aload_n (pc := 148) 0 dX11_walkOf_148 rfl ?_
        refine G_getR (pc := 149) dX11_walkOf_149 fX11_10 (by assumption) (by assumption) ?_
        refine G_getR (pc := 152) dX11_walkOf_152 fX11_70 (by assumption) (by assumption) ?_
        refine G_iload_n (pc := 155) 1 dX11_walkOf_155 rfl ?_
        refine gV1 (pc := 156) (k' := 0) (n' := 0) dX11_walkOf_156 lkX11_243 ⟨by decide, by decide⟩ (Nat.le_of_ble_eq_true rfl) rfl rfl ⟨by decide, by decide⟩ s5.1 (c_X10_markFamily s5 (by omega) f2.2.1 w5 ha ?_)
        intro i' hi'
        dsimp only [gRt]
        refine G_iconst (pc := 159) (v := 1) dX11_walkOf_159 rfl ?_
        refine G_isub (pc := 160) dX11_walkOf_160 ?_
        rw [cFam_B, if_pos ha, nI_pred]
        refine G_iret (pc := 161) dX11_walkOf_161 ⟨_, rfl, rfl⟩ ⟨by decide, by decide⟩ ?_
        replace hQ := hQ i' (fun d hd => hi'.1 d hd)
        rw [show aWalkN S a 8 = nI (cBg (gPr4 S) a (nW S)) from rfl] at hQ
        rw [hcb]
        exact hQ
    · refine G_ldc (pc := 28) dX11_walkOf_28 kcX11_52 ?_
      refine G_iret (pc := 30) dX11_walkOf_30 ⟨_, rfl, rfl⟩ ⟨by decide, by decide⟩ ?_
      replace hQ := hQ i (fun _ _ => rfl)
      rw [show aWalkOf S (nI a) q = -1000001 from if_neg (fun z => gB_eq.mp h25 (wi08.mpr z.2))] at hQ
      exact hQ
  · intro hno
    have hnw : ¬ inI w 0 (S 1 - 1) := fun u => by
      obtain ⟨k9, k1, k2⟩ := (isW (m := nW S) (by omega)).mp (w1 ▸ u)
      exact hno k9 k1 k2
    dsimp only [gRt]
    refine G_sn3 (pc := 11) (gSt_anN dX11_walkOf_11 rfl (by decide)) rfl ?_
    refine G_aload_nN (pc := 12) 3 dX11_walkOf_12 rfl ?_
    refine G_ifnullN (pc := 13) (tgt := 28) dX11_walkOf_13 (by decide) ?_
    refine G_ldc (pc := 28) dX11_walkOf_28 kcX11_52 ?_
    refine G_iret (pc := 30) dX11_walkOf_30 ⟨_, rfl, rfl⟩ ⟨by decide, by decide⟩ ?_
    replace hQ := hQ i (fun _ _ => rfl)
    rw [show aWalkOf S w q = -1000001 from if_neg (fun z => hnw z.1)] at hQ
    exact hQ
set_option maxRecDepth 100000 in
set_option maxHeartbeats 4000000 in
theorem c_X11_count {Γ : gG} {T : gTy} {r : gR} {l : gLg} {i : gI} {Q : gQ} {x : Nat} {ws : Nat → Nat} {hs : Nat → Nat → Nat} {S : Nat → Int32} {n ln : Nat} {q : Int32} (hX : lyX T r x ws hs) (hA : gN Γ ≤ x) (hR : rpSt i (x + 1) ws S) (hS : vS S) (hh : i (x + 37) 2 = nI n) (hl : i (x + 187) 1 = nI ln) (hQ : Q (some (.int (aCount S n ln q))) T r l i) : gC Γ MX11_count [.ref x, .int q] T r l i Q := by
  obtain ⟨x0, x1, x2, x3, x4, x5, x6, x7, x8, x9, x10⟩ := hX
  obtain ⟨s0, s1, s2, s3, s4, s5, s6⟩ := id x6
  obtain ⟨t0, t1, t2, t3, t4, t5, t6⟩ := id s4
  obtain ⟨f1, f2, f3, f4⟩ := stF hR hS
  have hT := hS.1
  have hE := hS.2.1
  have hn6 := hT.1.1
  have hn3 := f1.2.1
  obtain ⟨w5, w1, wk⟩ := nW_of hS
  have x7k := x7.1
  have x9k := x9.1
  have s5k := s5.1
  refine gC_of rfl (Nat.le_of_ble_eq_true rfl) (L := [(0, .ref x), (1, .int q)]) rfl ?_
  refine G_iload_n (pc := 0) 1 dX11_count_0 rfl ?_
  have hzz : ∀ k, k < nW S → i (ws k) 4 = nI ((fun k => (S (23 + 166 * k)).toNatClampNeg) k) ∧ (fun k => (S (23 + 166 * k)).toNatClampNeg) k ≤ 40 := fun k hk => by
    obtain ⟨⟨z, hv⟩, _⟩ := wk k hk
    have hw := wsF f2 hk hv
    have e : (S (23 + 166 * k)).toNatClampNeg = z + 1 := by rw [hv.1, nI_clamp (by have := hv.2.1; omega)]
    dsimp only
    rw [e]
    exact ⟨hw.2.1, hv.2.1⟩
  by_cases hx : ∃ e, e < 13 ∧ q = nI e
  · obtain ⟨e, he, rfl⟩ := hx
    rcases (show e = 0 ∨ e = 1 ∨ e = 2 ∨ e = 3 ∨ e = 4 ∨ e = 5 ∨ e = 6 ∨ e = 7 ∨ e = 8 ∨ e = 9 ∨ e = 10 ∨ e = 11 ∨ e = 12 by omega) with rfl | rfl | rfl | rfl | rfl | rfl | rfl | rfl | rfl | rfl | rfl | rfl | rfl
    · rw [show aCount S n ln (nI 0) = aCountN S n ln 0 from rfl] at hQ
      refine G_tableIn (pc := 1) (tgt := 68) dX11_count_1 (by decide) (by decide) rfl (by decide) ?_
      refine G_aload_n (pc := 68) 0 dX11_count_68 rfl ?_
      refine G_getR (pc := 69) dX11_count_69 fX11_10 (by assumption) (by assumption) ?_
      refine G_getR (pc := 72) dX11_count_72 fX11_55 (by assumption) (by assumption) ?_
      refine G_getI (pc := 75) dX11_count_75 fX11_83 (by assumption) ?_
      rw [hn3, ← hT.1.2.1]
      refine G_iret (pc := 78) dX11_count_78 ⟨_, rfl, rfl⟩ ⟨by decide, by decide⟩ ?_
      exact hQ
    · rw [show aCount S n ln (nI 1) = aCountN S n ln 1 from rfl] at hQ
      refine G_tableIn (pc := 1) (tgt := 79) dX11_count_1 (by decide) (by decide) rfl (by decide) ?_
      refine G_aload_n (pc := 79) 0 dX11_count_79 rfl ?_
      refine G_getR (pc := 80) dX11_count_80 fX11_10 (by assumption) (by assumption) ?_
      refine G_getR (pc := 83) dX11_count_83 fX11_70 (by assumption) (by assumption) ?_
      refine G_getI (pc := 86) dX11_count_86 fX11_182 (by assumption) ?_
      rw [f2.2.1, ← w1]
      refine G_iret (pc := 89) dX11_count_89 ⟨_, rfl, rfl⟩ ⟨by decide, by decide⟩ ?_
      exact hQ
    · rw [show aCount S n ln (nI 2) = aCountN S n ln 2 from rfl] at hQ
      refine G_tableIn (pc := 1) (tgt := 90) dX11_count_1 (by decide) (by decide) rfl (by decide) ?_
      refine G_aload_n (pc := 90) 0 dX11_count_90 rfl ?_
      refine G_getR (pc := 91) dX11_count_91 fX11_10 (by assumption) (by assumption) ?_
      refine G_getR (pc := 94) dX11_count_94 fX11_70 (by assumption) (by assumption) ?_
      refine gV0 (pc := 97) (k' := 0) (n' := 0) dX11_count_97 lkX11_254 ⟨by decide, by decide⟩ (Nat.le_of_ble_eq_true rfl) rfl rfl ⟨by decide, by decide⟩ s5.1 (c_X10_places s5 f2.2.1 w5 ?_)
      dsimp only [gRt]
      refine G_iret (pc := 100) dX11_count_100 ⟨_, rfl, rfl⟩ ⟨by decide, by decide⟩ ?_
      rw [gSumI_c (g := fun k => if (0 : Int32) = 0 then S (23 + 166 * k) else nI (cntK (kdS S (23 + 166 * k)) 0 (S (23 + 166 * k)).toNatClampNeg)) _ (fun k hk => by
        obtain ⟨n9, g⟩ := f2.2.2.2 k hk
        rw [if_pos rfl]; exact g.2.2.1 0 (by decide))]
      exact hQ
    · rw [show aCount S n ln (nI 3) = aCountN S n ln 3 from rfl] at hQ
      refine G_tableIn (pc := 1) (tgt := 101) dX11_count_1 (by decide) (by decide) rfl (by decide) ?_
      refine G_aload_n (pc := 101) 0 dX11_count_101 rfl ?_
      refine G_getR (pc := 102) dX11_count_102 fX11_10 (by assumption) (by assumption) ?_
      refine G_getR (pc := 105) dX11_count_105 fX11_70 (by assumption) (by assumption) ?_
      refine G_iconst (pc := 108) (v := 1) dX11_count_108 rfl ?_
      refine gV1 (pc := 109) (k' := 0) (n' := 0) dX11_count_109 lkX11_257 ⟨by decide, by decide⟩ (Nat.le_of_ble_eq_true rfl) rfl rfl ⟨by decide, by decide⟩ s5.1 (c_X10_placesOfKind (z := fun k => (S (23 + 166 * k)).toNatClampNeg) s5 f2.2.1 w5 hzz ?_)
      dsimp only [gRt]
      refine G_iret (pc := 112) dX11_count_112 ⟨_, rfl, rfl⟩ ⟨by decide, by decide⟩ ?_
      rw [gSumI_c (g := fun k => if (1 : Int32) = 0 then S (23 + 166 * k) else nI (cntK (kdS S (23 + 166 * k)) 1 (S (23 + 166 * k)).toNatClampNeg)) _ (fun k hk => by
        rw [if_neg (by decide)]
        obtain ⟨⟨z, hv⟩, _⟩ := wk k hk
        have hw := wsF f2 hk hv
        have e : (S (23 + 166 * k)).toNatClampNeg = z + 1 := by rw [hv.1, nI_clamp (by have := hv.2.1; omega)]
        rw [e]
        exact congrArg nI (cntK_c _ (fun p hp => hw.2.2.2.1 p hp 3 (by decide))))]
      exact hQ
    · rw [show aCount S n ln (nI 4) = aCountN S n ln 4 from rfl] at hQ
      refine G_tableIn (pc := 1) (tgt := 113) dX11_count_1 (by decide) (by decide) rfl (by decide) ?_
      refine G_aload_n (pc := 113) 0 dX11_count_113 rfl ?_
      refine G_getR (pc := 114) dX11_count_114 fX11_10 (by assumption) (by assumption) ?_
      refine G_getR (pc := 117) dX11_count_117 fX11_70 (by assumption) (by assumption) ?_
      refine G_iconst (pc := 120) (v := 2) dX11_count_120 rfl ?_
      refine gV1 (pc := 121) (k' := 0) (n' := 0) dX11_count_121 lkX11_257 ⟨by decide, by decide⟩ (Nat.le_of_ble_eq_true rfl) rfl rfl ⟨by decide, by decide⟩ s5.1 (c_X10_placesOfKind (z := fun k => (S (23 + 166 * k)).toNatClampNeg) s5 f2.2.1 w5 hzz ?_)
      dsimp only [gRt]
      refine G_iret (pc := 124) dX11_count_124 ⟨_, rfl, rfl⟩ ⟨by decide, by decide⟩ ?_
      rw [gSumI_c (g := fun k => if (2 : Int32) = 0 then S (23 + 166 * k) else nI (cntK (kdS S (23 + 166 * k)) 2 (S (23 + 166 * k)).toNatClampNeg)) _ (fun k hk => by
        rw [if_neg (by decide)]
        obtain ⟨⟨z, hv⟩, _⟩ := wk k hk
        have hw := wsF f2 hk hv
        have e : (S (23 + 166 * k)).toNatClampNeg = z + 1 := by rw [hv.1, nI_clamp (by have := hv.2.1; omega)]
        rw [e]
        exact congrArg nI (cntK_c _ (fun p hp => hw.2.2.2.1 p hp 3 (by decide))))]
      exact hQ
    · rw [show aCount S n ln (nI 5) = aCountN S n ln 5 from rfl] at hQ
      refine G_tableIn (pc := 1) (tgt := 125) dX11_count_1 (by decide) (by decide) rfl (by decide) ?_
      refine G_aload_n (pc := 125) 0 dX11_count_125 rfl ?_
      refine G_getR (pc := 126) dX11_count_126 fX11_19 (by assumption) (by assumption) ?_
      refine G_getI (pc := 129) dX11_count_129 fX11_258 (by assumption) ?_
      rw [hh]
      refine G_iret (pc := 132) dX11_count_132 ⟨_, rfl, rfl⟩ ⟨by decide, by decide⟩ ?_
      exact hQ
    · rw [show aCount S n ln (nI 6) = aCountN S n ln 6 from rfl] at hQ
      refine G_tableIn (pc := 1) (tgt := 133) dX11_count_1 (by decide) (by decide) rfl (by decide) ?_
      refine G_aload_n (pc := 133) 0 dX11_count_133 rfl ?_
      refine G_getR (pc := 134) dX11_count_134 fX11_33 (by assumption) (by assumption) ?_
      refine G_getI (pc := 137) dX11_count_137 fX11_259 (by assumption) ?_
      rw [hl]
      refine G_iret (pc := 140) dX11_count_140 ⟨_, rfl, rfl⟩ ⟨by decide, by decide⟩ ?_
      exact hQ
    · rw [show aCount S n ln (nI 7) = aCountN S n ln 7 from rfl] at hQ
      refine G_tableIn (pc := 1) (tgt := 156) dX11_count_1 (by decide) (by decide) rfl (by decide) ?_
      refine G_ldc (pc := 156) dX11_count_156 kcX11_52 ?_
      refine G_iret (pc := 158) dX11_count_158 ⟨_, rfl, rfl⟩ ⟨by decide, by decide⟩ ?_
      exact hQ
    · rw [show aCount S n ln (nI 8) = aCountN S n ln 8 from rfl] at hQ
      refine G_tableIn (pc := 1) (tgt := 156) dX11_count_1 (by decide) (by decide) rfl (by decide) ?_
      refine G_ldc (pc := 156) dX11_count_156 kcX11_52 ?_
      refine G_iret (pc := 158) dX11_count_158 ⟨_, rfl, rfl⟩ ⟨by decide, by decide⟩ ?_
      exact hQ
    · rw [show aCount S n ln (nI 9) = aCountN S n ln 9 from rfl] at hQ
      refine G_tableIn (pc := 1) (tgt := 156) dX11_count_1 (by decide) (by decide) rfl (by decide) ?_
      refine G_ldc (pc := 156) dX11_count_156 kcX11_52 ?_
      refine G_iret (pc := 158) dX11_count_158 ⟨_, rfl, rfl⟩ ⟨by decide, by decide⟩ ?_
      exact hQ
    · rw [show aCount S n ln (nI 10) = aCountN S n ln 10 from rfl] at hQ
      refine G_tableIn (pc := 1) (tgt := 141) dX11_count_1 (by decide) (by decide) rfl (by decide) ?_
      refine G_aload_n (pc := 141) 0 dX11_count_141 rfl ?_
      refine G_getR (pc := 142) dX11_count_142 fX11_10 (by assumption) (by assumption) ?_
      refine G_getR (pc := 145) dX11_count_145 fX11_187 (by assumption) (by assumption) ?_
      refine G_iload_n (pc := 148) 1 dX11_count_148 rfl ?_
      refine G_bipush (pc := 149) (v := 10) dX11_count_149 rfl ?_
      refine G_isub (pc := 151) dX11_count_151 ?_
      rw [show (nI 10 : Int32) - 10 = nI 0 from by decide]
      refine gV1 (pc := 152) (k' := 0) (n' := 0) dX11_count_152 lkX11_193 ⟨by decide, by decide⟩ (Nat.le_of_ble_eq_true rfl) rfl rfl ⟨by decide, by decide⟩ s6.1 (c_X4_at (j := 0) s6 (by decide) ?_)
      dsimp only [gRt]
      refine G_iret (pc := 155) dX11_count_155 ⟨_, rfl, rfl⟩ ⟨by decide, by decide⟩ ?_
      rw [show i (x + 1 + 34 + 1) 0 = S 2 from f3 0 (by decide)]
      exact hQ
    · rw [show aCount S n ln (nI 11) = aCountN S n ln 11 from rfl] at hQ
      refine G_tableIn (pc := 1) (tgt := 141) dX11_count_1 (by decide) (by decide) rfl (by decide) ?_
      refine G_aload_n (pc := 141) 0 dX11_count_141 rfl ?_
      refine G_getR (pc := 142) dX11_count_142 fX11_10 (by assumption) (by assumption) ?_
      refine G_getR (pc := 145) dX11_count_145 fX11_187 (by assumption) (by assumption) ?_
      refine G_iload_n (pc := 148) 1 dX11_count_148 rfl ?_
      refine G_bipush (pc := 149) (v := 10) dX11_count_149 rfl ?_
      refine G_isub (pc := 151) dX11_count_151 ?_
      rw [show (nI 11 : Int32) - 10 = nI 1 from by decide]
      refine gV1 (pc := 152) (k' := 0) (n' := 0) dX11_count_152 lkX11_193 ⟨by decide, by decide⟩ (Nat.le_of_ble_eq_true rfl) rfl rfl ⟨by decide, by decide⟩ s6.1 (c_X4_at (j := 1) s6 (by decide) ?_)
      dsimp only [gRt]
      refine G_iret (pc := 155) dX11_count_155 ⟨_, rfl, rfl⟩ ⟨by decide, by decide⟩ ?_
      rw [show i (x + 1 + 34 + 1) 1 = S 3 from f3 1 (by decide)]
      exact hQ
    · rw [show aCount S n ln (nI 12) = aCountN S n ln 12 from rfl] at hQ
      refine G_tableIn (pc := 1) (tgt := 141) dX11_count_1 (by decide) (by decide) rfl (by decide) ?_
      refine G_aload_n (pc := 141) 0 dX11_count_141 rfl ?_
      refine G_getR (pc := 142) dX11_count_142 fX11_10 (by assumption) (by assumption) ?_
      refine G_getR (pc := 145) dX11_count_145 fX11_187 (by assumption) (by assumption) ?_
      refine G_iload_n (pc := 148) 1 dX11_count_148 rfl ?_
      refine G_bipush (pc := 149) (v := 10) dX11_count_149 rfl ?_
      refine G_isub (pc := 151) dX11_count_151 ?_
      rw [show (nI 12 : Int32) - 10 = nI 2 from by decide]
      refine gV1 (pc := 152) (k' := 0) (n' := 0) dX11_count_152 lkX11_193 ⟨by decide, by decide⟩ (Nat.le_of_ble_eq_true rfl) rfl rfl ⟨by decide, by decide⟩ s6.1 (c_X4_at (j := 2) s6 (by decide) ?_)
      dsimp only [gRt]
      refine G_iret (pc := 155) dX11_count_155 ⟨_, rfl, rfl⟩ ⟨by decide, by decide⟩ ?_
      rw [show i (x + 1 + 34 + 1) 2 = S 4 from f3 2 (by decide)]
      exact hQ
  · have hout : q.toInt < 0 ∨ 12 < q.toInt := by
      rcases pk_ix q (n := 13) (by omega) with z | z | z
      · exact Or.inl (Int32.lt_iff_toInt_lt.mp z)
      · have := Int32.le_iff_toInt_le.mp z
        rw [nI_toInt (by decide)] at this
        exact Or.inr (by omega)
      · exact absurd z hx
    have hno : aCount S n ln q = -1000001 := by
      unfold aCount
      by_cases h0 : q < 0
      · rw [if_pos h0]
      · rw [if_neg h0]
        obtain ⟨j, hj, rfl⟩ := nI_of h0
        rw [nI_clamp hj]
        have a1 : ¬ j < 13 := fun z => hx ⟨j, z, rfl⟩
        exact aCountN_o (by omega) (by omega)
    refine G_tableOut (pc := 1) (tgt := 156) dX11_count_1 hout (by decide) ?_
    refine G_ldc (pc := 156) dX11_count_156 kcX11_52 ?_
    refine G_iret (pc := 158) dX11_count_158 ⟨_, rfl, rfl⟩ ⟨by decide, by decide⟩ ?_
    rw [hno] at hQ
    exact hQ
