/-! the corrector, and the reference's own correction -/
theorem gl0 : (0 : Int32) = nI 0 := rfl
theorem gl1 : (1 : Int32) = nI 1 := rfl
theorem gl2 : (2 : Int32) = nI 2 := rfl
theorem gl3 : (3 : Int32) = nI 3 := rfl
theorem gl4 : (4 : Int32) = nI 4 := rfl
theorem gl5 : (5 : Int32) = nI 5 := rfl
theorem gl6 : (6 : Int32) = nI 6 := rfl
theorem gl7 : (7 : Int32) = nI 7 := rfl
theorem gl8 : (8 : Int32) = nI 8 := rfl
theorem gl9 : (9 : Int32) = nI 9 := rfl
theorem gl10 : (10 : Int32) = nI 10 := rfl
theorem gl12 : (12 : Int32) = nI 12 := rfl
theorem gl23 : (23 : Int32) = nI 23 := rfl
theorem gl40 : (40 : Int32) = nI 40 := rfl
theorem gl60 : (60 : Int32) = nI 60 := rfl
theorem gl166 : (166 : Int32) = nI 166 := rfl
theorem gl853 : (853 : Int32) = nI 853 := rfl
theorem gl3412 : (3412 : Int32) = nI 3412 := rfl
theorem gl2559 : (2559 : Int32) = nI 2559 := rfl
theorem inB_tt {x : Int64} (h : inB x) : x.toInt32.toInt64 = x := by
  obtain ⟨h1, h2⟩ := h
  have g1 : -1024 ≤ x.toInt := by
    have := Int64.le_iff_toInt_le.mp (Int64.not_lt.mp h1)
    exact this
  have g2 : x.toInt ≤ 1024 := by
    have := Int64.le_iff_toInt_le.mp (Int64.not_lt.mp h2)
    exact this
  apply Int64.toInt_inj.mp
  rw [Int32.toInt_toInt64, Int64.toInt_toInt32]
  apply Int.bmod_eq_of_le <;> omega
def cr3 (i : gI) (c : Nat) (x y z : Int32) : gI := up2 (up2 (up2 i c 1 x) c 2 y) c 3 z
theorem nI_pr0 {k : Nat} (hk : k < 2 ^ 31) (h : ¬ nI k = 0) : nI k - 1 = nI (k - 1) := nI_pr (fun z => h (by rw [(nI_lt1 hk).mp z]; rfl))
/-- what a corrector needs of a state at b -/
def lyC (T : gTy) (r : gR) (b : Nat) : Prop := (T.2 b).1 = 6 ∧ r b 0 = some (b + 1) ∧ r b 2 = some (b + 34) ∧ lyT T r (b + 1) ∧ lySe T r (b + 34)
def lyCo (T : gTy) (r : gR) (c : Nat) : Prop := (T.2 c).1 = 0 ∧ r c 0 = some (c + 1) ∧ (T.2 (c + 1)).1 = 5

set_option maxRecDepth 100000 in
set_option maxHeartbeats 4000000 in
theorem lp_X0_correct {Γ : gG} {T : gTy} {r : gR} {l : gLg} {i : gI} {Q : gQ} {b c n m : Nat} {x0 y0 : Int64} {f : Nat → Int32} {p q : Nat → Nat} (hB : lyC T r b) (hC : lyCo T r c) (hA : gN Γ ≤ c) (hV : tv i (b + 1) n f p q) (hm : i (b + 35) 2 = nI m) (hm2 : m < 2 ^ 30)
  (h0 : gCor f p q n m 0 x0 y0 = none → ∀ l', (∀ d, d ≠ c + 1 → l' d = l d) → Q (some (.int 0)) T r l' i)
  (h1 : ∀ x y rd, gCor f p q n m 0 x0 y0 = some (x, y, rd) → ∀ l', (∀ d, d ≠ c + 1 → l' d = l d) → l' (c + 1) 1 = gSum f p q x y 1 n → l' (c + 1) 2 = gSum f p q x y 2 n → Q (some (.int 1)) T r l' (cr3 i c x.toInt32 y.toInt32 (nI rd))) : ∀ d rd x y l1, rd + d = m → (∀ e, e ≠ c + 1 → l1 e = l e) → gCor f p q n d rd x y = gCor f p q n m 0 x0 y0 → G Γ MX0_correct 0 0 20 [(0, .ref c), (1, .ref b), (2, .long x0), (4, .long y0), (6, .long x), (8, .long y), (10, .int (nI m)), (11, .int (nI (rd + 1)))] [] T r l1 i Q := by
  obtain ⟨b0, b1, b2, b4, b5⟩ := hB
  obtain ⟨c0, c1, b3⟩ := hC
  intro d
  induction d with
  | zero =>
    intro rd x y l1 hk hl1 hg
    refine G_iload (pc := 20) 7 dX0_correct_20 rfl ?_
    refine G_iload (pc := 22) 6 dX0_correct_22 rfl ?_
    refine G_icmp_gt (pc := 24) (tgt := 168) dX0_correct_24 (by decide) (fun h24 => ?_) (fun h24 => ?_)
    · refine G_iconst (pc := 168) (v := 0) dX0_correct_168 rfl ?_
      refine G_iret (pc := 169) dX0_correct_169 ⟨_, rfl, rfl⟩ ⟨by decide, by decide⟩ ?_
      exact h0 (by rw [← hg]; rfl) l1 hl1
    · exact absurd (nI_lt (by omega) (by omega)) h24
  | succ d ih =>
    intro rd x y l1 hk hl1 hg
    have hcor : gCor f p q n m 0 x0 y0 = (if inB x ∧ inB y then (if gGG f p q n x y = 0 then none else if gSum f p q x y 0 n * gSum f p q x y 1 n / gGG f p q n x y = 0 ∧ gSum f p q x y 0 n * gSum f p q x y 2 n / gGG f p q n x y = 0 then some (x, y, rd + 1) else gCor f p q n d (rd + 1) (x - gSum f p q x y 0 n * gSum f p q x y 1 n / gGG f p q n x y) (y - gSum f p q x y 0 n * gSum f p q x y 2 n / gGG f p q n x y)) else none) := by rw [← hg, gCor]
    refine G_iload (pc := 20) 7 dX0_correct_20 rfl ?_
    refine G_iload (pc := 22) 6 dX0_correct_22 rfl ?_
    refine G_icmp_gt (pc := 24) (tgt := 168) dX0_correct_24 (by decide) (fun h24 => ?_) (fun h24 => ?_)
    · exact absurd h24 (nI_nlt (by omega) (by omega))
    · refine G_lload (pc := 27) 4 dX0_correct_27 rfl ?_
      refine G_lload (pc := 29) 5 dX0_correct_29 rfl ?_
      refine gS2 (pc := 31) (k' := 0) (n' := 0) dX0_correct_31 lkX0_28 ⟨by decide, by decide⟩ (Nat.le_of_ble_eq_true rfl) rfl rfl ⟨by decide, by decide⟩ (c_X11_isPlace ?_)
      dsimp only [gRt]
      refine G_if_ne (pc := 34) (tgt := 39) dX0_correct_34 (by decide) (fun h34 => ?_) (fun h34 => ?_)
      · refine G_aload_n (pc := 39) 0 dX0_correct_39 rfl ?_
        refine G_getR (pc := 40) dX0_correct_40 fX0_10 (by assumption) (by assumption) ?_
        refine G_aload_n (pc := 43) 1 dX0_correct_43 rfl ?_
        refine G_getR (pc := 44) dX0_correct_44 fX0_34 (by assumption) (by assumption) ?_
        refine G_lload (pc := 47) 4 dX0_correct_47 rfl ?_
        refine G_lload (pc := 49) 5 dX0_correct_49 rfl ?_
        refine gV3 (pc := 51) (k' := 0) (n' := 0) dX0_correct_51 lkX0_38 ⟨by decide, by decide⟩ (Nat.le_of_ble_eq_true rfl) rfl rfl ⟨by decide, by decide⟩ (by assumption) (c_X5_look b3 (by omega) b4 hV ?_)
        dsimp only [gRt]
        refine G_aload_n (pc := 54) 0 dX0_correct_54 rfl ?_
        refine G_getR (pc := 55) dX0_correct_55 fX0_10 (by assumption) (by assumption) ?_
        refine gV0 (pc := 58) (k' := 0) (n' := 0) dX0_correct_58 lkX0_42 ⟨by decide, by decide⟩ (Nat.le_of_ble_eq_true rfl) rfl rfl ⟨by decide, by decide⟩ (by assumption) (c_X5_steepness b3 ?_)
        dsimp only [gRt]
        simp only [sp3_0, sp3_1, sp3_2]
        refine G_sn8 (pc := 61) (gSt_l dX0_correct_61 (by decide)) rfl ?_
        refine G_lload (pc := 63) 8 dX0_correct_63 rfl ?_
        refine G_lconst (pc := 65) (v := 0) dX0_correct_65 rfl ?_
        refine G_lif_ne (pc := 66) (tgt := 72) dX0_correct_66 dX0_correct_67 (by decide) (fun h66 => ?_) (fun h66 => ?_)
        · refine G_aload_n (pc := 72) 0 dX0_correct_72 rfl ?_
          refine G_getR (pc := 73) dX0_correct_73 fX0_10 (by assumption) (by assumption) ?_
          refine G_getL (pc := 76) dX0_correct_76 fX0_46 (by assumption) ?_
          rw [sp3_0]
          refine G_aload_n (pc := 79) 0 dX0_correct_79 rfl ?_
          refine G_getR (pc := 80) dX0_correct_80 fX0_10 (by assumption) (by assumption) ?_
          refine G_getL (pc := 83) dX0_correct_83 fX0_50 (by assumption) ?_
          rw [sp3_1]
          refine G_lmul (pc := 86) dX0_correct_86 ?_
          refine G_lload (pc := 87) 8 dX0_correct_87 rfl ?_
          refine G_ldiv (pc := 89) dX0_correct_89 h66 ?_
          refine G_sn9 (pc := 90) (gSt_l dX0_correct_90 (by decide)) rfl ?_
          refine G_aload_n (pc := 92) 0 dX0_correct_92 rfl ?_
          refine G_getR (pc := 93) dX0_correct_93 fX0_10 (by assumption) (by assumption) ?_
          refine G_getL (pc := 96) dX0_correct_96 fX0_46 (by assumption) ?_
          rw [sp3_0]
          refine G_aload_n (pc := 99) 0 dX0_correct_99 rfl ?_
          refine G_getR (pc := 100) dX0_correct_100 fX0_10 (by assumption) (by assumption) ?_
          refine G_getL (pc := 103) dX0_correct_103 fX0_53 (by assumption) ?_
          rw [sp3_2]
          refine G_lmul (pc := 106) dX0_correct_106 ?_
          refine G_lload (pc := 107) 8 dX0_correct_107 rfl ?_
          refine G_ldiv (pc := 109) dX0_correct_109 h66 ?_
          refine G_sn10 (pc := 110) (gSt_l dX0_correct_110 (by decide)) rfl ?_
          refine G_lload (pc := 112) 9 dX0_correct_112 rfl ?_
          refine G_lconst (pc := 114) (v := 0) dX0_correct_114 rfl ?_
          refine G_lif_ne (pc := 115) (tgt := 148) dX0_correct_115 dX0_correct_116 (by decide) (fun h115 => ?_) (fun h115 => ?_)
          · refine G_lload (pc := 148) 4 dX0_correct_148 rfl ?_
            refine G_lload (pc := 150) 9 dX0_correct_150 rfl ?_
            refine G_lsub (pc := 152) dX0_correct_152 ?_
            refine G_st4 (pc := 153) (gSt_l dX0_correct_153 (by decide)) rfl ?_
            refine G_lload (pc := 155) 5 dX0_correct_155 rfl ?_
            refine G_lload (pc := 157) 10 dX0_correct_157 rfl ?_
            refine G_lsub (pc := 159) dX0_correct_159 ?_
            refine G_st5 (pc := 160) (gSt_l dX0_correct_160 (by decide)) rfl ?_
            refine G_inc7 (pc := 162) (v := 1) dX0_correct_162 rfl (by decide) rfl ?_
            refine G_goto (pc := 165) (tgt := 20) dX0_correct_165 (by decide) ?_
            refine G_drop10 ?_
            refine G_drop9 ?_
            refine G_drop8 ?_
            rw [nI_1]
            refine ih (rd + 1) _ _ _ (by omega) (fun d hd => by rw [sp3_ne hd, hl1 d hd]) ?_
            rw [hcor, if_pos (gB_ne.mp h34), if_neg h66, if_neg (fun z => h115 z.1)]
          · refine G_lload (pc := 119) 10 dX0_correct_119 rfl ?_
            refine G_lconst (pc := 121) (v := 0) dX0_correct_121 rfl ?_
            refine G_lif_ne (pc := 122) (tgt := 148) dX0_correct_122 dX0_correct_123 (by decide) (fun h122 => ?_) (fun h122 => ?_)
            · refine G_lload (pc := 148) 4 dX0_correct_148 rfl ?_
              refine G_lload (pc := 150) 9 dX0_correct_150 rfl ?_
              refine G_lsub (pc := 152) dX0_correct_152 ?_
              refine G_st4 (pc := 153) (gSt_l dX0_correct_153 (by decide)) rfl ?_
              refine G_lload (pc := 155) 5 dX0_correct_155 rfl ?_
              refine G_lload (pc := 157) 10 dX0_correct_157 rfl ?_
              refine G_lsub (pc := 159) dX0_correct_159 ?_
              refine G_st5 (pc := 160) (gSt_l dX0_correct_160 (by decide)) rfl ?_
              refine G_inc7 (pc := 162) (v := 1) dX0_correct_162 rfl (by decide) rfl ?_
              refine G_goto (pc := 165) (tgt := 20) dX0_correct_165 (by decide) ?_
              refine G_drop10 ?_
              refine G_drop9 ?_
              refine G_drop8 ?_
              rw [nI_1]
              refine ih (rd + 1) _ _ _ (by omega) (fun d hd => by rw [sp3_ne hd, hl1 d hd]) ?_
              rw [hcor, if_pos (gB_ne.mp h34), if_neg h66, if_neg (fun z => h122 z.2)]
            · refine G_aload_n (pc := 126) 0 dX0_correct_126 rfl ?_
              refine G_lload (pc := 127) 4 dX0_correct_127 rfl ?_
              refine G_l2i (pc := 129) dX0_correct_129 ?_
              refine G_putI (pc := 130) dX0_correct_130 fX0_56 (by assumption) rfl rfl (by first | assumption | omega) ?_
              refine G_aload_n (pc := 133) 0 dX0_correct_133 rfl ?_
              refine G_lload (pc := 134) 5 dX0_correct_134 rfl ?_
              refine G_l2i (pc := 136) dX0_correct_136 ?_
              refine G_putI (pc := 137) dX0_correct_137 fX0_60 (by assumption) rfl rfl (by first | assumption | omega) ?_
              refine G_aload_n (pc := 140) 0 dX0_correct_140 rfl ?_
              refine G_iload (pc := 141) 7 dX0_correct_141 rfl ?_
              refine G_putI (pc := 143) dX0_correct_143 fX0_63 (by assumption) rfl rfl (by first | assumption | omega) ?_
              refine G_iconst (pc := 146) (v := 1) dX0_correct_146 rfl ?_
              refine G_iret (pc := 147) dX0_correct_147 ⟨_, rfl, rfl⟩ ⟨by decide, by decide⟩ ?_
              refine h1 x y (rd + 1) ?_ _ (fun d hd => by rw [sp3_ne hd, hl1 d hd]) sp3_1 sp3_2
              rw [hcor, if_pos (gB_ne.mp h34), if_neg h66, if_pos ⟨h115, h122⟩]
        · refine G_iconst (pc := 70) (v := 0) dX0_correct_70 rfl ?_
          refine G_iret (pc := 71) dX0_correct_71 ⟨_, rfl, rfl⟩ ⟨by decide, by decide⟩ ?_
          refine h0 ?_ _ (fun d hd => by rw [sp3_ne hd, hl1 d hd])
          rw [hcor, if_pos (gB_ne.mp h34), if_pos h66]
      · refine G_iconst (pc := 37) (v := 0) dX0_correct_37 rfl ?_
        refine G_iret (pc := 38) dX0_correct_38 ⟨_, rfl, rfl⟩ ⟨by decide, by decide⟩ ?_
        refine h0 ?_ l1 hl1
        rw [hcor, if_neg (gB_eq.mp (by assumption))]

set_option maxRecDepth 100000 in
set_option maxHeartbeats 4000000 in
theorem c_X0_correct {Γ : gG} {T : gTy} {r : gR} {l : gLg} {i : gI} {Q : gQ} {b c n m : Nat} {x0 y0 : Int64} {f : Nat → Int32} {p q : Nat → Nat} (hB : lyC T r b) (hC : lyCo T r c) (hA : gN Γ ≤ c) (hV : tv i (b + 1) n f p q) (hm : i (b + 35) 2 = nI m) (hm2 : m < 2 ^ 30)
  (h0 : gCor f p q n m 0 x0 y0 = none → ∀ l', (∀ d, d ≠ c + 1 → l' d = l d) → Q (some (.int 0)) T r l' i)
  (h1 : ∀ x y rd, gCor f p q n m 0 x0 y0 = some (x, y, rd) → ∀ l', (∀ d, d ≠ c + 1 → l' d = l d) → l' (c + 1) 1 = gSum f p q x y 1 n → l' (c + 1) 2 = gSum f p q x y 2 n → Q (some (.int 1)) T r l' (cr3 i c x.toInt32 y.toInt32 (nI rd))) : gC Γ MX0_correct [.ref c, .ref b, .long x0, .long y0] T r l i Q := by
  have hB2 := hB
  obtain ⟨b0, b1, b2, b4, b5⟩ := hB2
  refine gC_of rfl (Nat.le_of_ble_eq_true rfl) (L := [(0, .ref c), (1, .ref b), (2, .long x0), (4, .long y0)]) rfl ?_
  refine G_lload_n (pc := 0) 2 dX0_correct_0 rfl ?_
  refine G_sn4 (pc := 1) (gSt_l dX0_correct_1 (by decide)) rfl ?_
  refine G_lload (pc := 3) 3 dX0_correct_3 rfl ?_
  refine G_sn5 (pc := 5) (gSt_l dX0_correct_5 (by decide)) rfl ?_
  refine G_aload_n (pc := 7) 1 dX0_correct_7 rfl ?_
  refine G_getR (pc := 8) dX0_correct_8 fX0_16 (by assumption) (by assumption) ?_
  refine G_iconst (pc := 11) (v := 2) dX0_correct_11 rfl ?_
  refine gV1 (pc := 12) (k' := 0) (n' := 0) dX0_correct_12 lkX0_24 ⟨by decide, by decide⟩ (Nat.le_of_ble_eq_true rfl) rfl rfl ⟨by decide, by decide⟩ b5.1 (c_X4_at (j := 2) b5 (by decide) ?_)
  dsimp only [gRt]
  rw [hm]
  refine G_sn6 (pc := 15) (gSt_i dX0_correct_15 (by decide)) rfl ?_
  refine G_iconst (pc := 17) (v := 1) dX0_correct_17 rfl ?_
  refine G_sn7 (pc := 18) (gSt_i dX0_correct_18 (by decide)) rfl ?_
  exact lp_X0_correct hB hC hA hV hm hm2 h0 h1 m 0 x0 y0 l (Nat.zero_add m) (fun _ _ => rfl) rfl

def lyM (T : gTy) (r : gR) (m : Nat) : Prop := (T.2 m).1 = 12 ∧ r m 0 = some (m + 1) ∧ r m 1 = some (m + 2) ∧ r m 2 = some (m + 3) ∧ r m 4 = some (m + 4) ∧ r m 9 = some (m + 5) ∧ T.2 (m + 1) = (13, 853) ∧ T.2 (m + 2) = (13, 853) ∧ T.2 (m + 3) = (13, 3412) ∧ T.2 (m + 4) = (13, 60) ∧ T.2 (m + 5) = (13, 5)
/-- the terms of the flat state s -/
def mv (s : Nat → Int32) (n : Nat) (f : Nat → Int32) (p q : Nat → Nat) : Prop := n ≤ 6 ∧ s 0 = nI n ∧ ∀ k, k < n → s (5 + 3 * k + 0) = f k ∧ s (5 + 3 * k + 1) = nI (p k) ∧ s (5 + 3 * k + 2) = nI (q k) ∧ p k + q k ≤ 3

set_option maxRecDepth 100000 in
set_option maxHeartbeats 4000000 in
theorem c_X12_termPart {Γ : gG} {T : gTy} {r : gR} {l : gLg} {i : gI} {Q : gQ} {m k w : Nat} (hM : lyM T r m) (hk : 5 + 3 * k + w < 853) (hQ : Q (some (.int (i (m + 1) (5 + 3 * k + w)))) T r l i) : gC Γ MX12_termPart [.ref m, .int (nI k), .int (nI w)] T r l i Q := by
  obtain ⟨m0, m1, m2, m3, m4, m5, m6, m7, m8, m9, m10⟩ := hM
  refine gC_of rfl (Nat.le_of_ble_eq_true rfl) (L := [(0, .ref m), (1, .int (nI k)), (2, .int (nI w))]) rfl ?_
  refine G_aload_n (pc := 0) 0 dX12_termPart_0 rfl ?_
  refine G_getR (pc := 1) dX12_termPart_1 fX12_7 (by assumption) (by assumption) ?_
  refine G_iconst (pc := 4) (v := 5) dX12_termPart_4 rfl ?_
  refine G_iconst (pc := 5) (v := 3) dX12_termPart_5 rfl ?_
  refine G_iload_n (pc := 6) 1 dX12_termPart_6 rfl ?_
  refine G_imul (pc := 7) dX12_termPart_7 ?_
  refine G_iadd (pc := 8) dX12_termPart_8 ?_
  refine G_iload_n (pc := 9) 2 dX12_termPart_9 rfl ?_
  refine G_iadd (pc := 10) dX12_termPart_10 ?_
  refine G_ialdJ (pc := 11) (j := 5 + 3 * k + w) dX12_termPart_11 (by assumption) (by simp only [gl5, gl3, pk_mul, nI_add]) (by first | assumption | omega) (by decide) ?_
  refine G_iret (pc := 12) dX12_termPart_12 ⟨_, rfl, rfl⟩ ⟨by decide, by decide⟩ ?_
  exact hQ

set_option maxRecDepth 100000 in
set_option maxHeartbeats 4000000 in
theorem c_X12_given {Γ : gG} {T : gTy} {r : gR} {l : gLg} {i : gI} {Q : gQ} {m n : Nat} {x y : Int32} {f : Nat → Int32} {p q : Nat → Nat} {k w : Nat} (hM : lyM T r m) (hV : mv (i (m + 1)) n f p q) (hk : k < n) (hw : w ≤ 2) (hQ : Q (some (.long (gvn f p q x.toInt64 y.toInt64 w k))) T r l i) : gC Γ MX12_given [.ref m, .int (nI k), .int x, .int y, .int (nI w)] T r l i Q := by
  have hM2 := hM
  obtain ⟨m0, m1, m2, m3, m4, m5, m6, m7, m8, m9, m10⟩ := hM
  obtain ⟨n6, n0, hv⟩ := hV
  obtain ⟨v1, v2, v3, v4⟩ := hv k hk
  refine gC_of rfl (Nat.le_of_ble_eq_true rfl) (L := [(0, .ref m), (1, .int (nI k)), (2, .int x), (3, .int y), (4, .int (nI w))]) rfl ?_
  refine G_aload_n (pc := 0) 0 dX12_given_0 rfl ?_
  refine G_iload_n (pc := 1) 1 dX12_given_1 rfl ?_
  refine G_iconst (pc := 2) (v := 1) dX12_given_2 rfl ?_
  refine gV2 (pc := 3) (k' := 0) (n' := 0) dX12_given_3 lkX12_37 ⟨by decide, by decide⟩ (Nat.le_of_ble_eq_true rfl) rfl rfl ⟨by decide, by decide⟩ (by assumption) (c_X12_termPart (k := k) (w := 1) hM2 (by omega) ?_)
  dsimp only [gRt]
  rw [v2]
  refine G_sn5 (pc := 6) (gSt_i dX12_given_6 (by decide)) rfl ?_
  refine G_aload_n (pc := 8) 0 dX12_given_8 rfl ?_
  refine G_iload_n (pc := 9) 1 dX12_given_9 rfl ?_
  refine G_iconst (pc := 10) (v := 2) dX12_given_10 rfl ?_
  refine gV2 (pc := 11) (k' := 0) (n' := 0) dX12_given_11 lkX12_37 ⟨by decide, by decide⟩ (Nat.le_of_ble_eq_true rfl) rfl rfl ⟨by decide, by decide⟩ (by assumption) (c_X12_termPart (k := k) (w := 2) hM2 (by omega) ?_)
  dsimp only [gRt]
  rw [v3]
  refine G_sn6 (pc := 14) (gSt_i dX12_given_14 (by decide)) rfl ?_
  refine G_aload_n (pc := 16) 0 dX12_given_16 rfl ?_
  refine G_iload_n (pc := 17) 1 dX12_given_17 rfl ?_
  refine G_iconst (pc := 18) (v := 0) dX12_given_18 rfl ?_
  refine gV2 (pc := 19) (k' := 0) (n' := 0) dX12_given_19 lkX12_37 ⟨by decide, by decide⟩ (Nat.le_of_ble_eq_true rfl) rfl rfl ⟨by decide, by decide⟩ (by assumption) (c_X12_termPart (k := k) (w := 0) hM2 (by omega) ?_)
  dsimp only [gRt]
  rw [v1]
  refine G_i2l (pc := 22) dX12_given_22 ?_
  refine G_ldc2 (pc := 23) dX12_given_23 kcX12_41 ?_
  refine G_iconst (pc := 26) (v := 3) dX12_given_26 rfl ?_
  refine G_iload (pc := 27) 5 dX12_given_27 rfl ?_
  refine G_isub (pc := 29) dX12_given_29 ?_
  refine G_iload (pc := 30) 6 dX12_given_30 rfl ?_
  refine G_isub (pc := 32) dX12_given_32 ?_
  rw [nI_sub3 v4]
  refine gS2 (pc := 33) (k' := 0) (n' := 0) dX12_given_33 lkX12_43 ⟨by decide, by decide⟩ (Nat.le_of_ble_eq_true rfl) rfl rfl ⟨by decide, by decide⟩ (c_X12_power (by omega) ?_)
  dsimp only [gRt]
  refine G_lmul (pc := 36) dX12_given_36 ?_
  rw [show (f k).toInt64 * gPow 256 (3 - p k - q k) = gW f p q k from rfl]
  refine G_sn7 (pc := 37) (gSt_l dX12_given_37 (by decide)) rfl ?_
  refine G_iload (pc := 39) 4 dX12_given_39 rfl ?_
  refine G_iconst (pc := 41) (v := 1) dX12_given_41 rfl ?_
  refine G_icmp_ne (pc := 42) (tgt := 79) dX12_given_42 (by decide) (fun h42 => ?_) (fun h42 => ?_)
  · refine G_iload (pc := 79) 4 dX12_given_79 rfl ?_
    refine G_iconst (pc := 81) (v := 2) dX12_given_81 rfl ?_
    refine G_icmp_ne (pc := 82) (tgt := 119) dX12_given_82 (by decide) (fun h82 => ?_) (fun h82 => ?_)
    · refine G_lload (pc := 119) 7 dX12_given_119 rfl ?_
      refine G_iload_n (pc := 121) 2 dX12_given_121 rfl ?_
      refine G_i2l (pc := 122) dX12_given_122 ?_
      refine G_iload (pc := 123) 5 dX12_given_123 rfl ?_
      refine gS2 (pc := 125) (k' := 0) (n' := 0) dX12_given_125 lkX12_43 ⟨by decide, by decide⟩ (Nat.le_of_ble_eq_true rfl) rfl rfl ⟨by decide, by decide⟩ (c_X12_power (by omega) ?_)
      dsimp only [gRt]
      refine G_lmul (pc := 128) dX12_given_128 ?_
      refine G_iload_n (pc := 129) 3 dX12_given_129 rfl ?_
      refine G_i2l (pc := 130) dX12_given_130 ?_
      refine G_iload (pc := 131) 6 dX12_given_131 rfl ?_
      refine gS2 (pc := 133) (k' := 0) (n' := 0) dX12_given_133 lkX12_43 ⟨by decide, by decide⟩ (Nat.le_of_ble_eq_true rfl) rfl rfl ⟨by decide, by decide⟩ (c_X12_power (by omega) ?_)
      dsimp only [gRt]
      refine G_lmul (pc := 136) dX12_given_136 ?_
      refine G_lret (pc := 137) dX12_given_137 rfl ⟨by decide, by decide⟩ ?_
      have hw1 : ¬ w = 1 := fun z => h42 (by rw [z]; rfl)
      have hw2 : ¬ w = 2 := fun z => h82 (by rw [z]; rfl)
      simp only [gvn, hw1, hw2, if_false] at hQ
      exact hQ
    · refine G_iload (pc := 85) 6 dX12_given_85 rfl ?_
      refine G_if_ne (pc := 87) (tgt := 94) dX12_given_87 (by decide) (fun h87 => ?_) (fun h87 => ?_)
      · refine G_lload (pc := 94) 7 dX12_given_94 rfl ?_
        refine G_iload (pc := 96) 6 dX12_given_96 rfl ?_
        refine G_i2l (pc := 98) dX12_given_98 ?_
        refine G_lmul (pc := 99) dX12_given_99 ?_
        refine G_iload_n (pc := 100) 2 dX12_given_100 rfl ?_
        refine G_i2l (pc := 101) dX12_given_101 ?_
        refine G_iload (pc := 102) 5 dX12_given_102 rfl ?_
        refine gS2 (pc := 104) (k' := 0) (n' := 0) dX12_given_104 lkX12_43 ⟨by decide, by decide⟩ (Nat.le_of_ble_eq_true rfl) rfl rfl ⟨by decide, by decide⟩ (c_X12_power (by omega) ?_)
        dsimp only [gRt]
        refine G_lmul (pc := 107) dX12_given_107 ?_
        refine G_iload_n (pc := 108) 3 dX12_given_108 rfl ?_
        refine G_i2l (pc := 109) dX12_given_109 ?_
        refine G_iload (pc := 110) 6 dX12_given_110 rfl ?_
        refine G_iconst (pc := 112) (v := 1) dX12_given_112 rfl ?_
        refine G_isub (pc := 113) dX12_given_113 ?_
        rw [nI_pr0 (by omega) h87]
        refine gS2 (pc := 114) (k' := 0) (n' := 0) dX12_given_114 lkX12_43 ⟨by decide, by decide⟩ (Nat.le_of_ble_eq_true rfl) rfl rfl ⟨by decide, by decide⟩ (c_X12_power (by omega) ?_)
        dsimp only [gRt]
        refine G_lmul (pc := 117) dX12_given_117 ?_
        refine G_lret (pc := 118) dX12_given_118 rfl ⟨by decide, by decide⟩ ?_
        have hw : w = 2 := (nI_eq (by omega) (by decide)).mp h82
        subst hw
        have hz : ¬ q k = 0 := fun z => h87 (by rw [z]; rfl)
        simp only [gvn, hz, if_true, if_false] at hQ
        exact hQ
      · refine G_lconst (pc := 90) (v := 0) dX12_given_90 rfl ?_
        refine G_goto (pc := 91) (tgt := 118) dX12_given_91 (by decide) ?_
        refine G_lret (pc := 118) dX12_given_118 rfl ⟨by decide, by decide⟩ ?_
        have hw : w = 2 := (nI_eq (by omega) (by decide)).mp h82
        subst hw
        have hz : q k = 0 := (nI_eq (by omega) (by decide)).mp h87
        simp only [gvn, hz, if_true, if_false] at hQ
        exact hQ
  · refine G_iload (pc := 45) 5 dX12_given_45 rfl ?_
    refine G_if_ne (pc := 47) (tgt := 54) dX12_given_47 (by decide) (fun h47 => ?_) (fun h47 => ?_)
    · refine G_lload (pc := 54) 7 dX12_given_54 rfl ?_
      refine G_iload (pc := 56) 5 dX12_given_56 rfl ?_
      refine G_i2l (pc := 58) dX12_given_58 ?_
      refine G_lmul (pc := 59) dX12_given_59 ?_
      refine G_iload_n (pc := 60) 2 dX12_given_60 rfl ?_
      refine G_i2l (pc := 61) dX12_given_61 ?_
      refine G_iload (pc := 62) 5 dX12_given_62 rfl ?_
      refine G_iconst (pc := 64) (v := 1) dX12_given_64 rfl ?_
      refine G_isub (pc := 65) dX12_given_65 ?_
      rw [nI_pr0 (by omega) h47]
      refine gS2 (pc := 66) (k' := 0) (n' := 0) dX12_given_66 lkX12_43 ⟨by decide, by decide⟩ (Nat.le_of_ble_eq_true rfl) rfl rfl ⟨by decide, by decide⟩ (c_X12_power (by omega) ?_)
      dsimp only [gRt]
      refine G_lmul (pc := 69) dX12_given_69 ?_
      refine G_iload_n (pc := 70) 3 dX12_given_70 rfl ?_
      refine G_i2l (pc := 71) dX12_given_71 ?_
      refine G_iload (pc := 72) 6 dX12_given_72 rfl ?_
      refine gS2 (pc := 74) (k' := 0) (n' := 0) dX12_given_74 lkX12_43 ⟨by decide, by decide⟩ (Nat.le_of_ble_eq_true rfl) rfl rfl ⟨by decide, by decide⟩ (c_X12_power (by omega) ?_)
      dsimp only [gRt]
      refine G_lmul (pc := 77) dX12_given_77 ?_
      refine G_lret (pc := 78) dX12_given_78 rfl ⟨by decide, by decide⟩ ?_
      have hw : w = 1 := (nI_eq (by omega) (by decide)).mp h42
      subst hw
      have hz : ¬ p k = 0 := fun z => h47 (by rw [z]; rfl)
      simp only [gvn, hz, if_true, if_false] at hQ
      exact hQ
    · refine G_lconst (pc := 50) (v := 0) dX12_given_50 rfl ?_
      refine G_goto (pc := 51) (tgt := 78) dX12_given_51 (by decide) ?_
      refine G_lret (pc := 78) dX12_given_78 rfl ⟨by decide, by decide⟩ ?_
      have hw : w = 1 := (nI_eq (by omega) (by decide)).mp h42
      subst hw
      have hz : p k = 0 := (nI_eq (by omega) (by decide)).mp h47
      simp only [gvn, hz, if_true, if_false] at hQ
      exact hQ

set_option maxRecDepth 100000 in
set_option maxHeartbeats 4000000 in
theorem lp_X12_sum {Γ : gG} {T : gTy} {r : gR} {l : gLg} {i : gI} {Q : gQ} {m n : Nat} {x y : Int32} {f : Nat → Int32} {p q : Nat → Nat} {w : Nat} (hM : lyM T r m) (hV : mv (i (m + 1)) n f p q) (hw : w ≤ 2) (hQ : Q (some (.long (gSum f p q x.toInt64 y.toInt64 w n))) T r l i) : ∀ d k, k + d = n → G Γ MX12_sum 0 0 6 [(0, .ref m), (1, .int x), (2, .int y), (3, .int (nI w)), (4, .long (gSum f p q x.toInt64 y.toInt64 w k)), (6, .int (nI k))] [] T r l i Q := by
  have hM2 := hM
  obtain ⟨m0, m1, m2, m3, m4, m5, m6, m7, m8, m9, m10⟩ := hM
  obtain ⟨n6, n0, hv⟩ := id hV
  intro d
  induction d with
  | zero =>
    intro k hk
    obtain rfl : k = n := by omega
    refine G_iload (pc := 6) 5 dX12_sum_6 rfl ?_
    refine G_aload_n (pc := 8) 0 dX12_sum_8 rfl ?_
    refine G_getR (pc := 9) dX12_sum_9 fX12_7 (by assumption) (by assumption) ?_
    refine G_iconst (pc := 12) (v := 0) dX12_sum_12 rfl ?_
    refine G_ialdJ (pc := 13) (j := 0) dX12_sum_13 (by assumption) gl0 (by first | assumption | omega) (by decide) ?_
    refine G_icmp_ge (pc := 14) (tgt := 37) dX12_sum_14 (by decide) (fun h14 => ?_) (fun h14 => ?_)
    · refine G_lload (pc := 37) 4 dX12_sum_37 rfl ?_
      refine G_lret (pc := 39) dX12_sum_39 rfl ⟨by decide, by decide⟩ ?_
      exact hQ
    · exact absurd (by rw [n0]; exact Int32.le_refl _) h14
  | succ d ih =>
    intro k hk
    refine G_iload (pc := 6) 5 dX12_sum_6 rfl ?_
    refine G_aload_n (pc := 8) 0 dX12_sum_8 rfl ?_
    refine G_getR (pc := 9) dX12_sum_9 fX12_7 (by assumption) (by assumption) ?_
    refine G_iconst (pc := 12) (v := 0) dX12_sum_12 rfl ?_
    refine G_ialdJ (pc := 13) (j := 0) dX12_sum_13 (by assumption) gl0 (by first | assumption | omega) (by decide) ?_
    refine G_icmp_ge (pc := 14) (tgt := 37) dX12_sum_14 (by decide) (fun h14 => ?_) (fun h14 => ?_)
    · exact absurd h14 (by rw [n0]; exact nI_ge (by omega) (by omega))
    · refine G_lload (pc := 17) 4 dX12_sum_17 rfl ?_
      refine G_aload_n (pc := 19) 0 dX12_sum_19 rfl ?_
      refine G_iload (pc := 20) 5 dX12_sum_20 rfl ?_
      refine G_iload_n (pc := 22) 1 dX12_sum_22 rfl ?_
      refine G_iload_n (pc := 23) 2 dX12_sum_23 rfl ?_
      refine G_iload_n (pc := 24) 3 dX12_sum_24 rfl ?_
      refine gV4 (pc := 25) (k' := 0) (n' := 0) dX12_sum_25 lkX12_47 ⟨by decide, by decide⟩ (Nat.le_of_ble_eq_true rfl) rfl rfl ⟨by decide, by decide⟩ (by assumption) (c_X12_given hM2 hV (by omega) hw ?_)
      dsimp only [gRt]
      refine G_ladd (pc := 28) dX12_sum_28 ?_
      refine G_st4 (pc := 29) (gSt_l dX12_sum_29 (by decide)) rfl ?_
      refine G_inc5 (pc := 31) (v := 1) dX12_sum_31 rfl (by decide) rfl ?_
      refine G_goto (pc := 34) (tgt := 6) dX12_sum_34 (by decide) ?_
      rw [nI_1]
      exact ih (k + 1) (by omega)

set_option maxRecDepth 100000 in
set_option maxHeartbeats 4000000 in
theorem c_X12_sum {Γ : gG} {T : gTy} {r : gR} {l : gLg} {i : gI} {Q : gQ} {m n : Nat} {x y : Int32} {f : Nat → Int32} {p q : Nat → Nat} {w : Nat} (hM : lyM T r m) (hV : mv (i (m + 1)) n f p q) (hw : w ≤ 2) (hQ : Q (some (.long (gSum f p q x.toInt64 y.toInt64 w n))) T r l i) : gC Γ MX12_sum [.ref m, .int x, .int y, .int (nI w)] T r l i Q := by
  refine gC_of rfl (Nat.le_of_ble_eq_true rfl) (L := [(0, .ref m), (1, .int x), (2, .int y), (3, .int (nI w))]) rfl ?_
  refine G_lconst (pc := 0) (v := 0) dX12_sum_0 rfl ?_
  refine G_sn4 (pc := 1) (gSt_l dX12_sum_1 (by decide)) rfl ?_
  refine G_iconst (pc := 3) (v := 0) dX12_sum_3 rfl ?_
  refine G_sn5 (pc := 4) (gSt_i dX12_sum_4 (by decide)) rfl ?_
  exact lp_X12_sum hM hV hw hQ n 0 (Nat.zero_add n)

set_option maxRecDepth 100000 in
set_option maxHeartbeats 4000000 in
theorem c_X12_goesRound {Γ : gG} {T : gTy} {r : gR} {l : gLg} {i : gI} {Q : gQ} {m n : Nat} {f : Nat → Int32} {p q : Nat → Nat} (hM : lyM T r m) (hA : gN Γ ≤ m) (hV : mv (i (m + 1)) n f p q)
  (ha : gGG f p q n (i m 6).toInt64 (i m 7).toInt64 = 0 → Q (some (.int 0)) T r l (up2 i m 8 (-1)))
  (hb : ¬ gGG f p q n (i m 6).toInt64 (i m 7).toInt64 = 0 → ¬ (inB ((i m 6).toInt64 - gSum f p q (i m 6).toInt64 (i m 7).toInt64 0 n * gSum f p q (i m 6).toInt64 (i m 7).toInt64 1 n / gGG f p q n (i m 6).toInt64 (i m 7).toInt64) ∧ inB ((i m 7).toInt64 - gSum f p q (i m 6).toInt64 (i m 7).toInt64 0 n * gSum f p q (i m 6).toInt64 (i m 7).toInt64 2 n / gGG f p q n (i m 6).toInt64 (i m 7).toInt64)) → Q (some (.int 0)) T r l (up2 i m 8 (-1)))
  (hc : ¬ gGG f p q n (i m 6).toInt64 (i m 7).toInt64 = 0 → inB ((i m 6).toInt64 - gSum f p q (i m 6).toInt64 (i m 7).toInt64 0 n * gSum f p q (i m 6).toInt64 (i m 7).toInt64 1 n / gGG f p q n (i m 6).toInt64 (i m 7).toInt64) ∧ inB ((i m 7).toInt64 - gSum f p q (i m 6).toInt64 (i m 7).toInt64 0 n * gSum f p q (i m 6).toInt64 (i m 7).toInt64 2 n / gGG f p q n (i m 6).toInt64 (i m 7).toInt64) → Q (some (.int (gB (¬ (((i m 6).toInt64 - gSum f p q (i m 6).toInt64 (i m 7).toInt64 0 n * gSum f p q (i m 6).toInt64 (i m 7).toInt64 1 n / gGG f p q n (i m 6).toInt64 (i m 7).toInt64) = (i m 6).toInt64 ∧ ((i m 7).toInt64 - gSum f p q (i m 6).toInt64 (i m 7).toInt64 0 n * gSum f p q (i m 6).toInt64 (i m 7).toInt64 2 n / gGG f p q n (i m 6).toInt64 (i m 7).toInt64) = (i m 7).toInt64))))) T r l (up2 (up2 (up2 i m 6 ((i m 6).toInt64 - gSum f p q (i m 6).toInt64 (i m 7).toInt64 0 n * gSum f p q (i m 6).toInt64 (i m 7).toInt64 1 n / gGG f p q n (i m 6).toInt64 (i m 7).toInt64).toInt32) m 7 ((i m 7).toInt64 - gSum f p q (i m 6).toInt64 (i m 7).toInt64 0 n * gSum f p q (i m 6).toInt64 (i m 7).toInt64 2 n / gGG f p q n (i m 6).toInt64 (i m 7).toInt64).toInt32) m 8 (i m 8 + 1))) : gC Γ MX12_goesRound [.ref m] T r l i Q := by
  have hM2 := hM
  obtain ⟨m0, m1, m2, m3, m4, m5, m6, m7, m8, m9, m10⟩ := hM
  refine gC_of rfl (Nat.le_of_ble_eq_true rfl) (L := [(0, .ref m)]) rfl ?_
  refine G_aload_n (pc := 0) 0 dX12_goesRound_0 rfl ?_
  refine G_aload_n (pc := 1) 0 dX12_goesRound_1 rfl ?_
  refine G_getI (pc := 2) dX12_goesRound_2 fX12_55 (by assumption) ?_
  refine G_aload_n (pc := 5) 0 dX12_goesRound_5 rfl ?_
  refine G_getI (pc := 6) dX12_goesRound_6 fX12_58 (by assumption) ?_
  refine G_iconst (pc := 9) (v := 1) dX12_goesRound_9 rfl ?_
  refine gV3 (pc := 10) (k' := 0) (n' := 0) dX12_goesRound_10 lkX12_61 ⟨by decide, by decide⟩ (Nat.le_of_ble_eq_true rfl) rfl rfl ⟨by decide, by decide⟩ (by assumption) (c_X12_sum (w := 1) hM2 hV (by decide) ?_)
  dsimp only [gRt]
  refine G_sn1 (pc := 13) (gSt_ln dX12_goesRound_13 rfl (by decide)) rfl ?_
  refine G_aload_n (pc := 14) 0 dX12_goesRound_14 rfl ?_
  refine G_aload_n (pc := 15) 0 dX12_goesRound_15 rfl ?_
  refine G_getI (pc := 16) dX12_goesRound_16 fX12_55 (by assumption) ?_
  refine G_aload_n (pc := 19) 0 dX12_goesRound_19 rfl ?_
  refine G_getI (pc := 20) dX12_goesRound_20 fX12_58 (by assumption) ?_
  refine G_iconst (pc := 23) (v := 2) dX12_goesRound_23 rfl ?_
  refine gV3 (pc := 24) (k' := 0) (n' := 0) dX12_goesRound_24 lkX12_61 ⟨by decide, by decide⟩ (Nat.le_of_ble_eq_true rfl) rfl rfl ⟨by decide, by decide⟩ (by assumption) (c_X12_sum (w := 2) hM2 hV (by decide) ?_)
  dsimp only [gRt]
  refine G_sn2 (pc := 27) (gSt_ln dX12_goesRound_27 rfl (by decide)) rfl ?_
  refine G_lload_n (pc := 28) 1 dX12_goesRound_28 rfl ?_
  refine G_lload_n (pc := 29) 1 dX12_goesRound_29 rfl ?_
  refine G_lmul (pc := 30) dX12_goesRound_30 ?_
  refine G_lload_n (pc := 31) 2 dX12_goesRound_31 rfl ?_
  refine G_lload_n (pc := 32) 2 dX12_goesRound_32 rfl ?_
  refine G_lmul (pc := 33) dX12_goesRound_33 ?_
  refine G_ladd (pc := 34) dX12_goesRound_34 ?_
  refine G_sn3 (pc := 35) (gSt_l dX12_goesRound_35 (by decide)) rfl ?_
  refine G_lload (pc := 37) 3 dX12_goesRound_37 rfl ?_
  refine G_lconst (pc := 39) (v := 0) dX12_goesRound_39 rfl ?_
  refine G_lif_ne (pc := 40) (tgt := 51) dX12_goesRound_40 dX12_goesRound_41 (by decide) (fun h40 => ?_) (fun h40 => ?_)
  · refine G_aload_n (pc := 51) 0 dX12_goesRound_51 rfl ?_
    refine G_aload_n (pc := 52) 0 dX12_goesRound_52 rfl ?_
    refine G_getI (pc := 53) dX12_goesRound_53 fX12_55 (by assumption) ?_
    refine G_aload_n (pc := 56) 0 dX12_goesRound_56 rfl ?_
    refine G_getI (pc := 57) dX12_goesRound_57 fX12_58 (by assumption) ?_
    refine G_iconst (pc := 60) (v := 0) dX12_goesRound_60 rfl ?_
    refine gV3 (pc := 61) (k' := 0) (n' := 0) dX12_goesRound_61 lkX12_61 ⟨by decide, by decide⟩ (Nat.le_of_ble_eq_true rfl) rfl rfl ⟨by decide, by decide⟩ (by assumption) (c_X12_sum (w := 0) hM2 hV (by decide) ?_)
    dsimp only [gRt]
    refine G_sn4 (pc := 64) (gSt_l dX12_goesRound_64 (by decide)) rfl ?_
    refine G_aload_n (pc := 66) 0 dX12_goesRound_66 rfl ?_
    refine G_getI (pc := 67) dX12_goesRound_67 fX12_55 (by assumption) ?_
    refine G_i2l (pc := 70) dX12_goesRound_70 ?_
    refine G_lload (pc := 71) 4 dX12_goesRound_71 rfl ?_
    refine G_lload_n (pc := 73) 1 dX12_goesRound_73 rfl ?_
    refine G_lmul (pc := 74) dX12_goesRound_74 ?_
    refine G_lload (pc := 75) 3 dX12_goesRound_75 rfl ?_
    refine G_ldiv (pc := 77) dX12_goesRound_77 h40 ?_
    refine G_lsub (pc := 78) dX12_goesRound_78 ?_
    refine G_sn5 (pc := 79) (gSt_l dX12_goesRound_79 (by decide)) rfl ?_
    refine G_aload_n (pc := 81) 0 dX12_goesRound_81 rfl ?_
    refine G_getI (pc := 82) dX12_goesRound_82 fX12_58 (by assumption) ?_
    refine G_i2l (pc := 85) dX12_goesRound_85 ?_
    refine G_lload (pc := 86) 4 dX12_goesRound_86 rfl ?_
    refine G_lload_n (pc := 88) 2 dX12_goesRound_88 rfl ?_
    refine G_lmul (pc := 89) dX12_goesRound_89 ?_
    refine G_lload (pc := 90) 3 dX12_goesRound_90 rfl ?_
    refine G_ldiv (pc := 92) dX12_goesRound_92 h40 ?_
    refine G_lsub (pc := 93) dX12_goesRound_93 ?_
    refine G_sn6 (pc := 94) (gSt_l dX12_goesRound_94 (by decide)) rfl ?_
    refine G_lload (pc := 96) 5 dX12_goesRound_96 rfl ?_
    refine G_ldc2 (pc := 98) dX12_goesRound_98 kcX12_68 ?_
    refine G_lif_lt (pc := 101) (tgt := 132) dX12_goesRound_101 dX12_goesRound_102 (by decide) (fun h101 => ?_) (fun h101 => ?_)
    · refine G_aload_n (pc := 132) 0 dX12_goesRound_132 rfl ?_
      refine G_iconst (pc := 133) (v := (-1)) dX12_goesRound_133 rfl ?_
      refine G_putI (pc := 134) dX12_goesRound_134 fX12_65 (by assumption) rfl rfl (by first | assumption | omega) ?_
      refine G_iconst (pc := 137) (v := 0) dX12_goesRound_137 rfl ?_
      refine G_iret (pc := 138) dX12_goesRound_138 ⟨_, rfl, rfl⟩ ⟨by decide, by decide⟩ ?_
      exact hb h40 (fun q => q.1.1 h101)
    · refine G_lload (pc := 105) 5 dX12_goesRound_105 rfl ?_
      refine G_ldc2 (pc := 107) dX12_goesRound_107 kcX12_70 ?_
      refine G_lif_gt (pc := 110) (tgt := 132) dX12_goesRound_110 dX12_goesRound_111 (by decide) (fun h110 => ?_) (fun h110 => ?_)
      · refine G_aload_n (pc := 132) 0 dX12_goesRound_132 rfl ?_
        refine G_iconst (pc := 133) (v := (-1)) dX12_goesRound_133 rfl ?_
        refine G_putI (pc := 134) dX12_goesRound_134 fX12_65 (by assumption) rfl rfl (by first | assumption | omega) ?_
        refine G_iconst (pc := 137) (v := 0) dX12_goesRound_137 rfl ?_
        refine G_iret (pc := 138) dX12_goesRound_138 ⟨_, rfl, rfl⟩ ⟨by decide, by decide⟩ ?_
        exact hb h40 (fun q => q.1.2 h110)
      · refine G_lload (pc := 114) 6 dX12_goesRound_114 rfl ?_
        refine G_ldc2 (pc := 116) dX12_goesRound_116 kcX12_68 ?_
        refine G_lif_lt (pc := 119) (tgt := 132) dX12_goesRound_119 dX12_goesRound_120 (by decide) (fun h119 => ?_) (fun h119 => ?_)
        · refine G_aload_n (pc := 132) 0 dX12_goesRound_132 rfl ?_
          refine G_iconst (pc := 133) (v := (-1)) dX12_goesRound_133 rfl ?_
          refine G_putI (pc := 134) dX12_goesRound_134 fX12_65 (by assumption) rfl rfl (by first | assumption | omega) ?_
          refine G_iconst (pc := 137) (v := 0) dX12_goesRound_137 rfl ?_
          refine G_iret (pc := 138) dX12_goesRound_138 ⟨_, rfl, rfl⟩ ⟨by decide, by decide⟩ ?_
          exact hb h40 (fun q => q.2.1 h119)
        · refine G_lload (pc := 123) 6 dX12_goesRound_123 rfl ?_
          refine G_ldc2 (pc := 125) dX12_goesRound_125 kcX12_70 ?_
          refine G_lif_le (pc := 128) (tgt := 139) dX12_goesRound_128 dX12_goesRound_129 (by decide) (fun h128 => ?_) (fun h128 => ?_)
          · refine G_lload (pc := 139) 5 dX12_goesRound_139 rfl ?_
            refine G_aload_n (pc := 141) 0 dX12_goesRound_141 rfl ?_
            refine G_getI (pc := 142) dX12_goesRound_142 fX12_55 (by assumption) ?_
            refine G_i2l (pc := 145) dX12_goesRound_145 ?_
            refine G_lif_ne (pc := 146) (tgt := 161) dX12_goesRound_146 dX12_goesRound_147 (by decide) (fun h146 => ?_) (fun h146 => ?_)
            · refine G_iconst (pc := 161) (v := 1) dX12_goesRound_161 rfl ?_
              refine G_goto (pc := 162) (tgt := 166) dX12_goesRound_162 (by decide) ?_
              refine G_sn7 (pc := 166) (gSt_i dX12_goesRound_166 (by decide)) rfl ?_
              refine G_aload_n (pc := 168) 0 dX12_goesRound_168 rfl ?_
              refine G_lload (pc := 169) 5 dX12_goesRound_169 rfl ?_
              refine G_l2i (pc := 171) dX12_goesRound_171 ?_
              refine G_putI (pc := 172) dX12_goesRound_172 fX12_55 (by assumption) rfl rfl (by first | assumption | omega) ?_
              refine G_aload_n (pc := 175) 0 dX12_goesRound_175 rfl ?_
              refine G_lload (pc := 176) 6 dX12_goesRound_176 rfl ?_
              refine G_l2i (pc := 178) dX12_goesRound_178 ?_
              refine G_putI (pc := 179) dX12_goesRound_179 fX12_58 (by assumption) rfl rfl (by first | assumption | omega) ?_
              refine G_aload_n (pc := 182) 0 dX12_goesRound_182 rfl ?_
              refine G_dup (pc := 183) dX12_goesRound_183 rfl ?_
              refine G_getI (pc := 184) dX12_goesRound_184 fX12_65 (by assumption) ?_
              rw [up2_row (by decide), up2_row (by decide)]
              refine G_iconst (pc := 187) (v := 1) dX12_goesRound_187 rfl ?_
              refine G_iadd (pc := 188) dX12_goesRound_188 ?_
              refine G_putI (pc := 189) dX12_goesRound_189 fX12_65 (by assumption) rfl rfl (by first | assumption | omega) ?_
              refine G_iload (pc := 192) 7 dX12_goesRound_192 rfl ?_
              refine G_iret (pc := 194) dX12_goesRound_194 ⟨_, rfl, rfl⟩ ⟨by decide, by decide⟩ ?_
              have hcc := hc h40 ⟨⟨h101, h110⟩, ⟨h119, Int64.not_lt.mpr h128⟩⟩
              rw [gB_t (c := ¬ (((i m 6).toInt64 - gSum f p q (i m 6).toInt64 (i m 7).toInt64 0 n * gSum f p q (i m 6).toInt64 (i m 7).toInt64 1 n / gGG f p q n (i m 6).toInt64 (i m 7).toInt64) = (i m 6).toInt64 ∧ ((i m 7).toInt64 - gSum f p q (i m 6).toInt64 (i m 7).toInt64 0 n * gSum f p q (i m 6).toInt64 (i m 7).toInt64 2 n / gGG f p q n (i m 6).toInt64 (i m 7).toInt64) = (i m 7).toInt64)) (fun z => h146 z.1)] at hcc
              exact hcc
            · refine G_lload (pc := 150) 6 dX12_goesRound_150 rfl ?_
              refine G_aload_n (pc := 152) 0 dX12_goesRound_152 rfl ?_
              refine G_getI (pc := 153) dX12_goesRound_153 fX12_58 (by assumption) ?_
              refine G_i2l (pc := 156) dX12_goesRound_156 ?_
              refine G_lif_eq (pc := 157) (tgt := 165) dX12_goesRound_157 dX12_goesRound_158 (by decide) (fun h157 => ?_) (fun h157 => ?_)
              · refine G_iconst (pc := 165) (v := 0) dX12_goesRound_165 rfl ?_
                refine G_sn7 (pc := 166) (gSt_i dX12_goesRound_166 (by decide)) rfl ?_
                refine G_aload_n (pc := 168) 0 dX12_goesRound_168 rfl ?_
                refine G_lload (pc := 169) 5 dX12_goesRound_169 rfl ?_
                refine G_l2i (pc := 171) dX12_goesRound_171 ?_
                refine G_putI (pc := 172) dX12_goesRound_172 fX12_55 (by assumption) rfl rfl (by first | assumption | omega) ?_
                refine G_aload_n (pc := 175) 0 dX12_goesRound_175 rfl ?_
                refine G_lload (pc := 176) 6 dX12_goesRound_176 rfl ?_
                refine G_l2i (pc := 178) dX12_goesRound_178 ?_
                refine G_putI (pc := 179) dX12_goesRound_179 fX12_58 (by assumption) rfl rfl (by first | assumption | omega) ?_
                refine G_aload_n (pc := 182) 0 dX12_goesRound_182 rfl ?_
                refine G_dup (pc := 183) dX12_goesRound_183 rfl ?_
                refine G_getI (pc := 184) dX12_goesRound_184 fX12_65 (by assumption) ?_
                rw [up2_row (by decide), up2_row (by decide)]
                refine G_iconst (pc := 187) (v := 1) dX12_goesRound_187 rfl ?_
                refine G_iadd (pc := 188) dX12_goesRound_188 ?_
                refine G_putI (pc := 189) dX12_goesRound_189 fX12_65 (by assumption) rfl rfl (by first | assumption | omega) ?_
                refine G_iload (pc := 192) 7 dX12_goesRound_192 rfl ?_
                refine G_iret (pc := 194) dX12_goesRound_194 ⟨_, rfl, rfl⟩ ⟨by decide, by decide⟩ ?_
                have hcc := hc h40 ⟨⟨h101, h110⟩, ⟨h119, Int64.not_lt.mpr h128⟩⟩
                rw [gB_f (c := ¬ (((i m 6).toInt64 - gSum f p q (i m 6).toInt64 (i m 7).toInt64 0 n * gSum f p q (i m 6).toInt64 (i m 7).toInt64 1 n / gGG f p q n (i m 6).toInt64 (i m 7).toInt64) = (i m 6).toInt64 ∧ ((i m 7).toInt64 - gSum f p q (i m 6).toInt64 (i m 7).toInt64 0 n * gSum f p q (i m 6).toInt64 (i m 7).toInt64 2 n / gGG f p q n (i m 6).toInt64 (i m 7).toInt64) = (i m 7).toInt64)) (fun z => z ⟨h146, h157⟩)] at hcc
                exact hcc
              · refine G_iconst (pc := 161) (v := 1) dX12_goesRound_161 rfl ?_
                refine G_goto (pc := 162) (tgt := 166) dX12_goesRound_162 (by decide) ?_
                refine G_sn7 (pc := 166) (gSt_i dX12_goesRound_166 (by decide)) rfl ?_
                refine G_aload_n (pc := 168) 0 dX12_goesRound_168 rfl ?_
                refine G_lload (pc := 169) 5 dX12_goesRound_169 rfl ?_
                refine G_l2i (pc := 171) dX12_goesRound_171 ?_
                refine G_putI (pc := 172) dX12_goesRound_172 fX12_55 (by assumption) rfl rfl (by first | assumption | omega) ?_
                refine G_aload_n (pc := 175) 0 dX12_goesRound_175 rfl ?_
                refine G_lload (pc := 176) 6 dX12_goesRound_176 rfl ?_
                refine G_l2i (pc := 178) dX12_goesRound_178 ?_
                refine G_putI (pc := 179) dX12_goesRound_179 fX12_58 (by assumption) rfl rfl (by first | assumption | omega) ?_
                refine G_aload_n (pc := 182) 0 dX12_goesRound_182 rfl ?_
                refine G_dup (pc := 183) dX12_goesRound_183 rfl ?_
                refine G_getI (pc := 184) dX12_goesRound_184 fX12_65 (by assumption) ?_
                rw [up2_row (by decide), up2_row (by decide)]
                refine G_iconst (pc := 187) (v := 1) dX12_goesRound_187 rfl ?_
                refine G_iadd (pc := 188) dX12_goesRound_188 ?_
                refine G_putI (pc := 189) dX12_goesRound_189 fX12_65 (by assumption) rfl rfl (by first | assumption | omega) ?_
                refine G_iload (pc := 192) 7 dX12_goesRound_192 rfl ?_
                refine G_iret (pc := 194) dX12_goesRound_194 ⟨_, rfl, rfl⟩ ⟨by decide, by decide⟩ ?_
                have hcc := hc h40 ⟨⟨h101, h110⟩, ⟨h119, Int64.not_lt.mpr h128⟩⟩
                rw [gB_t (c := ¬ (((i m 6).toInt64 - gSum f p q (i m 6).toInt64 (i m 7).toInt64 0 n * gSum f p q (i m 6).toInt64 (i m 7).toInt64 1 n / gGG f p q n (i m 6).toInt64 (i m 7).toInt64) = (i m 6).toInt64 ∧ ((i m 7).toInt64 - gSum f p q (i m 6).toInt64 (i m 7).toInt64 0 n * gSum f p q (i m 6).toInt64 (i m 7).toInt64 2 n / gGG f p q n (i m 6).toInt64 (i m 7).toInt64) = (i m 7).toInt64)) (fun z => h157 z.2)] at hcc
                exact hcc
          · refine G_aload_n (pc := 132) 0 dX12_goesRound_132 rfl ?_
            refine G_iconst (pc := 133) (v := (-1)) dX12_goesRound_133 rfl ?_
            refine G_putI (pc := 134) dX12_goesRound_134 fX12_65 (by assumption) rfl rfl (by first | assumption | omega) ?_
            refine G_iconst (pc := 137) (v := 0) dX12_goesRound_137 rfl ?_
            refine G_iret (pc := 138) dX12_goesRound_138 ⟨_, rfl, rfl⟩ ⟨by decide, by decide⟩ ?_
            exact hb h40 (fun q => q.2.2 (Int64.not_le.mp h128))
  · refine G_aload_n (pc := 44) 0 dX12_goesRound_44 rfl ?_
    refine G_iconst (pc := 45) (v := (-1)) dX12_goesRound_45 rfl ?_
    refine G_putI (pc := 46) dX12_goesRound_46 fX12_65 (by assumption) rfl rfl (by first | assumption | omega) ?_
    refine G_iconst (pc := 49) (v := 0) dX12_goesRound_49 rfl ?_
    refine G_iret (pc := 50) dX12_goesRound_50 ⟨_, rfl, rfl⟩ ⟨by decide, by decide⟩ ?_
    exact ha h40

/-- the reference's working fields may move, all else stays -/
def frM (m : Nat) (i i' : gI) : Prop := (∀ b, b ≠ m → i' b = i b) ∧ ∀ j, j ≠ 6 → j ≠ 7 → j ≠ 8 → i' m j = i m j
theorem frM.rfl' {m : Nat} {i : gI} : frM m i i := ⟨fun _ _ => rfl, fun _ _ _ _ => rfl⟩
theorem frM.put {m j : Nat} {i i' : gI} {x : Int32} (h : frM m i i') (hj : j = 6 ∨ j = 7 ∨ j = 8) : frM m i (up2 i' m j x) := ⟨fun b hb => by rw [up2_ne hb]; exact h.1 b hb, fun q h6 h7 h8 => by rw [up2_row (by omega)]; exact h.2 q h6 h7 h8⟩
theorem gCor_out {f : Nat → Int32} {p q : Nat → Nat} {n m rd : Nat} {x y : Int64} (h : ¬ (inB x ∧ inB y)) : gCor f p q n m rd x y = none := by
  cases m with
  | zero => rfl
  | succ m => rw [gCor, if_neg h]
theorem sub_z {x d : Int64} : x - d = x ↔ d = 0 := by
  constructor
  · intro h
    have h2 : x - (x - d) = x - x := by rw [h]
    rw [Int64.sub_self] at h2
    rw [show x - (x - d) = d by rw [Int64.sub_eq_add_neg, Int64.neg_sub, Int64.add_comm, Int64.sub_add_cancel]] at h2
    exact h2
  · intro h; rw [h, Int64.sub_zero]
theorem sub_eq {x y d e : Int64} (h : x - d = x ∧ y - e = y) : d = 0 ∧ e = 0 := ⟨sub_z.mp h.1, sub_z.mp h.2⟩
set_option maxRecDepth 100000 in
set_option maxHeartbeats 4000000 in
theorem lp_X12_corrects {Γ : gG} {T : gTy} {r : gR} {l : gLg} {i : gI} {Q : gQ} {m n mm : Nat} {x0 y0 : Int64} {f : Nat → Int32} {p q : Nat → Nat} (hM : lyM T r m) (hA : gN Γ ≤ m) (hV : mv (i (m + 1)) n f p q) (hm : i (m + 1) 4 = nI mm) (hm2 : mm < 2 ^ 30)
  (h0 : gCor f p q n mm 0 x0 y0 = none → ∀ i', frM m i i' → Q (some (.int 0)) T r l i')
  (h1 : ∀ x y rd, gCor f p q n mm 0 x0 y0 = some (x, y, rd) → ∀ i', frM m i i' → i' m 6 = x.toInt32 → i' m 7 = y.toInt32 → i' m 8 = nI rd → Q (some (.int 1)) T r l i') : ∀ d rd x y i1, rd + d = mm → frM m i i1 → (inB x ∧ inB y) → i1 m 6 = x.toInt32 → i1 m 7 = y.toInt32 → i1 m 8 = nI rd → gCor f p q n d rd x y = gCor f p q n mm 0 x0 y0 → G Γ MX12_corrects 0 0 51 [(0, .ref m), (1, .long x0), (3, .long y0)] [] T r l i1 Q := by
  have hM2 := hM
  obtain ⟨m0, m1, m2, m3, m4, m5, m6, m7, m8, m9, m10⟩ := hM
  intro d
  induction d with
  | zero =>
    intro rd x y i1 hk hi hin e6 e7 e8 hg
    refine G_aload_n (pc := 51) 0 dX12_corrects_51 rfl ?_
    refine G_getI (pc := 52) dX12_corrects_52 fX12_65 (by assumption) ?_
    refine G_aload_n (pc := 55) 0 dX12_corrects_55 rfl ?_
    refine G_getR (pc := 56) dX12_corrects_56 fX12_7 (by assumption) (by assumption) ?_
    refine G_iconst (pc := 59) (v := 4) dX12_corrects_59 rfl ?_
    refine G_ialdJ (pc := 60) (j := 4) dX12_corrects_60 m6 gl4 (by first | assumption | omega) (by decide) ?_
    refine G_icmp_ge (pc := 61) (tgt := 84) dX12_corrects_61 (by decide) (fun h61 => ?_) (fun h61 => ?_)
    · refine G_iconst (pc := 84) (v := 0) dX12_corrects_84 rfl ?_
      refine G_iret (pc := 85) dX12_corrects_85 ⟨_, rfl, rfl⟩ ⟨by decide, by decide⟩ ?_
      exact h0 (by rw [← hg]; rfl) i1 hi
    · exact absurd (show nI mm ≤ nI rd from nI_le (by omega) (by omega)) (by rw [e8, hi.1 (m + 1) (by omega), hm] at h61; exact h61)
  | succ d ih =>
    intro rd x y i1 hk hi hin e6 e7 e8 hg
    have e6x : (i1 m 6).toInt64 = x := by rw [e6, inB_tt hin.1]
    have e7x : (i1 m 7).toInt64 = y := by rw [e7, inB_tt hin.2]
    have hcor : gCor f p q n mm 0 x0 y0 = (if inB x ∧ inB y then (if gGG f p q n x y = 0 then none else if gSum f p q x y 0 n * gSum f p q x y 1 n / gGG f p q n x y = 0 ∧ gSum f p q x y 0 n * gSum f p q x y 2 n / gGG f p q n x y = 0 then some (x, y, rd + 1) else gCor f p q n d (rd + 1) (x - gSum f p q x y 0 n * gSum f p q x y 1 n / gGG f p q n x y) (y - gSum f p q x y 0 n * gSum f p q x y 2 n / gGG f p q n x y)) else none) := by rw [← hg, gCor]
    refine G_aload_n (pc := 51) 0 dX12_corrects_51 rfl ?_
    refine G_getI (pc := 52) dX12_corrects_52 fX12_65 (by assumption) ?_
    refine G_aload_n (pc := 55) 0 dX12_corrects_55 rfl ?_
    refine G_getR (pc := 56) dX12_corrects_56 fX12_7 (by assumption) (by assumption) ?_
    refine G_iconst (pc := 59) (v := 4) dX12_corrects_59 rfl ?_
    refine G_ialdJ (pc := 60) (j := 4) dX12_corrects_60 m6 gl4 (by first | assumption | omega) (by decide) ?_
    refine G_icmp_ge (pc := 61) (tgt := 84) dX12_corrects_61 (by decide) (fun h61 => ?_) (fun h61 => ?_)
    · exact absurd h61 (by rw [e8, hi.1 (m + 1) (by omega), hm]; exact nI_ge (by omega) (by omega))
    · skip
      refine G_aload_n 0 dX12_corrects_64 rfl ?_
      refine gV0 (k' := 0) (n' := 0) dX12_corrects_65 lkX12_72 ⟨by decide, by decide⟩ (Nat.le_of_ble_eq_true rfl) rfl rfl ⟨by decide, by decide⟩ (by assumption) (c_X12_goesRound (n := n) (f := f) (p := p) (q := q) hM2 hA (by rw [hi.1 (m + 1) (by omega)]; exact hV) ?_ ?_ ?_)
      · intro z1
        rw [e6x, e7x] at z1
        dsimp only [gRt]
        refine G_if_ne (pc := 68) (tgt := 51) dX12_corrects_68 (by decide) (fun h68 => ?_) (fun h68 => ?_)
        · exact absurd rfl h68
        · refine G_aload_n (pc := 71) 0 dX12_corrects_71 rfl ?_
          refine G_getI (pc := 72) dX12_corrects_72 fX12_65 (by assumption) ?_
          refine G_if_le (pc := 75) (tgt := 82) dX12_corrects_75 (by decide) (fun h75 => ?_) (fun h75 => ?_)
          · refine G_iconst (pc := 82) (v := 0) dX12_corrects_82 rfl ?_
            refine G_iret (pc := 83) dX12_corrects_83 ⟨_, rfl, rfl⟩ ⟨by decide, by decide⟩ ?_
            exact h0 (by rw [hcor, if_pos hin, if_pos z1]) _ (hi.put (by decide))
          · exact absurd (by rw [up2_self]; decide) h75
      · intro z1 z2
        rw [e6x, e7x] at z1 z2
        have hch : ¬ (gSum f p q x y 0 n * gSum f p q x y 1 n / gGG f p q n x y = 0 ∧ gSum f p q x y 0 n * gSum f p q x y 2 n / gGG f p q n x y = 0) := fun z => z2 (by rw [z.1, z.2, Int64.sub_zero, Int64.sub_zero]; exact hin)
        dsimp only [gRt]
        refine G_if_ne (pc := 68) (tgt := 51) dX12_corrects_68 (by decide) (fun h68 => ?_) (fun h68 => ?_)
        · exact absurd rfl h68
        · refine G_aload_n (pc := 71) 0 dX12_corrects_71 rfl ?_
          refine G_getI (pc := 72) dX12_corrects_72 fX12_65 (by assumption) ?_
          refine G_if_le (pc := 75) (tgt := 82) dX12_corrects_75 (by decide) (fun h75 => ?_) (fun h75 => ?_)
          · refine G_iconst (pc := 82) (v := 0) dX12_corrects_82 rfl ?_
            refine G_iret (pc := 83) dX12_corrects_83 ⟨_, rfl, rfl⟩ ⟨by decide, by decide⟩ ?_
            exact h0 (by rw [hcor, if_pos hin, if_neg z1, if_neg hch, gCor_out z2]) _ (hi.put (by decide))
          · exact absurd (by rw [up2_self]; decide) h75
      · intro z1 z2
        rw [e6x, e7x] at z1 z2
        rw [e6x, e7x]
        dsimp only [gRt]
        refine G_if_ne (pc := 68) (tgt := 51) dX12_corrects_68 (by decide) (fun h68 => ?_) (fun h68 => ?_)
        · have h68 := gB_ne.mp h68
          have hch : ¬ (gSum f p q x y 0 n * gSum f p q x y 1 n / gGG f p q n x y = 0 ∧ gSum f p q x y 0 n * gSum f p q x y 2 n / gGG f p q n x y = 0) := fun z => h68 (by rw [z.1, z.2, Int64.sub_zero, Int64.sub_zero]; exact ⟨rfl, rfl⟩)
          refine ih (rd + 1) _ _ _ (by omega) (((hi.put (by decide)).put (by decide)).put (by decide)) z2 ?_ ?_ ?_ ?_
          · rw [up2_row (by decide), up2_row (by decide), up2_self]
          · rw [up2_row (by decide), up2_self]
          · rw [up2_self, e8, nI_1]
          · rw [hcor, if_pos hin, if_neg z1, if_neg hch]
        · refine G_aload_n (pc := 71) 0 dX12_corrects_71 rfl ?_
          refine G_getI (pc := 72) dX12_corrects_72 fX12_65 (by assumption) ?_
          refine G_if_le (pc := 75) (tgt := 82) dX12_corrects_75 (by decide) (fun h75 => ?_) (fun h75 => ?_)
          · exact absurd h75 (by rw [up2_self, e8, nI_1]; exact nI_nle (by omega) (by omega))
          · refine G_iconst (pc := 78) (v := 1) dX12_corrects_78 rfl ?_
            refine G_goto (pc := 79) (tgt := 83) dX12_corrects_79 (by decide) ?_
            refine G_iret (pc := 83) dX12_corrects_83 ⟨_, rfl, rfl⟩ ⟨by decide, by decide⟩ ?_
            have h68 := gB_eq.mp h68
            have hch : gSum f p q x y 0 n * gSum f p q x y 1 n / gGG f p q n x y = 0 ∧ gSum f p q x y 0 n * gSum f p q x y 2 n / gGG f p q n x y = 0 := Classical.byContradiction (fun z => h68 (fun w => z (sub_eq w)))
            refine h1 x y (rd + 1) (by rw [hcor, if_pos hin, if_neg z1, if_pos hch]) _ (((hi.put (by decide)).put (by decide)).put (by decide)) ?_ ?_ ?_
            · rw [up2_row (by decide), up2_row (by decide), up2_self, hch.1, Int64.sub_zero]
            · rw [up2_row (by decide), up2_self, hch.2, Int64.sub_zero]
            · rw [up2_self, e8, nI_1]

set_option maxRecDepth 100000 in
set_option maxHeartbeats 4000000 in
theorem c_X12_corrects {Γ : gG} {T : gTy} {r : gR} {l : gLg} {i : gI} {Q : gQ} {m n mm : Nat} {x0 y0 : Int64} {f : Nat → Int32} {p q : Nat → Nat} (hM : lyM T r m) (hA : gN Γ ≤ m) (hV : mv (i (m + 1)) n f p q) (hm : i (m + 1) 4 = nI mm) (hm2 : mm < 2 ^ 30)
  (h0 : gCor f p q n mm 0 x0 y0 = none → ∀ i', frM m i i' → Q (some (.int 0)) T r l i')
  (h1 : ∀ x y rd, gCor f p q n mm 0 x0 y0 = some (x, y, rd) → ∀ i', frM m i i' → i' m 6 = x.toInt32 → i' m 7 = y.toInt32 → i' m 8 = nI rd → Q (some (.int 1)) T r l i') : gC Γ MX12_corrects [.ref m, .long x0, .long y0] T r l i Q := by
  have hM2 := hM
  obtain ⟨m0, m1, m2, m3, m4, m5, m6, m7, m8, m9, m10⟩ := hM
  refine gC_of rfl (Nat.le_of_ble_eq_true rfl) (L := [(0, .ref m), (1, .long x0), (3, .long y0)]) rfl ?_
  refine G_lload_n (pc := 0) 1 dX12_corrects_0 rfl ?_
  refine G_ldc2 (pc := 1) dX12_corrects_1 kcX12_68 ?_
  refine G_lif_lt (pc := 4) (tgt := 32) dX12_corrects_4 dX12_corrects_5 (by decide) (fun h4 => ?_) (fun h4 => ?_)
  · refine G_iconst (pc := 32) (v := 0) dX12_corrects_32 rfl ?_
    refine G_iret (pc := 33) dX12_corrects_33 ⟨_, rfl, rfl⟩ ⟨by decide, by decide⟩ ?_
    exact h0 (gCor_out (fun q => q.1.1 h4)) i frM.rfl'
  · refine G_lload_n (pc := 8) 1 dX12_corrects_8 rfl ?_
    refine G_ldc2 (pc := 9) dX12_corrects_9 kcX12_70 ?_
    refine G_lif_gt (pc := 12) (tgt := 32) dX12_corrects_12 dX12_corrects_13 (by decide) (fun h12 => ?_) (fun h12 => ?_)
    · refine G_iconst (pc := 32) (v := 0) dX12_corrects_32 rfl ?_
      refine G_iret (pc := 33) dX12_corrects_33 ⟨_, rfl, rfl⟩ ⟨by decide, by decide⟩ ?_
      exact h0 (gCor_out (fun q => q.1.2 h12)) i frM.rfl'
    · refine G_lload_n (pc := 16) 2 dX12_corrects_16 rfl ?_
      refine G_ldc2 (pc := 17) dX12_corrects_17 kcX12_68 ?_
      refine G_lif_lt (pc := 20) (tgt := 32) dX12_corrects_20 dX12_corrects_21 (by decide) (fun h20 => ?_) (fun h20 => ?_)
      · refine G_iconst (pc := 32) (v := 0) dX12_corrects_32 rfl ?_
        refine G_iret (pc := 33) dX12_corrects_33 ⟨_, rfl, rfl⟩ ⟨by decide, by decide⟩ ?_
        exact h0 (gCor_out (fun q => q.2.1 h20)) i frM.rfl'
      · refine G_lload_n (pc := 24) 2 dX12_corrects_24 rfl ?_
        refine G_ldc2 (pc := 25) dX12_corrects_25 kcX12_70 ?_
        refine G_lif_le (pc := 28) (tgt := 34) dX12_corrects_28 dX12_corrects_29 (by decide) (fun h28 => ?_) (fun h28 => ?_)
        · refine G_aload_n (pc := 34) 0 dX12_corrects_34 rfl ?_
          refine G_lload_n (pc := 35) 1 dX12_corrects_35 rfl ?_
          refine G_l2i (pc := 36) dX12_corrects_36 ?_
          refine G_putI (pc := 37) dX12_corrects_37 fX12_55 (by assumption) rfl rfl (by first | assumption | omega) ?_
          refine G_aload_n (pc := 40) 0 dX12_corrects_40 rfl ?_
          refine G_lload_n (pc := 41) 2 dX12_corrects_41 rfl ?_
          refine G_l2i (pc := 42) dX12_corrects_42 ?_
          refine G_putI (pc := 43) dX12_corrects_43 fX12_58 (by assumption) rfl rfl (by first | assumption | omega) ?_
          refine G_aload_n (pc := 46) 0 dX12_corrects_46 rfl ?_
          refine G_iconst (pc := 47) (v := 0) dX12_corrects_47 rfl ?_
          refine G_putI (pc := 48) dX12_corrects_48 fX12_65 (by assumption) rfl rfl (by first | assumption | omega) ?_
          refine lp_X12_corrects hM2 hA hV hm hm2 h0 h1 mm 0 x0 y0 _ (Nat.zero_add mm) (((frM.rfl'.put (by decide)).put (by decide)).put (by decide)) ⟨⟨h4, h12⟩, ⟨h20, Int64.not_lt.mpr h28⟩⟩ ?_ ?_ ?_ rfl
          · rw [up2_row (by decide), up2_row (by decide), up2_self]
          · rw [up2_row (by decide), up2_self]
          · rw [up2_self]; rfl
        · refine G_iconst (pc := 32) (v := 0) dX12_corrects_32 rfl ?_
          refine G_iret (pc := 33) dX12_corrects_33 ⟨_, rfl, rfl⟩ ⟨by decide, by decide⟩ ?_
          exact h0 (gCor_out (fun q => q.2.2 (Int64.not_le.mp h28))) i frM.rfl'

