/-! the corrector, and the reference's own correction -/
theorem gl0 : (0 : Int32) = nI 0 := rfl
theorem gl1 : (1 : Int32) = nI 1 := rfl
theorem gl2 : (2 : Int32) = nI 2 := rfl
theorem gl3 : (3 : Int32) = nI 3 := rfl
theorem gl4 : (4 : Int32) = nI 4 := rfl
theorem gl5 : (5 : Int32) = nI 5 := rfl
theorem gl6 : (6 : Int32) = nI 6 := rfl
theorem gl7 : (7 : Int32) = nI 7 := rfl
theorem gl8 : (8 : Int32) = nI 8 := rfl
theorem gl9 : (9 : Int32) = nI 9 := rfl
theorem gl10 : (10 : Int32) = nI 10 := rfl
theorem gl12 : (12 : Int32) = nI 12 := rfl
theorem gl23 : (23 : Int32) = nI 23 := rfl
theorem gl40 : (40 : Int32) = nI 40 := rfl
theorem gl60 : (60 : Int32) = nI 60 := rfl
theorem gl166 : (166 : Int32) = nI 166 := rfl
theorem gl853 : (853 : Int32) = nI 853 := rfl
theorem gl3412 : (3412 : Int32) = nI 3412 := rfl
theorem gl2559 : (2559 : Int32) = nI 2559 := rfl
theorem inB_tt {x : Int64} (h : inB x) : x.toInt32.toInt64 = x := by
  obtain ⟨h1, h2⟩ := h
  have g1 : -1024 ≤ x.toInt := by
    have := Int64.le_iff_toInt_le.mp (Int64.not_lt.mp h1)
    exact this
  have g2 : x.toInt ≤ 1024 := by
    have := Int64.le_iff_toInt_le.mp (Int64.not_lt.mp h2)
    exact this
  apply Int64.toInt_inj.mp
  rw [Int32.toInt_toInt64, Int64.toInt_toInt32]
  apply Int.bmod_eq_of_le <;> omega
def cr3 (i : gI) (c : Nat) (x y z : Int32) : gI := up2 (up2 (up2 i c 1 x) c 2 y) c 3 z
theorem nI_pr0 {k : Nat} (hk : k < 2 ^ 31) (h : ¬ nI k = 0) : nI k - 1 = nI (k - 1) := nI_pr (fun z => h (by rw [(nI_lt1 hk).mp z]; rfl))
/-- what a corrector needs of a state at b -/
def lyC (T : gTy) (r : gR) (b : Nat) : Prop := (T.2 b).1 = 6 ∧ r b 0 = some (b + 1) ∧ r b 2 = some (b + 34) ∧ lyT T r (b + 1) ∧ lySe T r (b + 34)
def lyCo (T : gTy) (r : gR) (c : Nat) : Prop := (T.2 c).1 = 0 ∧ r c 0 = some (c + 1) ∧ (T.2 (c + 1)).1 = 5
set_option maxRecDepth 100000 in
set_option maxHeartbeats 4000000 in
theorem lp_X0_correct {Γ : gG} {T : gTy} {r : gR} {l : gLg} {i : gI} {Q : gQ} {b c n m : Nat} {x0 y0 : Int64} {f : Nat → Int32} {p q : Nat → Nat} (hB : lyC T r b) (hC : lyCo T r c) (hA : gN Γ ≤ c) (hV : tv i (b + 1) n f p q) (hm : i (b + 35) 2 = nI m) (hm2 : m < 2 ^ 30)
  (h0 : gCor f p q n m 0 x0 y0 = none → ∀ l', (∀ d, d ≠ c + 1 → l' d = l d) → Q (some (.int 0)) T r l' i)
  (h1 : ∀ x y rd, gCor f p q n m 0 x0 y0 = some (x, y, rd) → ∀ l', (∀ d, d ≠ c + 1 → l' d = l d) → l' (c + 1) 1 = gSum f p q x y 1 n → l' (c + 1) 2 = gSum f p q x y 2 n → Q (some (.int 1)) T r l' (cr3 i c x.toInt32 y.toInt32 (nI rd))) : ∀ d rd x y l1, rd + d = m → (∀ e, e ≠ c + 1 → l1 e = l e) → gCor f p q n d rd x y = gCor f p q n m 0 x0 y0 → G Γ MX0_correct 0 0 20 [(0, .ref c), (1, .ref b), (2, .long x0), (4, .long y0), (6, .long x), (8, .long y), (10, .int (nI m)), (11, .int (nI (rd + 1)))] [] T r l1 i Q := by
  obtain ⟨b0, b1, b2, b4, b5⟩ := hB
  obtain ⟨c0, c1, b3⟩ := hC
  intro d
  induction d with
  | zero =>
    intro rd x y l1 hk hl1 hg
    refine G_iload (pc := 20) 7 dX0_correct_20 rfl ?_
    refine G_iload (pc := 22) 6 dX0_correct_22 rfl ?_
    refine G_icmp_gt (pc := 24) (tgt := 168) dX0_correct_24 (by decide) (fun h24 => ?_) (fun h24 => ?_)
    · refine G_iconst (pc := 168) (v := 0) dX0_correct_168 rfl ?_
      refine G_iret (pc := 169) dX0_correct_169 ⟨_, rfl, rfl⟩ ⟨by decide, by decide⟩ ?_
      exact h0 (by rw [← hg]; rfl) l1 hl1
    · exact absurd (nI_lt (by omega) (by omega)) h24
  | succ d ih =>
    intro rd x y l1 hk hl1 hg
    have hcor : gCor f p q n m 0 x0 y0 = (if inB x ∧ inB y then (if gGG f p q n x y = 0 then none else if gSum f p q x y 0 n * gSum f p q x y 1 n / gGG f p q n x y = 0 ∧ gSum f p q x y 0 n * gSum f p q x y 2 n / gGG f p q n x y = 0 then some (x, y, rd + 1) else gCor f p q n d (rd + 1) (x - gSum f p q x y 0 n * gSum f p q x y 1 n / gGG f p q n x y) (y - gSum f p q x y 0 n * gSum f p q x y 2 n / gGG f p q n x y)) else none) := by rw [← hg, gCor]
    refine G_iload (pc := 20) 7 dX0_correct_20 rfl ?_
    refine G_iload (pc := 22) 6 dX0_correct_22 rfl ?_
    refine G_icmp_gt (pc := 24) (tgt := 168) dX0_correct_24 (by decide) (fun h24 => ?_) (fun h24 => ?_)
    · exact absurd h24 (nI_nlt (by omega) (by omega))
    · refine G_lload (pc := 27) 4 dX0_correct_27 rfl ?_
      refine G_lload (pc := 29) 5 dX0_correct_29 rfl ?_
      refine gS2 (pc := 31) (k' := 0) (n' := 0) dX0_correct_31 lkX0_28 ⟨by decide, by decide⟩ (Nat.le_of_ble_eq_true rfl) rfl rfl ⟨by decide, by decide⟩ (c_X11_isPlace ?_)
      dsimp only [gRt]
      refine G_if_ne (pc := 34) (tgt := 39) dX0_correct_34 (by decide) (fun h34 => ?_) (fun h34 => ?_)
      · refine G_aload_n (pc := 39) 0 dX0_correct_39 rfl ?_
        refine G_getR (pc := 40) dX0_correct_40 fX0_10 (by assumption) (by assumption) ?_
        refine G_aload_n (pc := 43) 1 dX0_correct_43 rfl ?_
        refine G_getR (pc := 44) dX0_correct_44 fX0_34 (by assumption) (by assumption) ?_
        refine G_lload (pc := 47) 4 dX0_correct_47 rfl ?_
        refine G_lload (pc := 49) 5 dX0_correct_49 rfl ?_
        refine gV3 (pc := 51) (k' := 0) (n' := 0) dX0_correct_51 lkX0_38 ⟨by decide, by decide⟩ (Nat.le_of_ble_eq_true rfl) rfl rfl ⟨by decide, by decide⟩ (by assumption) (c_X5_look b3 (by omega) b4 hV ?_)
        dsimp only [gRt]
        refine G_aload_n (pc := 54) 0 dX0_correct_54 rfl ?_
        refine G_getR (pc := 55) dX0_correct_55 fX0_10 (by assumption) (by assumption) ?_
        refine gV0 (pc := 58) (k' := 0) (n' := 0) dX0_correct_58 lkX0_42 ⟨by decide, by decide⟩ (Nat.le_of_ble_eq_true rfl) rfl rfl ⟨by decide, by decide⟩ (by assumption) (c_X5_steepness b3 ?_)
        dsimp only [gRt]
        simp only [sp3_0, sp3_1, sp3_2]
        refine G_sn8 (pc := 61) (gSt_l dX0_correct_61 (by decide)) rfl ?_
        refine G_lload (pc := 63) 8 dX0_correct_63 rfl ?_
        refine G_lconst (pc := 65) (v := 0) dX0_correct_65 rfl ?_
        refine G_lif_ne (pc := 66) (tgt := 72) dX0_correct_66 dX0_correct_67 (by decide) (fun h66 => ?_) (fun h66 => ?_)
        · refine G_aload_n (pc := 72) 0 dX0_correct_72 rfl ?_
          refine G_getR (pc := 73) dX0_correct_73 fX0_10 (by assumption) (by assumption) ?_
          refine G_getL (pc := 76) dX0_correct_76 fX0_46 (by assumption) ?_
          rw [sp3_0]
          refine G_aload_n (pc := 79) 0 dX0_correct_79 rfl ?_
          refine G_getR (pc := 80) dX0_correct_80 fX0_10 (by assumption) (by assumption) ?_
          refine G_getL (pc := 83) dX0_correct_83 fX0_50 (by assumption) ?_
          rw [sp3_1]
          refine G_lmul (pc := 86) dX0_correct_86 ?_
          refine G_lload (pc := 87) 8 dX0_correct_87 rfl ?_
          refine G_ldiv (pc := 89) dX0_correct_89 h66 ?_
          refine G_sn9 (pc := 90) (gSt_l dX0_correct_90 (by decide)) rfl ?_
          refine G_aload_n (pc := 92) 0 dX0_correct_92 rfl ?_
          refine G_getR (pc := 93) dX0_correct_93 fX0_10 (by assumption) (by assumption) ?_
          refine G_getL (pc := 96) dX0_correct_96 fX0_46 (by assumption) ?_
          rw [sp3_0]
          refine G_aload_n (pc := 99) 0 dX0_correct_99 rfl ?_
          refine G_getR (pc := 100) dX0_correct_100 fX0_10 (by assumption) (by assumption) ?_
          refine G_getL (pc := 103) dX0_correct_103 fX0_53 (by assumption) ?_
          rw [sp3_2]
          refine G_lmul (pc := 106) dX0_correct_106 ?_
          refine G_lload (pc := 107) 8 dX0_correct_107 rfl ?_
          refine G_ldiv (pc := 109) dX0_correct_109 h66 ?_
          refine G_sn10 (pc := 110) (gSt_l dX0_correct_110 (by decide)) rfl ?_
          refine G_lload (pc := 112) 9 dX0_correct_112 rfl ?_
          refine G_lconst (pc := 114) (v := 0) dX0_correct_114 rfl ?_
          refine G_lif_ne (pc := 115) (tgt := 148) dX0_correct_115 dX0_correct_116 (by decide) (fun h115 => ?_) (fun h115 => ?_)
          · refine G_lload (pc := 148) 4 dX0_correct_148 rfl ?_
            refine G_lload (pc := 150) 9 dX0_correct_150 rfl ?_
            refine G_lsub (pc := 152) dX0_correct_152 ?_
            refine G_st4 (pc := 153) (gSt_l dX0_correct_153 (by decide)) rfl ?_
            refine G_lload (pc := 155) 5 dX0_correct_155 rfl ?_
            refine G_lload (pc := 157) 10 dX0_correct_157 rfl ?_
            refine G_lsub (pc := 159) dX0_correct_159 ?_
            refine G_st5 (pc := 160) (gSt_l dX0_correct_160 (by decide)) rfl ?_
            refine G_inc7 (pc := 162) (v := 1) dX0_correct_162 rfl (by decide) rfl ?_
            refine G_goto (pc := 165) (tgt := 20) dX0_correct_165 (by decide) ?_
            refine G_drop10 ?_
            refine G_drop9 ?_
            refine G_drop8 ?_
            rw [nI_1]
            refine ih (rd + 1) _ _ _ (by omega) (fun d hd => by rw [sp3_ne hd, hl1 d hd]) ?_
            rw [hcor, if_pos (gB_ne.mp h34), if_neg h66, if_neg (fun z => h115 z.1)]
          · refine G_lload (pc := 119) 10 dX0_correct_119 rfl ?_
            refine G_lconst (pc := 121) (v := 0) dX0_correct_121 rfl ?_
            refine G_lif_ne (pc := 122) (tgt := 148) dX0_correct_122 dX0_correct_123 (by decide) (fun h122 => ?_) (fun h122 => ?_)
            · refine G_lload (pc := 148) 4 dX0_correct_148 rfl ?_
              refine G_lload (pc := 150) 9 dX0_correct_150 rfl ?_
              refine G_lsub (pc := 152) dX0_correct_152 ?_
              refine G_st4 (pc := 153) (gSt_l dX0_correct_153 (by decide)) rfl ?_
              refine G_lload (pc := 155) 5 dX0_correct_155 rfl ?_
              refine G_lload (pc := 157) 10 dX0_correct_157 rfl ?_
              refine G_lsub (pc := 159) dX0_correct_159 ?_
              refine G_st5 (pc := 160) (gSt_l dX0_correct_160 (by decide)) rfl ?_
              refine G_inc7 (pc := 162) (v := 1) dX0_correct_162 rfl (by decide) rfl ?_
              refine G_goto (pc := 165) (tgt := 20) dX0_correct_165 (by decide) ?_
              refine G_drop10 ?_
              refine G_drop9 ?_
              refine G_drop8 ?_
              rw [nI_1]
              refine ih (rd + 1) _ _ _ (by omega) (fun d hd => by rw [sp3_ne hd, hl1 d hd]) ?_
              rw [hcor, if_pos (gB_ne.mp h34), if_neg h66, if_neg (fun z => h122 z.2)]
            · refine G_aload_n (pc := 126) 0 dX0_correct_126 rfl ?_
              refine G_lload (pc := 127) 4 dX0_correct_127 rfl ?_
              refine G_l2i (pc := 129) dX0_correct_129 ?_
              refine G_putI (pc := 130) dX0_correct_130 fX0_56 (by assumption) rfl rfl (by first | assumption | omega) ?_
              refine G_aload_n (pc := 133) 0 dX0_correct_133 rfl ?_
              refine G_lload (pc := 134) 5 dX0_correct_134 rfl ?_
              refine G_l2i (pc := 136) dX0_correct_136 ?_
              refine G_putI (pc := 137) dX0_correct_137 fX0_60 (by assumption) rfl rfl (by first | assumption | omega) ?_
              refine G_aload_n (pc := 140) 0 dX0_correct_140 rfl ?_
              refine G_iload (pc := 141) 7 dX0_correct_141 rfl ?_
              refine G_putI (pc := 143) dX0_correct_143 fX0_63 (by assumption) rfl rfl (by first | assumption | omega) ?_
              refine G_iconst (pc := 146) (v := 1) dX0_correct_146 rfl ?_
              refine G_iret (pc := 147) dX0_correct_147 ⟨_, rfl, rfl⟩ ⟨by decide, by decide⟩ ?_
              refine h1 x y (rd + 1) ?_ _ (fun d hd => by rw [sp3_ne hd, hl1 d hd]) sp3_1 sp3_2
              rw [hcor, if_pos (gB_ne.mp h34), if_neg h66, if_pos ⟨h115, h122⟩]
        · refine G_iconst (pc := 70) (v := 0) dX0_correct_70 rfl ?_
          refine G_iret (pc := 71) dX0_correct_71 ⟨_, rfl, rfl⟩ ⟨by decide, by decide⟩ ?_
          refine h0 ?_ _ (fun d hd => by rw [sp3_ne hd, hl1 d hd])
          rw [hcor, if_pos (gB_ne.mp h34), if_pos h66]
      · refine G_iconst (pc := 37) (v := 0) dX0_correct_37 rfl ?_
        refine G_iret (pc := 38) dX0_correct_38 ⟨_, rfl, rfl⟩ ⟨by decide, by decide⟩ ?_
        refine h0 ?_ l1 hl1
        rw [hcor, if_neg (gB_eq.mp (by assumption))]
set_option maxRecDepth 100000 in
set_option maxHeartbeats 4000000 in
theorem c_X0_correct {Γ : gG} {T : gTy} {r : gR} {l : gLg} {i : gI} {Q : gQ} {b c n m : Nat} {x0 y0 : Int64} {f : Nat → Int32} {p q : Nat → Nat} (hB : lyC T r b) (hC : lyCo T r c) (hA : gN Γ ≤ c) (hV : tv i (b + 1) n f p q) (hm : i (b + 35) 2 = nI m) (hm2 : m < 2 ^ 30)
  (h0 : gCor f p q n m 0 x0 y0 = none → ∀ l', (∀ d, d ≠ c + 1 → l' d = l d) → Q (some (.int 0)) T r l' i)
  (h1 : ∀ x y rd, gCor f p q n m 0 x0 y0 = some (x, y, rd) → ∀ l', (∀ d, d ≠ c + 1 → l' d = l d) → l' (c + 1) 1 = gSum f p q x y 1 n → l' (c + 1) 2 = gSum f p q x y 2 n → Q (some (.int 1)) T r l' (cr3 i c x.toInt32 y.toInt32 (nI rd))) : gC Γ MX0_correct [.ref c, .ref b, .long x0, .long y0] T r l i Q := by
  have hB2 := hB
  obtain ⟨b0, b1, b2, b4, b5⟩ := hB2
  refine gC_of rfl (Nat.le_of_ble_eq_true rfl) (L := [(0, .ref c), (1, .ref b), (2, .long x0), (4, .long y0)]) rfl ?_
  refine G_lload_n (pc := 0) 2 dX0_correct_0 rfl ?_
  refine G_sn4 (pc := 1) (gSt_l dX0_correct_1 (by decide)) rfl ?_
  refine G_lload (pc := 3) 3 dX0_correct_3 rfl ?_
  refine G_sn5 (pc := 5) (gSt_l dX0_correct_5 (by decide)) rfl ?_
  refine G_aload_n (pc := 7) 1 dX0_correct_7 rfl ?_
  refine G_getR (pc := 8) dX0_correct_8 fX0_16 (by assumption) (by assumption) ?_
  refine G_iconst (pc := 11) (v := 2) dX0_correct_11 rfl ?_
  refine gV1 (pc := 12) (k' := 0) (n' := 0) dX0_correct_12 lkX0_24 ⟨by decide, by decide⟩ (Nat.le_of_ble_eq_true rfl) rfl rfl ⟨by decide, by decide⟩ b5.1 (c_X4_at (j := 2) b5 (by decide) ?_)
  dsimp only [gRt]
  rw [hm]
  refine G_sn6 (pc := 15) (gSt_i dX0_correct_15 (by decide)) rfl ?_
  refine G_iconst (pc := 17) (v := 1) dX0_correct_17 rfl ?_
  refine G_sn7 (pc := 18) (gSt_i dX0_correct_18 (by decide)) rfl ?_
  exact lp_X0_correct hB hC hA hV hm hm2 h0 h1 m 0 x0 y0 l (Nat.zero_add m) (fun _ _ => rfl) rfl
def lyM (T : gTy) (r : gR) (m : Nat) : Prop := (T.2 m).1 = 12 ∧ r m 0 = some (m + 1) ∧ r m 1 = some (m + 2) ∧ r m 2 = some (m + 3) ∧ r m 4 = some (m + 4) ∧ r m 9 = some (m + 5) ∧ T.2 (m + 1) = (13, 853) ∧ T.2 (m + 2) = (13, 853) ∧ T.2 (m + 3) = (13, 3412) ∧ T.2 (m + 4) = (13, 60) ∧ T.2 (m + 5) = (13, 5)
/-- the terms of the flat state s -/
def mv (s : Nat → Int32) (n : Nat) (f : Nat → Int32) (p q : Nat → Nat) : Prop := n ≤ 6 ∧ s 0 = nI n ∧ ∀ k, k < n → s (5 + 3 * k + 0) = f k ∧ s (5 + 3 * k + 1) = nI (p k) ∧ s (5 + 3 * k + 2) = nI (q k) ∧ p k + q k ≤ 3
/-- the reference's working fields may move, all else stays -/
def frM (m : Nat) (i i' : gI) : Prop := (∀ b, b ≠ m → i' b = i b) ∧ ∀ j, j ≠ 6 → j ≠ 7 → j ≠ 8 → i' m j = i m j
theorem frM.rfl' {m : Nat} {i : gI} : frM m i i := ⟨fun _ _ => rfl, fun _ _ _ _ => rfl⟩
theorem frM.put {m j : Nat} {i i' : gI} {x : Int32} (h : frM m i i') (hj : j = 6 ∨ j = 7 ∨ j = 8) : frM m i (up2 i' m j x) := ⟨fun b hb => by rw [up2_ne hb]; exact h.1 b hb, fun q h6 h7 h8 => by rw [up2_row (by omega)]; exact h.2 q h6 h7 h8⟩
theorem gCor_out {f : Nat → Int32} {p q : Nat → Nat} {n m rd : Nat} {x y : Int64} (h : ¬ (inB x ∧ inB y)) : gCor f p q n m rd x y = none := by
  cases m with
  | zero => rfl
  | succ m => rw [gCor, if_neg h]
theorem sub_z {x d : Int64} : x - d = x ↔ d = 0 := by
  constructor
  · intro h
    have h2 : x - (x - d) = x - x := by rw [h]
    rw [Int64.sub_self] at h2
    rw [show x - (x - d) = d by rw [Int64.sub_eq_add_neg, Int64.neg_sub, Int64.add_comm, Int64.sub_add_cancel]] at h2
    exact h2
  · intro h; rw [h, Int64.sub_zero]
theorem sub_eq {x y d e : Int64} (h : x - d = x ∧ y - e = y) : d = 0 ∧ e = 0 := ⟨sub_z.mp h.1, sub_z.mp h.2⟩
