/-! meets -/
/-- what stands with y to the power e -/
def gCo (f : Nat → Int32) (p q : Nat → Nat) (x : Int64) (e : Nat) : Nat → Int64
  | 0 => 0
  | k + 1 => if q k = e then gCo f p q x e k + (f k).toInt64 * gPow x (p k) * gPow 256 (3 - p k - q k) else gCo f p q x e k
theorem ho0 {a b c d y u : Int64} : a + y * (b + y * (c + y * d)) + u * 1 = a + u + y * (b + y * (c + y * d)) := by
  rw [Int64.mul_one, Int64.add_assoc, Int64.add_assoc, Int64.add_comm u]
theorem ho_l {a y b u : Int64} : a + y * b + u * y = a + y * (b + u) := by
  rw [Int64.mul_add, Int64.add_assoc, Int64.mul_comm u y]
theorem gSum_H {f : Nat → Int32} {p q : Nat → Nat} {x y : Int64} : ∀ n, (∀ k, k < n → q k ≤ 3) → gSum f p q x y 0 n = gCo f p q x 0 n + y * (gCo f p q x 1 n + y * (gCo f p q x 2 n + y * gCo f p q x 3 n))
  | 0, _ => by
    show (0 : Int64) = 0 + y * (0 + y * (0 + y * 0))
    simp only [Int64.mul_zero, Int64.add_zero]
  | n + 1, h => by
    have ih := gSum_H (f := f) (p := p) (q := q) (x := x) (y := y) n (fun k hk => h k (by omega))
    have hq := h n (by omega)
    have ev : gvn f p q x y 0 n = (f n).toInt64 * gPow x (p n) * gPow 256 (3 - p n - q n) * gPow y (q n) := by
      show (f n).toInt64 * gPow 256 (3 - p n - q n) * gPow x (p n) * gPow y (q n) = _
      rw [Int64.mul_assoc (f n).toInt64, Int64.mul_comm (gPow 256 _) (gPow x _), ← Int64.mul_assoc (f n).toInt64]
    rw [gSum, ih, ev]
    simp only [gCo]
    generalize (f n).toInt64 * gPow x (p n) * gPow 256 (3 - p n - q n) = u
    rcases (show q n = 0 ∨ q n = 1 ∨ q n = 2 ∨ q n = 3 by omega) with e | e | e | e
    · simp only [e, if_pos, show ¬ (0 : Nat) = 1 by decide, show ¬ (0 : Nat) = 2 by decide, show ¬ (0 : Nat) = 3 by decide, if_false, gPow]
      exact ho0
    · simp only [e, if_pos, show ¬ (1 : Nat) = 0 by decide, show ¬ (1 : Nat) = 2 by decide, show ¬ (1 : Nat) = 3 by decide, if_false, gPow]
      rw [Int64.one_mul, ho_l, Int64.add_assoc (gCo f p q x 1 n), Int64.add_comm _ u, ← Int64.add_assoc (gCo f p q x 1 n)]
    · simp only [e, if_pos, show ¬ (2 : Nat) = 0 by decide, show ¬ (2 : Nat) = 1 by decide, show ¬ (2 : Nat) = 3 by decide, if_false, gPow]
      rw [Int64.one_mul, ← Int64.mul_assoc u, ho_l, ho_l, Int64.add_assoc (gCo f p q x 2 n), Int64.add_comm _ u, ← Int64.add_assoc (gCo f p q x 2 n)]
    · simp only [e, if_pos, show ¬ (3 : Nat) = 0 by decide, show ¬ (3 : Nat) = 1 by decide, show ¬ (3 : Nat) = 2 by decide, if_false, gPow]
      rw [Int64.one_mul, ← Int64.mul_assoc u, ← Int64.mul_assoc u, ho_l, ho_l, ho_l]
theorem mtY_inc {t : Nat} (h : t ≤ 2049) : (nI t - 1024).toInt64 + 1 = (nI (t + 1) - 1024).toInt64 := by
  have e : ∀ k, k ≤ 2050 → (nI k - 1024).toInt = (k : Int) - 1024 := fun k hk => by
    rw [Int32.toInt_sub, nI_toInt (by omega), show (1024 : Int32).toInt = 1024 by decide, bmod_i (by omega)]
  apply Int64.toInt_inj.mp
  rw [Int64.toInt_add, Int32.toInt_toInt64, Int32.toInt_toInt64, e t (by omega), e (t + 1) (by omega), show (1 : Int64).toInt = 1 by decide, bmod_id (by omega)]
  omega
theorem mtY_lt {t : Nat} (h : t < 2049) : ¬ (1024 : Int64) < (nI t - 1024).toInt64 := by
  intro z
  have := Int64.lt_iff_toInt_lt.mp z
  rw [Int32.toInt_toInt64] at this
  have h2 := mt_lt h
  rw [Int32.lt_iff_toInt_lt] at h2
  exact h2 this
set_option maxRecDepth 100000 in
set_option maxHeartbeats 4000000 in
theorem lp_X7_coefficient {Γ : gG} {T : gTy} {r : gR} {l : gLg} {i : gI} {Q : gQ} {a n e : Nat} {x : Int64} {f : Nat → Int32} {p q : Nat → Nat} (hL : lyT T r a) (hV : tv i a n f p q) (he : e < 4) (hQ : Q (some (.long (gCo f p q x e n))) T r l i) : ∀ d k, k + d = n → G Γ MX7_coefficient 0 0 6 [(0, .ref a), (1, .long x), (3, .int (nI e)), (4, .long (gCo f p q x e k)), (6, .int (nI k))] [] T r l i Q := by
  have hL2 := hL
  have hV2 := hV
  obtain ⟨t0, t1, t2, t3, t4, t5, t6⟩ := hL
  obtain ⟨v1, v2, v3⟩ := hV
  intro d
  induction d with
  | zero =>
    intro k hk
    obtain rfl : k = n := by omega
    refine G_iload (pc := 6) 4 dX7_coefficient_6 rfl ?_
    refine G_aload_n (pc := 8) 0 dX7_coefficient_8 rfl ?_
    refine G_getI (pc := 9) dX7_coefficient_9 fX7_21 (by assumption) ?_
    refine G_icmp_ge (pc := 12) (tgt := 64) dX7_coefficient_12 (by decide) (fun h12 => ?_) (fun h12 => ?_)
    · refine G_lload (pc := 64) 3 dX7_coefficient_64 rfl ?_
      refine G_lret (pc := 66) dX7_coefficient_66 rfl ⟨by decide, by decide⟩ ?_
      exact hQ
    · exact absurd (by rw [v2]; exact Int32.le_refl _) h12
  | succ d ih =>
    intro k hk
    obtain ⟨g1, g2, g3, g4⟩ := v3 k (by omega)
    refine G_iload (pc := 6) 4 dX7_coefficient_6 rfl ?_
    refine G_aload_n (pc := 8) 0 dX7_coefficient_8 rfl ?_
    refine G_getI (pc := 9) dX7_coefficient_9 fX7_21 (by assumption) ?_
    refine G_icmp_ge (pc := 12) (tgt := 64) dX7_coefficient_12 (by decide) (fun h12 => ?_) (fun h12 => ?_)
    · exact absurd h12 (by rw [v2]; exact nI_ge (by omega) (by omega))
    · refine G_aload_n (pc := 15) 0 dX7_coefficient_15 rfl ?_
      refine G_getR (pc := 16) dX7_coefficient_16 fX7_18 (by assumption) (by assumption) ?_
      refine G_iload (pc := 19) 4 dX7_coefficient_19 rfl ?_
      refine G_ialdJ (pc := 21) (j := k) dX7_coefficient_21 (by assumption) rfl (by first | assumption | omega) (by decide) ?_
      rw [g3]
      refine G_iload_n (pc := 22) 2 dX7_coefficient_22 rfl ?_
      refine G_icmp_ne (pc := 23) (tgt := 58) dX7_coefficient_23 (by decide) (fun h23 => ?_) (fun h23 => ?_)
      · refine G_inc4 (pc := 58) (v := 1) dX7_coefficient_58 rfl (by decide) rfl ?_
        refine G_goto (pc := 61) (tgt := 6) dX7_coefficient_61 (by decide) ?_
        have hne : ¬ q k = e := fun z => h23 (by rw [z])
        rw [nI_1]
        have h := ih (k + 1) (by omega)
        rw [gCo, if_neg hne] at h
        exact h
      · refine G_lload (pc := 26) 3 dX7_coefficient_26 rfl ?_
        refine G_aload_n (pc := 28) 0 dX7_coefficient_28 rfl ?_
        refine G_getR (pc := 29) dX7_coefficient_29 fX7_9 (by assumption) (by assumption) ?_
        refine G_iload (pc := 32) 4 dX7_coefficient_32 rfl ?_
        refine G_ialdJ (pc := 34) (j := k) dX7_coefficient_34 (by assumption) rfl (by first | assumption | omega) (by decide) ?_
        rw [g1]
        refine G_i2l (pc := 35) dX7_coefficient_35 ?_
        refine G_lload_n (pc := 36) 1 dX7_coefficient_36 rfl ?_
        refine G_aload_n (pc := 37) 0 dX7_coefficient_37 rfl ?_
        refine G_getR (pc := 38) dX7_coefficient_38 fX7_15 (by assumption) (by assumption) ?_
        refine G_iload (pc := 41) 4 dX7_coefficient_41 rfl ?_
        refine G_ialdJ (pc := 43) (j := k) dX7_coefficient_43 (by assumption) rfl (by first | assumption | omega) (by decide) ?_
        rw [g2]
        refine gS2 (pc := 44) (k' := 0) (n' := 0) dX7_coefficient_44 lkX7_33 ⟨by decide, by decide⟩ (Nat.le_of_ble_eq_true rfl) rfl rfl ⟨by decide, by decide⟩ (c_X11_power (by omega) ?_)
        dsimp only [gRt]
        refine G_lmul (pc := 47) dX7_coefficient_47 ?_
        refine G_aload_n (pc := 48) 0 dX7_coefficient_48 rfl ?_
        refine G_iload (pc := 49) 4 dX7_coefficient_49 rfl ?_
        refine gV1 (pc := 51) (k' := 0) (n' := 0) dX7_coefficient_51 lkX7_37 ⟨by decide, by decide⟩ (Nat.le_of_ble_eq_true rfl) rfl rfl ⟨by decide, by decide⟩ t0 (c_X7_scale hL2 hV2 (by omega) ?_)
        dsimp only [gRt]
        refine G_lmul (pc := 54) dX7_coefficient_54 ?_
        refine G_ladd (pc := 55) dX7_coefficient_55 ?_
        refine G_st3 (pc := 56) (gSt_l dX7_coefficient_56 (by decide)) rfl ?_
        refine G_inc4 (pc := 58) (v := 1) dX7_coefficient_58 rfl (by decide) rfl ?_
        refine G_goto (pc := 61) (tgt := 6) dX7_coefficient_61 (by decide) ?_
        have heq : q k = e := (nI_eq (by omega) (by omega)).mp h23
        rw [nI_1]
        have h := ih (k + 1) (by omega)
        rw [gCo, if_pos heq] at h
        exact h

set_option maxRecDepth 100000 in
set_option maxHeartbeats 4000000 in
theorem c_X7_coefficient {Γ : gG} {T : gTy} {r : gR} {l : gLg} {i : gI} {Q : gQ} {a n e : Nat} {x : Int64} {f : Nat → Int32} {p q : Nat → Nat} (hL : lyT T r a) (hV : tv i a n f p q) (he : e < 4) (hQ : Q (some (.long (gCo f p q x e n))) T r l i) : gC Γ MX7_coefficient [.ref a, .long x, .int (nI e)] T r l i Q := by
  refine gC_of rfl (Nat.le_of_ble_eq_true rfl) (L := [(0, .ref a), (1, .long x), (3, .int (nI e))]) rfl ?_
  refine G_lconst (pc := 0) (v := 0) dX7_coefficient_0 rfl ?_
  refine G_sn3 (pc := 1) (gSt_l dX7_coefficient_1 (by decide)) rfl ?_
  refine G_iconst (pc := 3) (v := 0) dX7_coefficient_3 rfl ?_
  refine G_sn4 (pc := 4) (gSt_i dX7_coefficient_4 (by decide)) rfl ?_
  exact lp_X7_coefficient hL hV he hQ n 0 (Nat.zero_add n)

set_option maxRecDepth 100000 in
set_option maxHeartbeats 4000000 in
theorem lp_X11_meets {Γ : gG} {T : gTy} {r : gR} {l : gLg} {i : gI} {Q : gQ} {x : Nat} {w : Int32} {c0 c1 c2 c3 : Int64} {F : Nat → Int64} (hF : ∀ t, c0 + (nI t - 1024).toInt64 * (c1 + (nI t - 1024).toInt64 * (c2 + (nI t - 1024).toInt64 * c3)) = F t) (hQ : Q (some (.int (mtR F 2049).1)) T r l i) : ∀ d t, t + d = 2049 → G Γ MX11_meets 0 0 87 [(0, .ref x), (1, .int w), (2, .long c0), (4, .long c1), (6, .long c2), (8, .long c3), (10, .int (mtR F t).1), (11, .int (mtR F t).2), (12, .long (nI t - 1024).toInt64)] [] T r l i Q := by
  intro d
  induction d with
  | zero =>
    intro t ht
    obtain rfl : t = 2049 := by omega
    refine G_lload (pc := 87) 8 dX11_meets_87 rfl ?_
    refine G_ldc2 (pc := 89) dX11_meets_89 kcX11_264 ?_
    refine G_lif_gt (pc := 92) (tgt := 171) dX11_meets_92 dX11_meets_93 (by decide) (fun h92 => ?_) (fun h92 => ?_)
    · refine G_iload (pc := 171) 6 dX11_meets_171 rfl ?_
      refine G_iret (pc := 173) dX11_meets_173 ⟨_, rfl, rfl⟩ ⟨by decide, by decide⟩ ?_
      exact hQ
    · exact absurd (by decide +kernel) h92
  | succ d ih =>
    intro t ht
    refine G_lload (pc := 87) 8 dX11_meets_87 rfl ?_
    refine G_ldc2 (pc := 89) dX11_meets_89 kcX11_264 ?_
    refine G_lif_gt (pc := 92) (tgt := 171) dX11_meets_92 dX11_meets_93 (by decide) (fun h92 => ?_) (fun h92 => ?_)
    · exact absurd h92 (mtY_lt (by omega))
    · refine G_lload_n (pc := 96) 2 dX11_meets_96 rfl ?_
      refine G_lload (pc := 97) 8 dX11_meets_97 rfl ?_
      refine G_lload (pc := 99) 3 dX11_meets_99 rfl ?_
      refine G_lload (pc := 101) 8 dX11_meets_101 rfl ?_
      refine G_lload (pc := 103) 4 dX11_meets_103 rfl ?_
      refine G_lload (pc := 105) 8 dX11_meets_105 rfl ?_
      refine G_lload (pc := 107) 5 dX11_meets_107 rfl ?_
      refine G_lmul (pc := 109) dX11_meets_109 ?_
      refine G_ladd (pc := 110) dX11_meets_110 ?_
      refine G_lmul (pc := 111) dX11_meets_111 ?_
      refine G_ladd (pc := 112) dX11_meets_112 ?_
      refine G_lmul (pc := 113) dX11_meets_113 ?_
      refine G_ladd (pc := 114) dX11_meets_114 ?_
      rw [hF t]
      refine G_sn9 (pc := 115) (gSt_l dX11_meets_115 (by decide)) rfl ?_
      refine G_lload (pc := 117) 9 dX11_meets_117 rfl ?_
      refine G_lconst (pc := 119) (v := 0) dX11_meets_119 rfl ?_
      refine G_lif_le (pc := 120) (tgt := 128) dX11_meets_120 dX11_meets_121 (by decide) (fun h120 => ?_) (fun h120 => ?_)
      · refine G_lload (pc := 128) 9 dX11_meets_128 rfl ?_
        refine G_lconst (pc := 130) (v := 0) dX11_meets_130 rfl ?_
        refine G_lif_ge (pc := 131) (tgt := 139) dX11_meets_131 dX11_meets_132 (by decide) (fun h131 => ?_) (fun h131 => ?_)
        · refine G_iconst (pc := 139) (v := 0) dX11_meets_139 rfl ?_
          have es : mtS (F t) = 0 := (if_neg (Int64.not_lt.mpr h120)).trans (if_neg (Int64.not_lt.mpr h131))
          rw [← es]
          refine G_sn10 (pc := 140) (gSt_i dX11_meets_140 (by decide)) rfl ?_
          refine G_iload (pc := 142) 10 dX11_meets_142 rfl ?_
          refine G_iload (pc := 144) 7 dX11_meets_144 rfl ?_
          refine G_imul (pc := 146) dX11_meets_146 ?_
          refine G_if_ge (pc := 147) (tgt := 153) dX11_meets_147 (by decide) (fun h147 => ?_) (fun h147 => ?_)
          · refine G_iload (pc := 153) 10 dX11_meets_153 rfl ?_
            refine G_if_eq (pc := 155) (tgt := 162) dX11_meets_155 (by decide) (fun h155 => ?_) (fun h155 => ?_)
            · refine G_lload (pc := 162) 8 dX11_meets_162 rfl ?_
              refine G_lconst (pc := 164) (v := 1) dX11_meets_164 rfl ?_
              refine G_ladd (pc := 165) dX11_meets_165 ?_
              refine G_st8 (pc := 166) (gSt_l dX11_meets_166 (by decide)) rfl ?_
              refine G_goto (pc := 168) (tgt := 87) dX11_meets_168 (by decide) ?_
              refine G_drop10 ?_
              refine G_drop9 ?_
              have e1 : (mtR F (t + 1)).1 = (mtR F t).1 := by rw [mtR, if_neg (Int32.not_lt.mpr h147)]; exact Int32.add_zero _
              have e2 : (mtR F (t + 1)).2 = (mtR F t).2 := by rw [mtR, if_pos h155]
              rw [mtY_inc (by omega), ← e1, ← e2]
              exact ih (t + 1) (by omega)
            · refine G_iload (pc := 158) 10 dX11_meets_158 rfl ?_
              refine G_st7 (pc := 160) (gSt_i dX11_meets_160 (by decide)) rfl ?_
              refine G_lload (pc := 162) 8 dX11_meets_162 rfl ?_
              refine G_lconst (pc := 164) (v := 1) dX11_meets_164 rfl ?_
              refine G_ladd (pc := 165) dX11_meets_165 ?_
              refine G_st8 (pc := 166) (gSt_l dX11_meets_166 (by decide)) rfl ?_
              refine G_goto (pc := 168) (tgt := 87) dX11_meets_168 (by decide) ?_
              refine G_drop10 ?_
              refine G_drop9 ?_
              have e1 : (mtR F (t + 1)).1 = (mtR F t).1 := by rw [mtR, if_neg (Int32.not_lt.mpr h147)]; exact Int32.add_zero _
              have e2 : (mtR F (t + 1)).2 = mtS (F t) := by rw [mtR, if_neg h155]
              rw [mtY_inc (by omega), ← e1, ← e2]
              exact ih (t + 1) (by omega)
          · refine G_inc6 (pc := 150) (v := 1) dX11_meets_150 rfl (by decide) rfl ?_
            refine G_iload (pc := 153) 10 dX11_meets_153 rfl ?_
            refine G_if_eq (pc := 155) (tgt := 162) dX11_meets_155 (by decide) (fun h155 => ?_) (fun h155 => ?_)
            · refine G_lload (pc := 162) 8 dX11_meets_162 rfl ?_
              refine G_lconst (pc := 164) (v := 1) dX11_meets_164 rfl ?_
              refine G_ladd (pc := 165) dX11_meets_165 ?_
              refine G_st8 (pc := 166) (gSt_l dX11_meets_166 (by decide)) rfl ?_
              refine G_goto (pc := 168) (tgt := 87) dX11_meets_168 (by decide) ?_
              refine G_drop10 ?_
              refine G_drop9 ?_
              have e1 : (mtR F (t + 1)).1 = (mtR F t).1 + 1 := by rw [mtR, if_pos (Int32.not_le.mp h147)]
              have e2 : (mtR F (t + 1)).2 = (mtR F t).2 := by rw [mtR, if_pos h155]
              rw [mtY_inc (by omega), ← e1, ← e2]
              exact ih (t + 1) (by omega)
            · refine G_iload (pc := 158) 10 dX11_meets_158 rfl ?_
              refine G_st7 (pc := 160) (gSt_i dX11_meets_160 (by decide)) rfl ?_
              refine G_lload (pc := 162) 8 dX11_meets_162 rfl ?_
              refine G_lconst (pc := 164) (v := 1) dX11_meets_164 rfl ?_
              refine G_ladd (pc := 165) dX11_meets_165 ?_
              refine G_st8 (pc := 166) (gSt_l dX11_meets_166 (by decide)) rfl ?_
              refine G_goto (pc := 168) (tgt := 87) dX11_meets_168 (by decide) ?_
              refine G_drop10 ?_
              refine G_drop9 ?_
              have e1 : (mtR F (t + 1)).1 = (mtR F t).1 + 1 := by rw [mtR, if_pos (Int32.not_le.mp h147)]
              have e2 : (mtR F (t + 1)).2 = mtS (F t) := by rw [mtR, if_neg h155]
              rw [mtY_inc (by omega), ← e1, ← e2]
              exact ih (t + 1) (by omega)
        · refine G_iconst (pc := 135) (v := (-1)) dX11_meets_135 rfl ?_
          refine G_goto (pc := 136) (tgt := 140) dX11_meets_136 (by decide) ?_
          have es : mtS (F t) = (-1) := (if_neg (Int64.not_lt.mpr h120)).trans (if_pos (Int64.not_le.mp h131))
          rw [← es]
          refine G_sn10 (pc := 140) (gSt_i dX11_meets_140 (by decide)) rfl ?_
          refine G_iload (pc := 142) 10 dX11_meets_142 rfl ?_
          refine G_iload (pc := 144) 7 dX11_meets_144 rfl ?_
          refine G_imul (pc := 146) dX11_meets_146 ?_
          refine G_if_ge (pc := 147) (tgt := 153) dX11_meets_147 (by decide) (fun h147 => ?_) (fun h147 => ?_)
          · refine G_iload (pc := 153) 10 dX11_meets_153 rfl ?_
            refine G_if_eq (pc := 155) (tgt := 162) dX11_meets_155 (by decide) (fun h155 => ?_) (fun h155 => ?_)
            · refine G_lload (pc := 162) 8 dX11_meets_162 rfl ?_
              refine G_lconst (pc := 164) (v := 1) dX11_meets_164 rfl ?_
              refine G_ladd (pc := 165) dX11_meets_165 ?_
              refine G_st8 (pc := 166) (gSt_l dX11_meets_166 (by decide)) rfl ?_
              refine G_goto (pc := 168) (tgt := 87) dX11_meets_168 (by decide) ?_
              refine G_drop10 ?_
              refine G_drop9 ?_
              have e1 : (mtR F (t + 1)).1 = (mtR F t).1 := by rw [mtR, if_neg (Int32.not_lt.mpr h147)]; exact Int32.add_zero _
              have e2 : (mtR F (t + 1)).2 = (mtR F t).2 := by rw [mtR, if_pos h155]
              rw [mtY_inc (by omega), ← e1, ← e2]
              exact ih (t + 1) (by omega)
            · refine G_iload (pc := 158) 10 dX11_meets_158 rfl ?_
              refine G_st7 (pc := 160) (gSt_i dX11_meets_160 (by decide)) rfl ?_
              refine G_lload (pc := 162) 8 dX11_meets_162 rfl ?_
              refine G_lconst (pc := 164) (v := 1) dX11_meets_164 rfl ?_
              refine G_ladd (pc := 165) dX11_meets_165 ?_
              refine G_st8 (pc := 166) (gSt_l dX11_meets_166 (by decide)) rfl ?_
              refine G_goto (pc := 168) (tgt := 87) dX11_meets_168 (by decide) ?_
              refine G_drop10 ?_
              refine G_drop9 ?_
              have e1 : (mtR F (t + 1)).1 = (mtR F t).1 := by rw [mtR, if_neg (Int32.not_lt.mpr h147)]; exact Int32.add_zero _
              have e2 : (mtR F (t + 1)).2 = mtS (F t) := by rw [mtR, if_neg h155]
              rw [mtY_inc (by omega), ← e1, ← e2]
              exact ih (t + 1) (by omega)
          · refine G_inc6 (pc := 150) (v := 1) dX11_meets_150 rfl (by decide) rfl ?_
            refine G_iload (pc := 153) 10 dX11_meets_153 rfl ?_
            refine G_if_eq (pc := 155) (tgt := 162) dX11_meets_155 (by decide) (fun h155 => ?_) (fun h155 => ?_)
            · refine G_lload (pc := 162) 8 dX11_meets_162 rfl ?_
              refine G_lconst (pc := 164) (v := 1) dX11_meets_164 rfl ?_
              refine G_ladd (pc := 165) dX11_meets_165 ?_
              refine G_st8 (pc := 166) (gSt_l dX11_meets_166 (by decide)) rfl ?_
              refine G_goto (pc := 168) (tgt := 87) dX11_meets_168 (by decide) ?_
              refine G_drop10 ?_
              refine G_drop9 ?_
              have e1 : (mtR F (t + 1)).1 = (mtR F t).1 + 1 := by rw [mtR, if_pos (Int32.not_le.mp h147)]
              have e2 : (mtR F (t + 1)).2 = (mtR F t).2 := by rw [mtR, if_pos h155]
              rw [mtY_inc (by omega), ← e1, ← e2]
              exact ih (t + 1) (by omega)
            · refine G_iload (pc := 158) 10 dX11_meets_158 rfl ?_
              refine G_st7 (pc := 160) (gSt_i dX11_meets_160 (by decide)) rfl ?_
              refine G_lload (pc := 162) 8 dX11_meets_162 rfl ?_
              refine G_lconst (pc := 164) (v := 1) dX11_meets_164 rfl ?_
              refine G_ladd (pc := 165) dX11_meets_165 ?_
              refine G_st8 (pc := 166) (gSt_l dX11_meets_166 (by decide)) rfl ?_
              refine G_goto (pc := 168) (tgt := 87) dX11_meets_168 (by decide) ?_
              refine G_drop10 ?_
              refine G_drop9 ?_
              have e1 : (mtR F (t + 1)).1 = (mtR F t).1 + 1 := by rw [mtR, if_pos (Int32.not_le.mp h147)]
              have e2 : (mtR F (t + 1)).2 = mtS (F t) := by rw [mtR, if_neg h155]
              rw [mtY_inc (by omega), ← e1, ← e2]
              exact ih (t + 1) (by omega)
      · refine G_iconst (pc := 124) (v := 1) dX11_meets_124 rfl ?_
        refine G_goto (pc := 125) (tgt := 140) dX11_meets_125 (by decide) ?_
        have es : mtS (F t) = 1 := if_pos (Int64.not_le.mp h120)
        rw [← es]
        refine G_sn10 (pc := 140) (gSt_i dX11_meets_140 (by decide)) rfl ?_
        refine G_iload (pc := 142) 10 dX11_meets_142 rfl ?_
        refine G_iload (pc := 144) 7 dX11_meets_144 rfl ?_
        refine G_imul (pc := 146) dX11_meets_146 ?_
        refine G_if_ge (pc := 147) (tgt := 153) dX11_meets_147 (by decide) (fun h147 => ?_) (fun h147 => ?_)
        · refine G_iload (pc := 153) 10 dX11_meets_153 rfl ?_
          refine G_if_eq (pc := 155) (tgt := 162) dX11_meets_155 (by decide) (fun h155 => ?_) (fun h155 => ?_)
          · refine G_lload (pc := 162) 8 dX11_meets_162 rfl ?_
            refine G_lconst (pc := 164) (v := 1) dX11_meets_164 rfl ?_
            refine G_ladd (pc := 165) dX11_meets_165 ?_
            refine G_st8 (pc := 166) (gSt_l dX11_meets_166 (by decide)) rfl ?_
            refine G_goto (pc := 168) (tgt := 87) dX11_meets_168 (by decide) ?_
            refine G_drop10 ?_
            refine G_drop9 ?_
            have e1 : (mtR F (t + 1)).1 = (mtR F t).1 := by rw [mtR, if_neg (Int32.not_lt.mpr h147)]; exact Int32.add_zero _
            have e2 : (mtR F (t + 1)).2 = (mtR F t).2 := by rw [mtR, if_pos h155]
            rw [mtY_inc (by omega), ← e1, ← e2]
            exact ih (t + 1) (by omega)
          · refine G_iload (pc := 158) 10 dX11_meets_158 rfl ?_
            refine G_st7 (pc := 160) (gSt_i dX11_meets_160 (by decide)) rfl ?_
            refine G_lload (pc := 162) 8 dX11_meets_162 rfl ?_
            refine G_lconst (pc := 164) (v := 1) dX11_meets_164 rfl ?_
            refine G_ladd (pc := 165) dX11_meets_165 ?_
            refine G_st8 (pc := 166) (gSt_l dX11_meets_166 (by decide)) rfl ?_
            refine G_goto (pc := 168) (tgt := 87) dX11_meets_168 (by decide) ?_
            refine G_drop10 ?_
            refine G_drop9 ?_
            have e1 : (mtR F (t + 1)).1 = (mtR F t).1 := by rw [mtR, if_neg (Int32.not_lt.mpr h147)]; exact Int32.add_zero _
            have e2 : (mtR F (t + 1)).2 = mtS (F t) := by rw [mtR, if_neg h155]
            rw [mtY_inc (by omega), ← e1, ← e2]
            exact ih (t + 1) (by omega)
        · refine G_inc6 (pc := 150) (v := 1) dX11_meets_150 rfl (by decide) rfl ?_
          refine G_iload (pc := 153) 10 dX11_meets_153 rfl ?_
          refine G_if_eq (pc := 155) (tgt := 162) dX11_meets_155 (by decide) (fun h155 => ?_) (fun h155 => ?_)
          · refine G_lload (pc := 162) 8 dX11_meets_162 rfl ?_
            refine G_lconst (pc := 164) (v := 1) dX11_meets_164 rfl ?_
            refine G_ladd (pc := 165) dX11_meets_165 ?_
            refine G_st8 (pc := 166) (gSt_l dX11_meets_166 (by decide)) rfl ?_
            refine G_goto (pc := 168) (tgt := 87) dX11_meets_168 (by decide) ?_
            refine G_drop10 ?_
            refine G_drop9 ?_
            have e1 : (mtR F (t + 1)).1 = (mtR F t).1 + 1 := by rw [mtR, if_pos (Int32.not_le.mp h147)]
            have e2 : (mtR F (t + 1)).2 = (mtR F t).2 := by rw [mtR, if_pos h155]
            rw [mtY_inc (by omega), ← e1, ← e2]
            exact ih (t + 1) (by omega)
          · refine G_iload (pc := 158) 10 dX11_meets_158 rfl ?_
            refine G_st7 (pc := 160) (gSt_i dX11_meets_160 (by decide)) rfl ?_
            refine G_lload (pc := 162) 8 dX11_meets_162 rfl ?_
            refine G_lconst (pc := 164) (v := 1) dX11_meets_164 rfl ?_
            refine G_ladd (pc := 165) dX11_meets_165 ?_
            refine G_st8 (pc := 166) (gSt_l dX11_meets_166 (by decide)) rfl ?_
            refine G_goto (pc := 168) (tgt := 87) dX11_meets_168 (by decide) ?_
            refine G_drop10 ?_
            refine G_drop9 ?_
            have e1 : (mtR F (t + 1)).1 = (mtR F t).1 + 1 := by rw [mtR, if_pos (Int32.not_le.mp h147)]
            have e2 : (mtR F (t + 1)).2 = mtS (F t) := by rw [mtR, if_neg h155]
            rw [mtY_inc (by omega), ← e1, ← e2]
            exact ih (t + 1) (by omega)

theorem wiB {x : Int32} : (¬ x.toInt64 < -1024 ∧ ¬ 1024 < x.toInt64) ↔ inI x (-1024) 1024 := by
  have h := wi (x := x) (a := -1024) (b := 1024)
  rw [show (-1024 : Int32).toInt64 = -1024 by decide +kernel, show (1024 : Int32).toInt64 = 1024 by decide +kernel] at h
  exact h
set_option maxRecDepth 100000 in
set_option maxHeartbeats 4000000 in
theorem c_X11_meets {Γ : gG} {T : gTy} {r : gR} {l : gLg} {i : gI} {Q : gQ} {x : Nat} {ws : Nat → Nat} {hs : Nat → Nat → Nat} {S : Nat → Int32} {w : Int32} (hX : lyX T r x ws hs) (hA : gN Γ ≤ x) (hR : rpSt i (x + 1) ws S) (hS : vS S) (hQ : Q (some (.int (aMeets S w))) T r l i) : gC Γ MX11_meets [.ref x, .int w] T r l i Q := by
  obtain ⟨x0, x1, x2, x3, x4, x5, x6, x7, x8, x9, x10⟩ := hX
  obtain ⟨s0, s1, s2, s3, s4, s5, s6⟩ := id x6
  obtain ⟨t0, t1, t2, t3, t4, t5, t6⟩ := id s4
  obtain ⟨f1, f2, f3, f4⟩ := stF hR hS
  have hT := hS.1
  have hE := hS.2.1
  have hn6 := hT.1.1
  have hn3 := f1.2.1
  obtain ⟨w5, w1, wk⟩ := nW_of hS
  refine gC_of rfl (Nat.le_of_ble_eq_true rfl) (L := [(0, .ref x), (1, .int w)]) rfl ?_
  refine G_iload_n (pc := 0) 1 dX11_meets_0 rfl ?_
  refine G_i2l (pc := 1) dX11_meets_1 ?_
  refine G_ldc2 (pc := 2) dX11_meets_2 kcX11_262 ?_
  refine G_ldc2 (pc := 5) dX11_meets_5 kcX11_264 ?_
  refine gS3 (pc := 8) (k' := 0) (n' := 0) dX11_meets_8 lkX11_48 ⟨by decide, by decide⟩ (Nat.le_of_ble_eq_true rfl) rfl rfl ⟨by decide, by decide⟩ (c_X11_isWithin ?_)
  dsimp only [gRt]
  refine G_if_ne (pc := 11) (tgt := 17) dX11_meets_11 (by decide) (fun h11 => ?_) (fun h11 => ?_)
  · refine G_aload_n (pc := 17) 0 dX11_meets_17 rfl ?_
    refine G_getR (pc := 18) dX11_meets_18 fX11_10 (by assumption) (by assumption) ?_
    refine G_getR (pc := 21) dX11_meets_21 fX11_55 (by assumption) (by assumption) ?_
    refine G_iload_n (pc := 24) 1 dX11_meets_24 rfl ?_
    refine G_i2l (pc := 25) dX11_meets_25 ?_
    refine G_iconst (pc := 26) (v := 0) dX11_meets_26 rfl ?_
    refine gV2 (pc := 27) (k' := 0) (n' := 0) dX11_meets_27 lkX11_266 ⟨by decide, by decide⟩ (Nat.le_of_ble_eq_true rfl) rfl rfl ⟨by decide, by decide⟩ s4.1 (c_X7_coefficient (e := 0) s4 f4 (by decide) ?_)
    dsimp only [gRt]
    refine G_sn2 (pc := 30) (gSt_ln dX11_meets_30 rfl (by decide)) rfl ?_
    refine G_aload_n (pc := 31) 0 dX11_meets_31 rfl ?_
    refine G_getR (pc := 32) dX11_meets_32 fX11_10 (by assumption) (by assumption) ?_
    refine G_getR (pc := 35) dX11_meets_35 fX11_55 (by assumption) (by assumption) ?_
    refine G_iload_n (pc := 38) 1 dX11_meets_38 rfl ?_
    refine G_i2l (pc := 39) dX11_meets_39 ?_
    refine G_iconst (pc := 40) (v := 1) dX11_meets_40 rfl ?_
    refine gV2 (pc := 41) (k' := 0) (n' := 0) dX11_meets_41 lkX11_266 ⟨by decide, by decide⟩ (Nat.le_of_ble_eq_true rfl) rfl rfl ⟨by decide, by decide⟩ s4.1 (c_X7_coefficient (e := 1) s4 f4 (by decide) ?_)
    dsimp only [gRt]
    refine G_sn3 (pc := 44) (gSt_l dX11_meets_44 (by decide)) rfl ?_
    refine G_aload_n (pc := 46) 0 dX11_meets_46 rfl ?_
    refine G_getR (pc := 47) dX11_meets_47 fX11_10 (by assumption) (by assumption) ?_
    refine G_getR (pc := 50) dX11_meets_50 fX11_55 (by assumption) (by assumption) ?_
    refine G_iload_n (pc := 53) 1 dX11_meets_53 rfl ?_
    refine G_i2l (pc := 54) dX11_meets_54 ?_
    refine G_iconst (pc := 55) (v := 2) dX11_meets_55 rfl ?_
    refine gV2 (pc := 56) (k' := 0) (n' := 0) dX11_meets_56 lkX11_266 ⟨by decide, by decide⟩ (Nat.le_of_ble_eq_true rfl) rfl rfl ⟨by decide, by decide⟩ s4.1 (c_X7_coefficient (e := 2) s4 f4 (by decide) ?_)
    dsimp only [gRt]
    refine G_sn4 (pc := 59) (gSt_l dX11_meets_59 (by decide)) rfl ?_
    refine G_aload_n (pc := 61) 0 dX11_meets_61 rfl ?_
    refine G_getR (pc := 62) dX11_meets_62 fX11_10 (by assumption) (by assumption) ?_
    refine G_getR (pc := 65) dX11_meets_65 fX11_55 (by assumption) (by assumption) ?_
    refine G_iload_n (pc := 68) 1 dX11_meets_68 rfl ?_
    refine G_i2l (pc := 69) dX11_meets_69 ?_
    refine G_iconst (pc := 70) (v := 3) dX11_meets_70 rfl ?_
    refine gV2 (pc := 71) (k' := 0) (n' := 0) dX11_meets_71 lkX11_266 ⟨by decide, by decide⟩ (Nat.le_of_ble_eq_true rfl) rfl rfl ⟨by decide, by decide⟩ s4.1 (c_X7_coefficient (e := 3) s4 f4 (by decide) ?_)
    dsimp only [gRt]
    refine G_sn5 (pc := 74) (gSt_l dX11_meets_74 (by decide)) rfl ?_
    refine G_iconst (pc := 76) (v := 0) dX11_meets_76 rfl ?_
    refine G_sn6 (pc := 77) (gSt_i dX11_meets_77 (by decide)) rfl ?_
    refine G_iconst (pc := 79) (v := 0) dX11_meets_79 rfl ?_
    refine G_sn7 (pc := 80) (gSt_i dX11_meets_80 (by decide)) rfl ?_
    refine G_ldc2 (pc := 82) dX11_meets_82 kcX11_262 ?_
    refine G_sn8 (pc := 85) (gSt_l dX11_meets_85 (by decide)) rfl ?_
    rw [show aMeets S w = (mtR (mtF S w) 2049).1 from if_pos (wiB.mp (gB_ne.mp h11))] at hQ
    refine lp_X11_meets (F := mtF S w) (fun t => ?_) hQ 2049 0 (Nat.zero_add 2049)
    unfold mtF
    rw [gSum_H (tN S) (fun k hk => by have := (f4.2.2 k hk).2.2.2; omega)]
  · refine G_ldc (pc := 14) dX11_meets_14 kcX11_52 ?_
    refine G_iret (pc := 16) dX11_meets_16 ⟨_, rfl, rfl⟩ ⟨by decide, by decide⟩ ?_
    rw [show aMeets S w = -1000001 from if_neg (fun z => gB_eq.mp h11 (wiB.mpr z))] at hQ
    exact hQ

