/-! startWalk, begin -/
theorem oF_o {S : Nat → Int32} {k j : Nat} {sg p f : Int32} {c : Int64 × Int64 × Nat} (h1 : j ≠ 1) (h : j < 23 + 166 * k ∨ 23 + 166 * k + 10 ≤ j) : oF S k sg p f c j = S j := by
  unfold oF jnF opF
  simp (disch := omega) only [upd_o]
theorem oF_1 {S : Nat → Int32} {k : Nat} {sg p f : Int32} {c : Int64 × Int64 × Nat} : oF S k sg p f c 1 = nI (k + 1) := by
  unfold oF jnF opF
  simp (disch := omega) only [upd_o, upd_s]
theorem oF_w {S : Nat → Int32} {k : Nat} {sg p f : Int32} {c : Int64 × Int64 × Nat} : oF S k sg p f c (23 + 166 * k) = nI 1 ∧ oF S k sg p f c (23 + 166 * k + 1) = sg ∧ oF S k sg p f c (23 + 166 * k + 2) = S 2 ∧ oF S k sg p f c (23 + 166 * k + 3) = 0 ∧ oF S k sg p f c (23 + 166 * k + 4) = p ∧ oF S k sg p f c (23 + 166 * k + 5) = f := by
  unfold oF jnF opF
  refine ⟨?_, ?_, ?_, ?_, ?_, ?_⟩ <;> simp (disch := omega) only [upd_o, upd_s]
theorem oF_p {S : Nat → Int32} {k : Nat} {sg p f : Int32} {c : Int64 × Int64 × Nat} : oF S k sg p f c (23 + 166 * k + 6 + 4 * 0 + 0) = c.1.toInt32 ∧ oF S k sg p f c (23 + 166 * k + 6 + 4 * 0 + 1) = c.2.1.toInt32 ∧ oF S k sg p f c (23 + 166 * k + 6 + 4 * 0 + 2) = nI c.2.2 ∧ oF S k sg p f c (23 + 166 * k + 6 + 4 * 0 + 3) = 0 := by
  unfold oF jnF opF
  refine ⟨?_, ?_, ?_, ?_⟩ <;> simp (disch := omega) only [upd_o, upd_s]
theorem oX_rp {T : gTy} {r : gR} {i i' : gI} {b m : Nat} {ws : Nat → Nat} {S : Nat → Int32} {sg p f : Int32} {c : Int64 × Int64 × Nat} (h : rpSt i b ws S) (hl : lySt T r b ws) (hm : m < 5) (hm1 : S 1 = nI m)
  (hf : ∀ d, d ≠ b + 5 → (d < ws m ∨ ws m + 5 ≤ d) → i' d = i d) (h5 : i' (b + 5) 3 = nI (m + 1)) (g4 : i' (ws m) 4 = nI 1) (g5 : i' (ws m) 5 = sg) (g6 : i' (ws m) 6 = S 2) (g7 : i' (ws m) 7 = 0) (g8 : i' (ws m) 8 = p) (g9 : i' (ws m) 9 = f)
  (r1 : i' (ws m + 1) 0 = c.1.toInt32) (r2 : i' (ws m + 2) 0 = c.2.1.toInt32) (r3 : i' (ws m + 3) 0 = nI c.2.2) (r4 : i' (ws m + 4) 0 = 0) : rpSt i' b ws (oF S m sg p f c) := by
  obtain ⟨n, k, h1, h2, h3⟩ := h
  have hk : k = m := (nI_eq (by have := h2.1; omega) (by omega)).mp (h2.2.2.1.symm.trans hm1)
  subst hk
  have h8 := hl.2.2.2.2.2.1.2.2.2.2.2.2.2
  obtain ⟨_, _, a1, a2⟩ := h8.1 k hm
  obtain ⟨o0, o1, o2, o3, o4, o5⟩ := oF_w (S := S) (k := k) (sg := sg) (p := p) (f := f) (c := c)
  obtain ⟨p0, p1, p2, p3⟩ := oF_p (S := S) (k := k) (sg := sg) (p := p) (f := f) (c := c)
  refine ⟨n, k + 1, ⟨h1.1, ?_, ?_, fun q hq e he => ?_⟩, ⟨by omega, h5, oF_1, fun q hq => ?_⟩, fun e he => ?_⟩
  · rw [hf _ (by omega) (by omega)]; exact h1.2.1
  · rw [oF_o (by omega) (by omega)]; exact h1.2.2.1
  · have := h1.1
    rw [hf _ (by omega) (by omega), oF_o (by omega) (by omega)]; exact h1.2.2.2 q hq e he
  · by_cases hqa : q = k
    · subst hqa
      refine ⟨1, by decide, g4, fun j hj => ?_, fun y hy e he => ?_, Or.inl o3⟩
      · rcases (show j = 0 ∨ j = 1 ∨ j = 2 ∨ j = 3 ∨ j = 4 ∨ j = 5 by omega) with rfl | rfl | rfl | rfl | rfl | rfl
        · exact g4.trans o0.symm
        · exact g5.trans o1.symm
        · exact g6.trans o2.symm
        · exact g7.trans o3.symm
        · exact g8.trans o4.symm
        · exact g9.trans o5.symm
      · obtain rfl : y = 0 := by omega
        rcases (show e = 0 ∨ e = 1 ∨ e = 2 ∨ e = 3 by omega) with rfl | rfl | rfl | rfl
        · exact r1.trans p0.symm
        · exact r2.trans p1.symm
        · exact r3.trans p2.symm
        · exact r4.trans p3.symm
    · obtain ⟨y, hy⟩ := h2.2.2.2 q (by omega)
      obtain ⟨_, _, b1, b2⟩ := h8.1 q (by omega)
      have hd := h8.2 q k (by omega) hm hqa
      have he2 : ∀ j, j < 166 → oF S k sg p f c (23 + 166 * q + j) = S (23 + 166 * q + j) := fun j hj => oF_o (by omega) (by omega)
      refine ⟨y, hy.1, ?_, fun j hj => ?_, fun y9 hp e hc => ?_, ?_⟩
      · rw [hf _ (by omega) (by omega)]; exact hy.2.1
      · rw [hf _ (by omega) (by omega), he2 j (by omega)]; exact hy.2.2.1 j hj
      · have := hy.1
        rw [hf _ (by omega) (by omega), show 23 + 166 * q + 6 + 4 * y9 + e = 23 + 166 * q + (6 + 4 * y9 + e) by omega, he2 _ (by omega), hy.2.2.2.1 y9 hp e hc, show 23 + 166 * q + 6 + 4 * y9 + e = 23 + 166 * q + (6 + 4 * y9 + e) by omega]
      · rw [he2 3 (by decide)]; exact hy.2.2.2.2
  · rw [hf _ (by omega) (by omega), oF_o (by omega) (by omega)]; exact h3 e he
set_option maxRecDepth 100000 in
set_option maxHeartbeats 4000000 in
theorem c_X11_startWalk {Γ : gG} {T : gTy} {r : gR} {l : gLg} {i : gI} {Q : gQ} {x n : Nat} {ws : Nat → Nat} {hs : Nat → Nat → Nat} {S : Nat → Int32} {P : Nat → Nat → Int32} {sg p f : Int32} {c : Int64 × Int64 × Nat} (hX : lyX T r x ws hs) (hA : gN Γ ≤ x) (hRX : rX i x ws hs S P n) (hS : vS S) (c1 : i (x + 184) 1 = c.1.toInt32) (c2 : i (x + 184) 2 = c.2.1.toInt32) (c3 : i (x + 184) 3 = nI c.2.2) (hQ : ∀ l' i', frC x i i' → rX i' x ws hs (nxS S (aOpen S sg p f (some c)).2) (nxP n P S (aOpen S sg p f (some c)).2) (nxN n (aOpen S sg p f (some c)).2) → Q (some (.int (aOpen S sg p f (some c)).1)) T r l' i') : gC Γ MX11_startWalk [.ref x, .int sg, .int p, .int f] T r l i Q := by
  have hX2 := hX
  have hR := hRX.1
  obtain ⟨x0, x1, x2, x3, x4, x5, x6, x7, x8, x9, x10⟩ := hX
  obtain ⟨s0, s1, s2, s3, s4, s5, s6⟩ := id x6
  obtain ⟨t0, t1, t2, t3, t4, t5, t6⟩ := id s4
  obtain ⟨f1, f2, f3, f4⟩ := stF hR hS
  have hT := hS.1
  have hE := hS.2.1
  have hn6 := hT.1.1
  have hn3 := f1.2.1
  obtain ⟨w5, w1, wk⟩ := nW_of hS
  have x7k := x7.1
  have s5k := s5.1
  obtain ⟨v0, v1, v2, v3, v4⟩ := id x8
  have v1 : r (x + 183) 0 = some (x + 184) := v1
  have v3k : (T.2 (x + 184)).1 = 0 := v3.1
  have s6k := s6.1
  refine gC_of rfl (Nat.le_of_ble_eq_true rfl) (L := [(0, .ref x), (1, .int sg), (2, .int p), (3, .int f)]) rfl ?_
  refine G_aload_n (pc := 0) 0 dX11_startWalk_0 rfl ?_
  refine G_getR (pc := 1) dX11_startWalk_1 fX11_10 (by assumption) (by assumption) ?_
  refine G_getR (pc := 4) dX11_startWalk_4 fX11_70 (by assumption) (by assumption) ?_
  refine gV0 (pc := 7) (k' := 0) (n' := 0) dX11_startWalk_7 lkX11_181 ⟨by decide, by decide⟩ (Nat.le_of_ble_eq_true rfl) rfl rfl ⟨by decide, by decide⟩ s5k (c_X10_isFull s5.1 ?_)
  dsimp only [gRt]
  refine G_if_eq (pc := 10) (tgt := 16) dX11_startWalk_10 (by decide) (fun h10 => ?_) (fun h10 => ?_)
  · refine G_aload_n (pc := 16) 0 dX11_startWalk_16 rfl ?_
    refine G_getR (pc := 17) dX11_startWalk_17 fX11_19 (by assumption) (by assumption) ?_
    refine G_aload_n (pc := 20) 0 dX11_startWalk_20 rfl ?_
    refine G_getR (pc := 21) dX11_startWalk_21 fX11_10 (by assumption) (by assumption) ?_
    refine gV1 (pc := 24) (k' := 0) (n' := 0) dX11_startWalk_24 lkX11_66 ⟨by decide, by decide⟩ (Nat.le_of_ble_eq_true rfl) rfl rfl ⟨by decide, by decide⟩ x7k (c_keepX hX2 hA hRX ?_)
    intro i1 k1 k2
    dsimp only [gRt]
    have h5 : nW S < 5 := by
      have := gB_eq.mp h10
      rw [f2.2.1] at this
      rcases Nat.lt_or_ge (nW S) 5 with z | z
      · exact z
      · exact absurd this (fun w => w (by rw [show nW S = 5 by omega]; decide))
    obtain ⟨j1, j2, j3, j4⟩ := stF k2.1 hS
    obtain ⟨wr, hW, wlo, whi⟩ := s5.2.2.2.2.2.2.2.1 (nW S) h5
    have hW0 := hW.1
    refine G_aload_n (pc := 27) 0 dX11_startWalk_27 rfl ?_
    refine G_getR (pc := 28) dX11_startWalk_28 fX11_10 (by assumption) (by assumption) ?_
    refine G_getR (pc := 31) dX11_startWalk_31 fX11_70 (by assumption) (by assumption) ?_
    refine G_getI (pc := 34) dX11_startWalk_34 fX11_182 (by assumption) ?_
    rw [j2.2.1]
    refine G_sn4 (pc := 37) (gSt_i dX11_startWalk_37 (by decide)) rfl ?_
    refine G_aload_n (pc := 39) 0 dX11_startWalk_39 rfl ?_
    refine G_getR (pc := 40) dX11_startWalk_40 fX11_10 (by assumption) (by assumption) ?_
    refine G_getR (pc := 43) dX11_startWalk_43 fX11_70 (by assumption) (by assumption) ?_
    refine gV0 (pc := 46) (k' := 0) (n' := 0) dX11_startWalk_46 lkX11_183 ⟨by decide, by decide⟩ (Nat.le_of_ble_eq_true rfl) rfl rfl ⟨by decide, by decide⟩ s5k (c_X10_addOne (m := nW S) s5 (by omega) j2.2.1 h5 ?_)
    dsimp only [gRt]
    refine G_sn5 (pc := 49) (gSt_a dX11_startWalk_49 (by decide)) rfl ?_
    refine G_aload (pc := 51) 5 dX11_startWalk_51 rfl ?_
    refine G_ifnull (pc := 53) dX11_startWalk_53 ?_
    refine G_aload (pc := 56) 5 dX11_startWalk_56 rfl ?_
    refine G_iload_n (pc := 58) 1 dX11_startWalk_58 rfl ?_
    refine G_aload_n (pc := 59) 0 dX11_startWalk_59 rfl ?_
    refine G_getR (pc := 60) dX11_startWalk_60 fX11_10 (by assumption) (by assumption) ?_
    refine G_getR (pc := 63) dX11_startWalk_63 fX11_187 (by assumption) (by assumption) ?_
    refine G_iconst (pc := 66) (v := 0) dX11_startWalk_66 rfl ?_
    refine gV1 (pc := 67) (k' := 0) (n' := 0) dX11_startWalk_67 lkX11_193 ⟨by decide, by decide⟩ (Nat.le_of_ble_eq_true rfl) rfl rfl ⟨by decide, by decide⟩ s6k (c_X4_at (j := 0) s6 (by decide) ?_)
    dsimp only [gRt]
    rw [up2_ne (by omega), show i1 (x + 1 + 34 + 1) 0 = S 2 from j3 0 (by decide)]
    refine G_iload_n (pc := 70) 2 dX11_startWalk_70 rfl ?_
    refine G_iload_n (pc := 71) 3 dX11_startWalk_71 rfl ?_
    refine gV4 (pc := 72) (k' := 0) (n' := 0) dX11_startWalk_72 lkX11_195 ⟨by decide, by decide⟩ (Nat.le_of_ble_eq_true rfl) rfl rfl ⟨by decide, by decide⟩ hW0 (c_X9_start hW0 (by omega) ?_)
    dsimp only [gRt]
    refine G_aload (pc := 75) 5 dX11_startWalk_75 rfl ?_
    refine G_aload_n (pc := 77) 0 dX11_startWalk_77 rfl ?_
    refine G_getR (pc := 78) dX11_startWalk_78 fX11_26 (by assumption) (by assumption) ?_
    refine G_getR (pc := 81) dX11_startWalk_81 fX11_137 (by assumption) (by assumption) ?_
    refine G_iconst (pc := 84) (v := 0) dX11_startWalk_84 rfl ?_
    refine gV2 (pc := 85) (k' := 0) (n' := 0) dX11_startWalk_85 lkX11_199 ⟨by decide, by decide⟩ (Nat.le_of_ble_eq_true rfl) rfl rfl ⟨by decide, by decide⟩ hW0 (c_X9_addPlace (n := 0) hW (by omega) v3k (by omega) (by unfold stW; simp (disch := omega) only [up2_row, up2_self]; rfl) (by decide) ?_)
    dsimp only [gRt]
    generalize hii : apW (stW (up2 i1 (x + 1 + 5) 3 (nI (nW S + 1))) (ws (nW S)) sg (S 2) p f) (ws (nW S)) 0 _ _ _ 0 = i2
    refine G_iload (pc := 88) 4 dX11_startWalk_88 rfl ?_
    refine G_iret (pc := 90) dX11_startWalk_90 ⟨_, rfl, rfl⟩ ⟨by decide, by decide⟩ ?_
    replace hQ := aDoneX hQ (show aOpen S sg p f (some c) = (nI (nW S), some (oF S (nW S) sg p f c)) from if_neg (by omega))
    have k1c : i1 (x + 184) = i (x + 184) := k1 _ (by omega)
    have hf : ∀ d, d ≠ x + 1 + 5 → (d < ws (nW S) ∨ ws (nW S) + 5 ≤ d) → i2 d = i1 d := fun d d1 d2 => by rw [← hii]; unfold apW stW; simp (disch := omega) only [up2_ne]
    refine hQ l i2 ((frC.of k1 (by omega) (by omega)).tr (fun d hd => hf d (by omega) (by omega))) (k2.hist hX2 (fun d d1 d2 => hf d (by omega) (by omega)) (oX_rp k2.1 x6 h5 w1 hf ?_ ?_ ?_ ?_ ?_ ?_ ?_ ?_ ?_ ?_ ?_))
    · rw [← hii]; unfold apW stW; simp (disch := omega) only [up2_ne, up2_row, up2_self]
    · rw [← hii]; unfold apW stW; simp (disch := omega) only [up2_ne, up2_row, up2_self]
    · rw [← hii]; unfold apW stW; simp (disch := omega) only [up2_ne, up2_row, up2_self]
    · rw [← hii]; unfold apW stW; simp (disch := omega) only [up2_ne, up2_row, up2_self]
    · rw [← hii]; unfold apW stW; simp (disch := omega) only [up2_ne, up2_row, up2_self]
    · rw [← hii]; unfold apW stW; simp (disch := omega) only [up2_ne, up2_row, up2_self]
    · rw [← hii]; unfold apW stW; simp (disch := omega) only [up2_ne, up2_row, up2_self]
    · rw [← hii]; unfold apW stW; simp (disch := omega) only [up2_ne, up2_row, up2_self]; rw [k1c]; exact c1
    · rw [← hii]; unfold apW stW; simp (disch := omega) only [up2_ne, up2_row, up2_self]; rw [k1c]; exact c2
    · rw [← hii]; unfold apW stW; simp (disch := omega) only [up2_ne, up2_row, up2_self]; rw [k1c]; exact c3
    · rw [← hii]; unfold apW stW; simp (disch := omega) only [up2_ne, up2_row, up2_self]
  · refine G_ldc (pc := 13) dX11_startWalk_13 kcX11_65 ?_
    refine G_iret (pc := 15) dX11_startWalk_15 ⟨_, rfl, rfl⟩ ⟨by decide, by decide⟩ ?_
    have h5 : nW S = 5 := by
      have := gB_ne.mp h10
      rw [f2.2.1] at this
      rcases Nat.lt_or_ge (nW S) 5 with z | z
      · exact absurd (nI_lt (b := 5) z (by decide)) this
      · omega
    replace hQ := aDoneX hQ (show aOpen S sg p f (some c) = (-1000003, none) from if_pos h5)
    exact hQ l i frC.rf hRX
