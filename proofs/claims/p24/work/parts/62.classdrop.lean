/-! drop -/
theorem lyW.rk {T : gTy} {r r' : gR} {a : Nat} (h : lyW T r a) (e : r' a = r a) : lyW T r' a := by unfold lyW; rw [e]; exact h
theorem lyT.rk {T : gTy} {r r' : gR} {a : Nat} (h : lyT T r a) (e : r' a = r a) : lyT T r' a := by unfold lyT; rw [e]; exact h
theorem lySe.rk {T : gTy} {r r' : gR} {a : Nat} (h : lySe T r a) (e : r' a = r a) : lySe T r' a := by unfold lySe; rw [e]; exact h
theorem lyWs.rk {T : gTy} {r r' : gR} {a : Nat} {w : Nat → Nat} (h : lyWs T r a w) (e : ∀ c, a ≤ c → c < a + 29 → r' c = r c) : lyWs T r' a w := by
  obtain ⟨h0, h1, h2, h3, h4, h5, h6, h7, h8⟩ := h
  refine ⟨h0, by rw [e a (by omega) (by omega)]; exact h1, by rw [e a (by omega) (by omega)]; exact h2, by rw [e a (by omega) (by omega)]; exact h3, h4, h5, h6, fun k hk => ?_, h8⟩
  obtain ⟨g1, g2, g3, g4⟩ := h7 k hk
  exact ⟨by rw [e (a + 1) (by omega) (by omega)]; exact g1, g2.rk (e _ (by omega) (by omega)), g3, g4⟩
theorem lySt.rk {T : gTy} {r r' : gR} {b : Nat} {w : Nat → Nat} (h : lySt T r b w) (e : ∀ c, b ≤ c → c < b + 36 → r' c = r c) : lySt T r' b w := by
  obtain ⟨h0, h1, h2, h3, h4, h5, h6⟩ := h
  exact ⟨h0, by rw [e b (by omega) (by omega)]; exact h1, by rw [e b (by omega) (by omega)]; exact h2, by rw [e b (by omega) (by omega)]; exact h3, h4.rk (e _ (by omega) (by omega)), h5.rk (fun c c1 c2 => e c (by omega) (by omega)), h6.rk (e _ (by omega) (by omega))⟩
theorem lyX.drop {T : gTy} {r r' : gR} {x : Nat} {ws w1 : Nat → Nat} {hs : Nat → Nat → Nat} (h : lyX T r x ws hs) (e : ∀ c, c ≠ x + 1 + 5 + 1 → r' c = r c) (hw : lyWs T r' (x + 1 + 5) w1) : lyX T r' x w1 hs := by
  obtain ⟨x0, x1, x2, x3, x4, x5, x6, x7, x8, x9, x10⟩ := h
  obtain ⟨s0, s1, s2, s3, s4, s5, s6⟩ := x6
  obtain ⟨t0, t1, t2, t3⟩ := x7
  obtain ⟨v0, v1, v2, v3, v4⟩ := x8
  obtain ⟨u0, u1, u2⟩ := x9
  obtain ⟨y0, y1, y2⟩ := x10
  have ex := e x (by omega)
  refine ⟨x0, by rw [ex]; exact x1, by rw [ex]; exact x2, by rw [ex]; exact x3, by rw [ex]; exact x4, by rw [ex]; exact x5, ⟨s0, by rw [e _ (by omega)]; exact s1, by rw [e _ (by omega)]; exact s2, by rw [e _ (by omega)]; exact s3, s4.rk (e _ (by omega)), hw, s6.rk (e _ (by omega))⟩, ⟨t0, by rw [e _ (by omega)]; exact t1, t2, fun j hj => ?_⟩, ⟨v0, by rw [e _ (by omega)]; exact v1, by rw [e _ (by omega)]; exact v2, ?_, v4⟩, ⟨u0, by rw [e _ (by omega)]; exact u1, u2⟩, ⟨y0, by rw [e _ (by omega)]; exact y1, y2.rk (e _ (by omega))⟩⟩
  · obtain ⟨g1, g2⟩ := t3 j hj
    exact ⟨by rw [e _ (by omega)]; exact g1, g2.rk (fun c c1 c2 => e c (by omega))⟩
  · unfold lyCo; rw [e _ (by omega)]; exact v3
theorem kc_sur {pr : Nat → Int32} {k : Nat} : ∀ n q, q < kc pr k n → ∃ p, p < n ∧ ¬ fam pr k p = true ∧ kc pr k p = q
  | 0, q, h => by rw [kc] at h; omega
  | n + 1, q, h => by
    rw [kc] at h
    by_cases hf : fam pr k n = true
    · rw [if_pos hf] at h
      obtain ⟨p, h1, h2, h3⟩ := kc_sur (pr := pr) (k := k) n q (by omega)
      exact ⟨p, by omega, h2, h3⟩
    · rw [if_neg hf] at h
      by_cases hq : q = kc pr k n
      · exact ⟨n, Nat.lt_succ_self n, hf, hq.symm⟩
      · obtain ⟨p, h1, h2, h3⟩ := kc_sur (pr := pr) (k := k) n q (by omega)
        exact ⟨p, by omega, h2, h3⟩
theorem par_eq {pr g : Nat → Int32} {k p n : Nat} (hn : n ≤ 5) (hp : p < n) (h : ∀ q, q < n → pr q = g q) (hv : vP g n) (hf : ¬ fam g k p = true) : nPar pr k p = npR g k p := by
  unfold nPar npR
  rw [h p hp]
  have hpk : p ≠ k := fun e => hf (by rw [e]; exact fam_self _ _)
  rcases hv p hp with e | ⟨q, hq, e⟩
  · rw [e]; rfl
  · rw [e, if_pos ⟨nI_pos (by omega), nI_lt hq (by omega)⟩, if_neg (nI_pos (by omega)), nI_clamp (by omega)]
    unfold nmR
    have hu := fam_up (pr := g) (k := k) hpk hq (by omega) e
    rw [hu] at hf
    rw [if_neg hf, kc_c q (fun y hy => h y (by omega))]
theorem dX_rp {T : gTy} {r r' : gR} {i i' : gI} {b m k : Nat} {ws w1 : Nat → Nat} {S F : Nat → Int32} (hr : rpSt i b ws S) (hl : lySt T r b ws) (hS : vS S) (hm : nW S = m) (hk : k < m) (hd : drS S F k)
  (g : rmd T (fun q => i (ws q) 8) k (b + 5) m m ws w1 i i' r r') : rpSt (up2 i' (b + 5) 3 (nI (kc (fun q => i (ws q) 8) k m))) b w1 F := by
  obtain ⟨w5, wn, wk⟩ := nW_of hS
  rw [hm] at w5 wn wk
  obtain ⟨f1, f2, f3, f4⟩ := stF hr hS
  rw [hm] at f2
  obtain ⟨g1, g2, g3, g4, g5, g6, g7, g8, g9, g10, g11, g12⟩ := g
  have h8 := hl.2.2.2.2.2.1.2.2.2.2.2.2.2
  have hpr : ∀ q, q < m → (fun q => i (ws q) 8) q = gPr4 S q := fun q hq => by
    obtain ⟨n9, y⟩ := f2.2.2.2 q hq
    exact y.2.2.1 4 (by decide)
  obtain ⟨d1, d2, d3⟩ := hd
  rw [hm] at d1 d3
  have hkc := kc_c (w := k) m hpr
  have hle := kc_le (gPr4 S) k m
  have hn6 := f1.1
  refine ⟨tN S, kc (gPr4 S) k m, ⟨f1.1, ?_, ?_, fun q hq c hc => ?_⟩, ⟨by omega, ?_, d1, fun q hq => ?_⟩, fun c hc => ?_⟩
  · rw [up2_ne (by omega), g7 _ (by omega)]; exact f1.2.1
  · rw [d2 0 (by decide) (by decide)]; exact f1.2.2.1
  · rw [up2_ne (by omega), g7 _ (by omega), d2 _ (by omega) (by omega)]; exact f1.2.2.2 q hq c hc
  · rw [up2_self, hkc]
  · obtain ⟨p, hp, hpf, rfl⟩ := kc_sur m q hq
    have hpf2 : ¬ fam (fun q => i (ws q) 8) k p = true := by rw [fam_c (g := gPr4 S) (fun y hy => hpr y (by omega))]; exact hpf
    have hwp : w1 (kc (gPr4 S) k p) = ws p := by rw [← kc_c p (fun y hy => hpr y (by omega))]; exact g4 p hp hpf2
    obtain ⟨n9, y1, y2, y3, y4, y5⟩ := f2.2.2.2 p hp
    obtain ⟨_, _, a1, a2⟩ := h8.1 p (by omega)
    have hrow := d3 p hp hpf
    have h8p : i' (ws p) 8 = npR (gPr4 S) k p := (g12 p hp hpf2).trans (par_eq w5 hp hpr (fun j hj => (wk j hj).2) hpf)
    rw [hwp]
    refine ⟨n9, y1, ?_, fun j hj => ?_, fun u hu c hc => ?_, ?_⟩
    · rw [up2_ne (by omega), g10 p hp 4 (by decide)]; exact y2
    · rw [up2_ne (by omega), hrow j (by omega)]
      by_cases h4 : j = 4
      · subst h4; rw [if_pos rfl]; exact h8p
      · rw [if_neg h4, g10 p hp (4 + j) (by omega)]; exact y3 j hj
    · rw [up2_ne (by omega), g9 p hp _ (by omega) (by omega), show 23 + 166 * kc (gPr4 S) k p + 6 + 4 * u + c = 23 + 166 * kc (gPr4 S) k p + (6 + 4 * u + c) by omega, hrow _ (by omega), if_neg (by omega), y4 u hu c hc, show 23 + 166 * p + 6 + 4 * u + c = 23 + 166 * p + (6 + 4 * u + c) by omega]
    · rw [hrow 3 (by decide), if_neg (by decide)]; exact y5
  · rw [up2_ne (by omega), g7 _ (by omega), d2 _ (by omega) (by omega)]; exact f3 c hc
set_option maxRecDepth 100000 in
set_option maxHeartbeats 4000000 in
theorem c_X11_drop {Γ : gG} {T : gTy} {r : gR} {l : gLg} {i : gI} {Q : gQ} {x n : Nat} {ws : Nat → Nat} {hs : Nat → Nat → Nat} {S : Nat → Int32} {P : Nat → Nat → Int32} {w : Int32} (hX : lyX T r x ws hs) (hA : gN Γ ≤ x) (hRX : rX i x ws hs S P n) (hS : vS S) (h0 : ¬ inI w 0 (S 1 - 1) → Q (some (.int (-1000001))) T r l i)
  (h1 : ∀ a, a < nW S → w = nI a → ∀ r' i' w1, (∀ c, c < x + 1 ∨ x + 37 ≤ c → r' c = r c) → lyX T r' x w1 hs → frC x i i' → (∀ F, drS S F a → rX i' x w1 hs F (psP n P S) (psN n)) → Q (some (.int (nI (kc (gPr4 S) a (nW S))))) T r' l i') : gC Γ MX11_drop [.ref x, .int w] T r l i Q := by
  have hX2 := hX
  have hR := hRX.1
  obtain ⟨x0, x1, x2, x3, x4, x5, x6, x7, x8, x9, x10⟩ := hX
  obtain ⟨s0, s1, s2, s3, s4, s5, s6⟩ := id x6
  obtain ⟨t0, t1, t2, t3, t4, t5, t6⟩ := id s4
  obtain ⟨f1, f2, f3, f4⟩ := stF hR hS
  have hT := hS.1
  have hE := hS.2.1
  have hn6 := hT.1.1
  have hn3 := f1.2.1
  obtain ⟨w5, w1, wk⟩ := nW_of hS
  have x7k := x7.1
  have s5k := s5.1
  refine gC_of rfl (Nat.le_of_ble_eq_true rfl) (L := [(0, .ref x), (1, .int w)]) rfl ?_
  refine G_aload_n (pc := 0) 0 dX11_drop_0 rfl ?_
  refine G_getR (pc := 1) dX11_drop_1 fX11_10 (by assumption) (by assumption) ?_
  refine G_getR (pc := 4) dX11_drop_4 fX11_70 (by assumption) (by assumption) ?_
  refine G_iload_n (pc := 7) 1 dX11_drop_7 rfl ?_
  refine gV1 (pc := 8) (k' := 0) (n' := 0) dX11_drop_8 lkX11_163 ⟨by decide, by decide⟩ (Nat.le_of_ble_eq_true rfl) rfl rfl ⟨by decide, by decide⟩ s5.1 (c_X10_at s5 f2.2.1 w5 ?_ ?_)
  · intro a ha haw
    subst haw
    obtain ⟨⟨z, hv⟩, hpar⟩ := wk a ha
    have hz40 := hv.2.1
    have hw := wsF f2 ha hv
    obtain ⟨wr, hW, wlo, whi⟩ := s5.2.2.2.2.2.2.2.1 a (by omega)
    have hW0 := hW.1
    have hw4 := hw.2.1
    obtain ⟨q0, q1, q2, q3, q4, q5, q6, q7, q8⟩ := id hW
    have rows := hw.2.2.2.1
    dsimp only [gRt]
    refine G_ifnonnull (pc := 11) (tgt := 17) dX11_drop_11 (by decide) ?_
    refine G_aload_n (pc := 17) 0 dX11_drop_17 rfl ?_
    refine G_getR (pc := 18) dX11_drop_18 fX11_19 (by assumption) (by assumption) ?_
    refine G_aload_n (pc := 21) 0 dX11_drop_21 rfl ?_
    refine G_getR (pc := 22) dX11_drop_22 fX11_10 (by assumption) (by assumption) ?_
    refine gV1 (pc := 25) (k' := 0) (n' := 0) dX11_drop_25 lkX11_66 ⟨by decide, by decide⟩ (Nat.le_of_ble_eq_true rfl) rfl rfl ⟨by decide, by decide⟩ x7k (c_keepX hX2 hA hRX ?_)
    intro i1 k1 k2
    dsimp only [gRt]
    refine G_aload_n (pc := 28) 0 dX11_drop_28 rfl ?_
    refine G_getR (pc := 29) dX11_drop_29 fX11_10 (by assumption) (by assumption) ?_
    refine G_getR (pc := 32) dX11_drop_32 fX11_70 (by assumption) (by assumption) ?_
    refine G_iload_n (pc := 35) 1 dX11_drop_35 rfl ?_
    obtain ⟨j1, j2, j3, j4⟩ := stF k2.1 hS
    refine gV1 (pc := 36) (k' := 0) (n' := 0) dX11_drop_36 lkX11_213 ⟨by decide, by decide⟩ (Nat.le_of_ble_eq_true rfl) rfl rfl ⟨by decide, by decide⟩ s5k (c_X10_removeFamily s5 (by omega) j2.2.1 w5 ha ?_)
    intro r2 i2 w1_ g
    dsimp only [gRt]
    have hX3 := hX2.drop (fun c hc => g.1 c hc) g.2.1
    have x1b : r2 x 0 = some (x + 1) := by rw [g.1 _ (by omega)]; exact x1
    have s2b : r2 (x + 1) 1 = some (x + 1 + 5) := by rw [g.1 _ (by omega)]; exact s2
    have hpr : ∀ q, q < nW S → (fun q => i1 (ws q) 8) q = gPr4 S q := fun q hq => by
      obtain ⟨n9, y⟩ := j2.2.2.2 q hq
      exact y.2.2.1 4 (by decide)
    refine G_aload_n (pc := 39) 0 dX11_drop_39 rfl ?_
    refine G_getR (pc := 40) dX11_drop_40 fX11_10 (by assumption) (by assumption) ?_
    refine G_getR (pc := 43) dX11_drop_43 fX11_70 (by assumption) (by assumption) ?_
    refine G_getI (pc := 46) dX11_drop_46 fX11_182 (by assumption) ?_
    rw [up2_self, kc_c (w := a) (nW S) hpr]
    refine G_iret (pc := 49) dX11_drop_49 ⟨_, rfl, rfl⟩ ⟨by decide, by decide⟩ ?_
    have g7 := g.2.2.2.2.2.2.1
    have hf : ∀ c, (c < x + 1 + 5 ∨ x + 1 + 5 + 29 ≤ c) → up2 i2 (x + 1 + 5) 3 (nI (kc (gPr4 S) a (nW S))) c = i1 c := fun c hc => by rw [up2_ne (by omega)]; exact g7 c (by omega)
    exact h1 a ha rfl r2 _ w1_ (fun c hc => g.1 c (by omega)) hX3 ((frC.of k1 (by omega) (by omega)).tr (fun c hc => hf c (by omega))) (fun F hF => by
      obtain ⟨_, o9, hH⟩ := id k2
      have hdx := dX_rp k2.1 x6 hS rfl ha hF g
      rw [kc_c (w := a) (nW S) hpr] at hdx
      exact ⟨hdx, o9, hH.kept x7 (fun c c1 c2 => hf c (by omega))⟩)
  · intro hno
    have hnw : ¬ inI w 0 (S 1 - 1) := fun u => by
      obtain ⟨k9, k1, k2⟩ := (isW (m := nW S) (by omega)).mp (w1 ▸ u)
      exact hno k9 k1 k2
    dsimp only [gRt]
    refine G_ifnonnullN (pc := 11) dX11_drop_11 ?_
    refine G_ldc (pc := 14) dX11_drop_14 kcX11_52 ?_
    refine G_iret (pc := 16) dX11_drop_16 ⟨_, rfl, rfl⟩ ⟨by decide, by decide⟩ ?_
    exact h0 hnw
