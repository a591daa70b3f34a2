/-! set -/
theorem setX_rp {i : gI} {b j : Nat} {ws : Nat → Nat} {T : gTy} {r : gR} {S : Nat → Int32} {v : Int32} (h : rpSt i b ws S) (hl : lySt T r b ws) (hj : j < 3) : rpSt (up2 i (b + 34 + 1) j v) b ws (upd S (2 + j) v) := by
  obtain ⟨n, m, h1, h2, h3⟩ := h
  have h8 := hl.2.2.2.2.2.1.2.2.2.2.2.2.2
  refine ⟨n, m, (h1.kept (fun c c1 c2 => up2_ne (by omega))).flat (upd_o (by omega)) (fun q q1 q2 => upd_o (by omega)), ⟨h2.1, ?_, ?_, fun k hk => ?_⟩, fun c hc => ?_⟩
  · rw [up2_ne (by omega)]; exact h2.2.1
  · rw [upd_o (by omega)]; exact h2.2.2.1
  · obtain ⟨y, hy⟩ := h2.2.2.2 k hk
    have := h2.1
    obtain ⟨_, _, a1, a2⟩ := h8.1 k (by omega)
    exact ⟨y, (hy.kept (fun c c1 c2 => up2_ne (by omega))).flat (fun q q1 q2 => upd_o (by omega))⟩
  · by_cases hc2 : c = j
    · rw [hc2, up2_self, upd_s]
    · rw [up2_row hc2, upd_o (by omega)]; exact h3 c hc
set_option maxRecDepth 100000 in
set_option maxHeartbeats 4000000 in
theorem c_X11_set {Γ : gG} {T : gTy} {r : gR} {l : gLg} {i : gI} {Q : gQ} {x n : Nat} {ws : Nat → Nat} {hs : Nat → Nat → Nat} {S : Nat → Int32} {P : Nat → Nat → Int32} {w v : Int32} (hX : lyX T r x ws hs) (hA : gN Γ ≤ x) (hRX : rX i x ws hs S P n) (hS : vS S) (hQ : ∀ l' i', frC x i i' → rX i' x ws hs (nxS S (aSet S w v).2) (nxP n P S (aSet S w v).2) (nxN n (aSet S w v).2) → Q (some (.int (aSet S w v).1)) T r l' i') : gC Γ MX11_set [.ref x, .int w, .int v] T r l i Q := by
  have hX2 := hX
  have hR := hRX.1
  obtain ⟨x0, x1, x2, x3, x4, x5, x6, x7, x8, x9, x10⟩ := hX
  obtain ⟨s0, s1, s2, s3, s4, s5, s6⟩ := id x6
  obtain ⟨t0, t1, t2, t3, t4, t5, t6⟩ := id s4
  obtain ⟨f1, f2, f3, f4⟩ := stF hR hS
  have hT := hS.1
  have hE := hS.2.1
  have hn6 := hT.1.1
  have hn3 := f1.2.1
  obtain ⟨w5, w1, wk⟩ := nW_of hS
  have x7k := x7.1
  have s5k := s5.1
  have s6k := s6.1
  refine gC_of rfl (Nat.le_of_ble_eq_true rfl) (L := [(0, .ref x), (1, .int w), (2, .int v)]) rfl ?_
  refine G_iload_n (pc := 0) 1 dX11_set_0 rfl ?_
  refine G_iload_n (pc := 1) 2 dX11_set_1 rfl ?_
  refine gS2 (pc := 2) (k' := 0) (n' := 0) dX11_set_2 lkX11_217 ⟨by decide, by decide⟩ (Nat.le_of_ble_eq_true rfl) rfl rfl ⟨by decide, by decide⟩ (c_X4_allows ?_)
  dsimp only [gRt]
  refine G_if_ne (pc := 5) (tgt := 11) dX11_set_5 (by decide) (fun h5 => ?_) (fun h5 => ?_)
  · have hok := gB_ne.mp h5
    refine G_aload_n (pc := 11) 0 dX11_set_11 rfl ?_
    refine G_getR (pc := 12) dX11_set_12 fX11_19 (by assumption) (by assumption) ?_
    refine G_aload_n (pc := 15) 0 dX11_set_15 rfl ?_
    refine G_getR (pc := 16) dX11_set_16 fX11_10 (by assumption) (by assumption) ?_
    refine gV1 (pc := 19) (k' := 0) (n' := 0) dX11_set_19 lkX11_66 ⟨by decide, by decide⟩ (Nat.le_of_ble_eq_true rfl) rfl rfl ⟨by decide, by decide⟩ x7k (c_keepX hX2 hA hRX ?_)
    intro i1 k1 k2
    dsimp only [gRt]
    refine G_aload_n (pc := 22) 0 dX11_set_22 rfl ?_
    refine G_getR (pc := 23) dX11_set_23 fX11_10 (by assumption) (by assumption) ?_
    refine G_getR (pc := 26) dX11_set_26 fX11_187 (by assumption) (by assumption) ?_
    refine G_iload_n (pc := 29) 1 dX11_set_29 rfl ?_
    refine G_iload_n (pc := 30) 2 dX11_set_30 rfl ?_
    refine gV2 (pc := 31) (k' := 0) (n' := 0) dX11_set_31 lkX11_221 ⟨by decide, by decide⟩ (Nat.le_of_ble_eq_true rfl) rfl rfl ⟨by decide, by decide⟩ s6k (c_X4_replace s6 (by omega) ?_ ?_)
    · intro hno
      exact absurd hok hno
    · intro j hj hxj _
      dsimp only [gRt]
      refine G_iret (pc := 34) dX11_set_34 ⟨_, rfl, rfl⟩ ⟨by decide, by decide⟩ ?_
      replace hQ := aDoneX hQ (show aSet S w v = (S (2 + j), some (upd S (2 + j) v)) by unfold aSet; rw [if_pos hok, hxj, nI_clamp (by omega)])
      obtain ⟨j1, j2, j3, j4⟩ := stF k2.1 hS
      rw [show i1 (x + 1 + 34 + 1) j = S (2 + j) from j3 j hj]
      exact hQ l _ ((frC.of k1 (by omega) (by omega)).put (by omega) (by omega)) (k2.hist hX2 (fun c c1 c2 => up2_ne (by omega)) (setX_rp k2.1 x6 hj))
  · have hno := gB_eq.mp h5
    replace hQ := aDoneX hQ (show aSet S w v = (-1000001, none) from if_neg hno)
    refine G_ldc (pc := 8) dX11_set_8 kcX11_52 ?_
    refine G_iret (pc := 10) dX11_set_10 ⟨_, rfl, rfl⟩ ⟨by decide, by decide⟩ ?_
    exact hQ l i frC.rf hRX
