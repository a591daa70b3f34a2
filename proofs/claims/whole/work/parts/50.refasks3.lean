/-! nearest, meets -/
def nrF (f : Nat → Int32) : Nat → Nat
  | 0 => 0
  | k + 1 => if f (k + 1) < f (nrF f k) then k + 1 else nrF f k
theorem nrF_le (f : Nat → Int32) : ∀ k, nrF f k ≤ k
  | 0 => Nat.le_refl _
  | k + 1 => by have := nrF_le f k; unfold nrF; split <;> omega
def farS (s : Nat → Int32) (w : Nat) (x y : Int32) (p : Nat) : Int32 := (s (w + 6 + 4 * p + 0) - x) * (s (w + 6 + 4 * p + 0) - x) + (s (w + 6 + 4 * p + 1) - y) * (s (w + 6 + 4 * p + 1) - y)
def aNear (S : Nat → Int32) (w x y : Int32) : Int32 := if inI w 0 (S 1 - 1) ∧ inI x (-1024) 1024 ∧ inI y (-1024) 1024 then nI (nrF (farS S (23 + 166 * w.toNatClampNeg) x y) ((S (23 + 166 * w.toNatClampNeg)).toNatClampNeg - 1)) else -1000001
theorem inI_inB {x : Int32} : inI x (-1024) 1024 ↔ inB x.toInt64 := by
  have e1 : ((-1024 : Int64)).toInt = -1024 := by decide
  have e2 : ((1024 : Int64)).toInt = 1024 := by decide
  have e3 : ((-1024 : Int32)).toInt = -1024 := by decide
  have e4 : ((1024 : Int32)).toInt = 1024 := by decide
  unfold inI inB
  rw [Int32.lt_iff_toInt_lt, Int32.lt_iff_toInt_lt, Int64.lt_iff_toInt_lt, Int64.lt_iff_toInt_lt, Int32.toInt_toInt64, e1, e2, e3, e4]
theorem mul_i {x y : Int32} {a b : Nat} (hx : x.toInt.natAbs ≤ a) (hy : y.toInt.natAbs ≤ b) (h : a * b < 2 ^ 31) : (x * y).toInt = x.toInt * y.toInt := by
  rw [Int32.toInt_mul]
  apply bmod_i
  rw [Int.natAbs_mul]
  exact Nat.lt_of_le_of_lt (Nat.mul_le_mul hx hy) h
theorem sq_i {x y : Int32} (hx : inB x.toInt64) (hy : inB y.toInt64) : ((x - y) * (x - y)).toInt = (x.toInt - y.toInt) * (x.toInt - y.toInt) ∧ 0 ≤ ((x - y) * (x - y)).toInt ∧ ((x - y) * (x - y)).toInt ≤ 4194304 := by
  have h1 := sub_i hx hy
  have h2 := bd_i hx
  have h3 := bd_i hy
  have h4 : (x - y).toInt.natAbs ≤ 2048 := by rw [h1]; omega
  have h5 := mul_i h4 h4 (by decide)
  rw [h1] at h5
  have s := sq_pos (a := x.toInt - y.toInt)
  have h6 : ((x.toInt - y.toInt) * (x.toInt - y.toInt)).natAbs ≤ 2048 * 2048 := by
    rw [Int.natAbs_mul]
    exact Nat.mul_le_mul (by omega) (by omega)
  refine ⟨h5, by omega, by omega⟩
theorem far_i {s : Nat → Int32} {w p : Nat} {x y : Int32} (h0 : inB (s (w + 6 + 4 * p + 0)).toInt64) (h1 : inB (s (w + 6 + 4 * p + 1)).toInt64) (hx : inB x.toInt64) (hy : inB y.toInt64) : (farS s w x y p).toInt = ((s (w + 6 + 4 * p + 0)).toInt - x.toInt) * ((s (w + 6 + 4 * p + 0)).toInt - x.toInt) + ((s (w + 6 + 4 * p + 1)).toInt - y.toInt) * ((s (w + 6 + 4 * p + 1)).toInt - y.toInt) ∧ ¬ farS s w x y p < 0 := by
  obtain ⟨a1, a2, a3⟩ := sq_i h0 hx
  obtain ⟨b1, b2, b3⟩ := sq_i h1 hy
  have h : (farS s w x y p).toInt = _ := (Int32.toInt_add _ _).trans (bmod_i (z := ((s (w + 6 + 4 * p + 0) - x) * (s (w + 6 + 4 * p + 0) - x)).toInt + ((s (w + 6 + 4 * p + 1) - y) * (s (w + 6 + 4 * p + 1) - y)).toInt) (by omega))
  refine ⟨by rw [h, a1, b1], fun z => ?_⟩
  rw [Int32.lt_iff_toInt_lt, h, show (0 : Int32).toInt = 0 from rfl] at z
  omega
set_option maxRecDepth 100000 in
set_option maxHeartbeats 4000000 in
theorem lp_X12_nearest {Γ : gG} {T : gTy} {r : gR} {l : gLg} {i : gI} {Q : gQ} {m a z : Nat} {x y : Int32} (hM : lyM T r m) (ha : a < 5) (hn : i (m + 1) (23 + 166 * a) = nI (z + 1)) (hz : z + 1 ≤ 40) (hf : ∀ k, k ≤ z → ¬ (farS (i (m + 1)) (23 + 166 * a) x y) k < 0) (hQ : Q (some (.int (nI (nrF (farS (i (m + 1)) (23 + 166 * a) x y) z)))) T r l i) : ∀ d k, k + d = z → G Γ MX12_nearest 0 0 34 [(0, .ref m), (1, .int (nI a)), (2, .int x), (3, .int y), (4, .int (nI (nrF (farS (i (m + 1)) (23 + 166 * a) x y) k))), (5, .int ((farS (i (m + 1)) (23 + 166 * a) x y) (nrF (farS (i (m + 1)) (23 + 166 * a) x y) k))), (6, .int (nI (k + 1)))] [] T r l i Q := by
  have hM2 := hM
  obtain ⟨m0, m1, m2, m3, m4, m5, m6, m7, m8, m9, m10⟩ := hM
  intro d
  induction d with
  | zero =>
    intro k hk
    obtain rfl : k = z := by omega
    refine G_iload (pc := 34) 6 dX12_nearest_34 rfl ?_
    refine G_aload_n (pc := 36) 0 dX12_nearest_36 rfl ?_
    refine G_iload_n (pc := 37) 1 dX12_nearest_37 rfl ?_
    refine gV1 (pc := 38) (k' := 0) (n' := 0) dX12_nearest_38 lkX12_80 ⟨by decide, by decide⟩ (Nat.le_of_ble_eq_true rfl) rfl rfl ⟨by decide, by decide⟩ (by assumption) (c_X12_places (k := a) hM2 (by omega) ?_)
    dsimp only [gRt]
    rw [hn]
    refine G_icmp_ge (pc := 41) (tgt := 121) dX12_nearest_41 (by decide) (fun h41 => ?_) (fun h41 => ?_)
    · refine G_iload (pc := 121) 4 dX12_nearest_121 rfl ?_
      refine G_iret (pc := 123) dX12_nearest_123 ⟨_, rfl, rfl⟩ ⟨by decide, by decide⟩ ?_
      exact hQ
    · exact absurd (Int32.le_refl _) h41
  | succ d ih =>
    intro k hk
    have hle := nrF_le (farS (i (m + 1)) (23 + 166 * a) x y) k
    refine G_iload (pc := 34) 6 dX12_nearest_34 rfl ?_
    refine G_aload_n (pc := 36) 0 dX12_nearest_36 rfl ?_
    refine G_iload_n (pc := 37) 1 dX12_nearest_37 rfl ?_
    refine gV1 (pc := 38) (k' := 0) (n' := 0) dX12_nearest_38 lkX12_80 ⟨by decide, by decide⟩ (Nat.le_of_ble_eq_true rfl) rfl rfl ⟨by decide, by decide⟩ (by assumption) (c_X12_places (k := a) hM2 (by omega) ?_)
    dsimp only [gRt]
    rw [hn]
    refine G_icmp_ge (pc := 41) (tgt := 121) dX12_nearest_41 (by decide) (fun h41 => ?_) (fun h41 => ?_)
    · exact absurd h41 (nI_ge (by omega) (by omega))
    · refine G_aload_n (pc := 44) 0 dX12_nearest_44 rfl ?_
      refine G_iload_n (pc := 45) 1 dX12_nearest_45 rfl ?_
      refine G_iload (pc := 46) 6 dX12_nearest_46 rfl ?_
      refine G_iconst (pc := 48) (v := 0) dX12_nearest_48 rfl ?_
      refine gV3 (pc := 49) (k' := 0) (n' := 0) dX12_nearest_49 lkX12_103 ⟨by decide, by decide⟩ (Nat.le_of_ble_eq_true rfl) rfl rfl ⟨by decide, by decide⟩ (by assumption) (c_X12_placePart (k := a) (p := k + 1) (c := 0) hM2 (by omega) ?_)
      dsimp only [gRt]
      refine G_iload_n (pc := 52) 2 dX12_nearest_52 rfl ?_
      refine G_isub (pc := 53) dX12_nearest_53 ?_
      refine gS1 (pc := 54) (k' := 0) (n' := 0) dX12_nearest_54 lkX12_178 ⟨by decide, by decide⟩ (Nat.le_of_ble_eq_true rfl) rfl rfl ⟨by decide, by decide⟩ (c_X12_square ?_)
      dsimp only [gRt]
      refine G_aload_n (pc := 57) 0 dX12_nearest_57 rfl ?_
      refine G_iload_n (pc := 58) 1 dX12_nearest_58 rfl ?_
      refine G_iload (pc := 59) 6 dX12_nearest_59 rfl ?_
      refine G_iconst (pc := 61) (v := 1) dX12_nearest_61 rfl ?_
      refine gV3 (pc := 62) (k' := 0) (n' := 0) dX12_nearest_62 lkX12_103 ⟨by decide, by decide⟩ (Nat.le_of_ble_eq_true rfl) rfl rfl ⟨by decide, by decide⟩ (by assumption) (c_X12_placePart (k := a) (p := k + 1) (c := 1) hM2 (by omega) ?_)
      dsimp only [gRt]
      refine G_iload_n (pc := 65) 3 dX12_nearest_65 rfl ?_
      refine G_isub (pc := 66) dX12_nearest_66 ?_
      refine gS1 (pc := 67) (k' := 0) (n' := 0) dX12_nearest_67 lkX12_178 ⟨by decide, by decide⟩ (Nat.le_of_ble_eq_true rfl) rfl rfl ⟨by decide, by decide⟩ (c_X12_square ?_)
      dsimp only [gRt]
      refine G_iadd (pc := 70) dX12_nearest_70 ?_
      rw [show (i (m + 1) (23 + 166 * a + 6 + 4 * (k + 1) + 0) - x) * (i (m + 1) (23 + 166 * a + 6 + 4 * (k + 1) + 0) - x) + (i (m + 1) (23 + 166 * a + 6 + 4 * (k + 1) + 1) - y) * (i (m + 1) (23 + 166 * a + 6 + 4 * (k + 1) + 1) - y) = (farS (i (m + 1)) (23 + 166 * a) x y) (k + 1) from rfl]
      refine G_sn7 (pc := 71) (gSt_i dX12_nearest_71 (by decide)) rfl ?_
      refine G_iload (pc := 73) 5 dX12_nearest_73 rfl ?_
      refine G_if_lt (pc := 75) (tgt := 85) dX12_nearest_75 (by decide) (fun h75 => ?_) (fun h75 => ?_)
      · exact absurd h75 (hf _ (by omega))
      · refine G_iload (pc := 78) 7 dX12_nearest_78 rfl ?_
        refine G_iload (pc := 80) 5 dX12_nearest_80 rfl ?_
        refine G_icmp_ge (pc := 82) (tgt := 90) dX12_nearest_82 (by decide) (fun h82 => ?_) (fun h82 => ?_)
        · refine G_iload (pc := 90) 4 dX12_nearest_90 rfl ?_
          refine G_st4 (pc := 92) (gSt_i dX12_nearest_92 (by decide)) rfl ?_
          refine G_iload (pc := 94) 5 dX12_nearest_94 rfl ?_
          refine G_if_lt (pc := 96) (tgt := 106) dX12_nearest_96 (by decide) (fun h96 => ?_) (fun h96 => ?_)
          · exact absurd h96 (hf _ (by omega))
          · refine G_iload (pc := 99) 7 dX12_nearest_99 rfl ?_
            refine G_iload (pc := 101) 5 dX12_nearest_101 rfl ?_
            refine G_icmp_ge (pc := 103) (tgt := 111) dX12_nearest_103 (by decide) (fun h103 => ?_) (fun h103 => ?_)
            · refine G_iload (pc := 111) 5 dX12_nearest_111 rfl ?_
              refine G_st5 (pc := 113) (gSt_i dX12_nearest_113 (by decide)) rfl ?_
              refine G_inc6 (pc := 115) (v := 1) dX12_nearest_115 rfl (by decide) rfl ?_
              refine G_goto (pc := 118) (tgt := 34) dX12_nearest_118 (by decide) ?_
              refine G_drop7 ?_
              rw [nI_1]
              have e : nrF (farS (i (m + 1)) (23 + 166 * a) x y) (k + 1) = nrF (farS (i (m + 1)) (23 + 166 * a) x y) k := by rw [nrF, if_neg (Int32.not_lt.mpr h82)]
              rw [← e]
              exact ih (k + 1) (by omega)
            · refine G_iload (pc := 106) 7 dX12_nearest_106 rfl ?_
              refine G_goto (pc := 108) (tgt := 113) dX12_nearest_108 (by decide) ?_
              refine G_st5 (pc := 113) (gSt_i dX12_nearest_113 (by decide)) rfl ?_
              refine G_inc6 (pc := 115) (v := 1) dX12_nearest_115 rfl (by decide) rfl ?_
              refine G_goto (pc := 118) (tgt := 34) dX12_nearest_118 (by decide) ?_
              refine G_drop7 ?_
              exact absurd h82 h103
        · refine G_iload (pc := 85) 6 dX12_nearest_85 rfl ?_
          refine G_goto (pc := 87) (tgt := 92) dX12_nearest_87 (by decide) ?_
          refine G_st4 (pc := 92) (gSt_i dX12_nearest_92 (by decide)) rfl ?_
          refine G_iload (pc := 94) 5 dX12_nearest_94 rfl ?_
          refine G_if_lt (pc := 96) (tgt := 106) dX12_nearest_96 (by decide) (fun h96 => ?_) (fun h96 => ?_)
          · exact absurd h96 (hf _ (by omega))
          · refine G_iload (pc := 99) 7 dX12_nearest_99 rfl ?_
            refine G_iload (pc := 101) 5 dX12_nearest_101 rfl ?_
            refine G_icmp_ge (pc := 103) (tgt := 111) dX12_nearest_103 (by decide) (fun h103 => ?_) (fun h103 => ?_)
            · refine G_iload (pc := 111) 5 dX12_nearest_111 rfl ?_
              refine G_st5 (pc := 113) (gSt_i dX12_nearest_113 (by decide)) rfl ?_
              refine G_inc6 (pc := 115) (v := 1) dX12_nearest_115 rfl (by decide) rfl ?_
              refine G_goto (pc := 118) (tgt := 34) dX12_nearest_118 (by decide) ?_
              refine G_drop7 ?_
              exact absurd h103 h82
            · refine G_iload (pc := 106) 7 dX12_nearest_106 rfl ?_
              refine G_goto (pc := 108) (tgt := 113) dX12_nearest_108 (by decide) ?_
              refine G_st5 (pc := 113) (gSt_i dX12_nearest_113 (by decide)) rfl ?_
              refine G_inc6 (pc := 115) (v := 1) dX12_nearest_115 rfl (by decide) rfl ?_
              refine G_goto (pc := 118) (tgt := 34) dX12_nearest_118 (by decide) ?_
              refine G_drop7 ?_
              rw [nI_1]
              have e : nrF (farS (i (m + 1)) (23 + 166 * a) x y) (k + 1) = k + 1 := by rw [nrF, if_pos (Int32.not_le.mp h82)]
              have ih2 := ih (k + 1) (by omega)
              rw [e] at ih2
              exact ih2

set_option maxRecDepth 100000 in
set_option maxHeartbeats 4000000 in
theorem c_X12_nearest {Γ : gG} {T : gTy} {r : gR} {l : gLg} {i : gI} {Q : gQ} {m : Nat} {S : Nat → Int32} {w x y : Int32} (hM : lyM T r m) (he : i (m + 1) = S) (hS : vS S) (hQ : Q (some (.int (aNear S w x y))) T r l i) : gC Γ MX12_nearest [.ref m, .int w, .int x, .int y] T r l i Q := by
  have hM2 := hM
  obtain ⟨m0, m1, m2, m3, m4, m5, m6, m7, m8, m9, m10⟩ := hM
  subst he
  have hT := hS.1
  have hE := hS.2.1
  have hn6 := hT.1.1
  have hn0 := hT.1.2.1
  obtain ⟨w5, w1, wk⟩ := nW_of hS
  refine gC_of rfl (Nat.le_of_ble_eq_true rfl) (L := [(0, .ref m), (1, .int w), (2, .int x), (3, .int y)]) rfl ?_
  refine G_aload_n (pc := 0) 0 dX12_nearest_0 rfl ?_
  refine G_iload_n (pc := 1) 1 dX12_nearest_1 rfl ?_
  refine gV1 (pc := 2) (k' := 0) (n' := 0) dX12_nearest_2 lkX12_146 ⟨by decide, by decide⟩ (Nat.le_of_ble_eq_true rfl) rfl rfl ⟨by decide, by decide⟩ (by assumption) (c_X12_isWalk hM2 ?_)
  dsimp only [gRt]
  refine G_if_eq (pc := 5) (tgt := 22) dX12_nearest_5 (by decide) (fun h5 => ?_) (fun h5 => ?_)
  · refine G_ldc (pc := 22) dX12_nearest_22 kcX12_29 ?_
    refine G_iret (pc := 24) dX12_nearest_24 ⟨_, rfl, rfl⟩ ⟨by decide, by decide⟩ ?_
    rw [show aNear (i (m + 1)) w x y = -1000001 from if_neg (fun z => gB_eq.mp h5 z.1)] at hQ
    exact hQ
  · obtain ⟨a, ha, rfl⟩ := (isW (by omega)).mp (w1 ▸ gB_ne.mp h5)
    obtain ⟨⟨z, hv⟩, _⟩ := wk a ha
    have hz40 := hv.2.1
    refine G_iload_n (pc := 8) 2 dX12_nearest_8 rfl ?_
    refine gS1 (pc := 9) (k' := 0) (n' := 0) dX12_nearest_9 lkX12_140 ⟨by decide, by decide⟩ (Nat.le_of_ble_eq_true rfl) rfl rfl ⟨by decide, by decide⟩ (c_X12_isIn ?_)
    dsimp only [gRt]
    refine G_if_eq (pc := 12) (tgt := 22) dX12_nearest_12 (by decide) (fun h12 => ?_) (fun h12 => ?_)
    · refine G_ldc (pc := 22) dX12_nearest_22 kcX12_29 ?_
      refine G_iret (pc := 24) dX12_nearest_24 ⟨_, rfl, rfl⟩ ⟨by decide, by decide⟩ ?_
      rw [show aNear (i (m + 1)) (nI a) x y = -1000001 from if_neg (fun z => gB_eq.mp h12 z.2.1)] at hQ
      exact hQ
    · refine G_iload_n (pc := 15) 3 dX12_nearest_15 rfl ?_
      refine gS1 (pc := 16) (k' := 0) (n' := 0) dX12_nearest_16 lkX12_140 ⟨by decide, by decide⟩ (Nat.le_of_ble_eq_true rfl) rfl rfl ⟨by decide, by decide⟩ (c_X12_isIn ?_)
      dsimp only [gRt]
      refine G_if_ne (pc := 19) (tgt := 25) dX12_nearest_19 (by decide) (fun h19 => ?_) (fun h19 => ?_)
      · refine G_iconst (pc := 25) (v := 0) dX12_nearest_25 rfl ?_
        refine G_sn4 (pc := 26) (gSt_i dX12_nearest_26 (by decide)) rfl ?_
        refine G_iconst (pc := 28) (v := (-1)) dX12_nearest_28 rfl ?_
        refine G_sn5 (pc := 29) (gSt_i dX12_nearest_29 (by decide)) rfl ?_
        refine G_iconst (pc := 31) (v := 0) dX12_nearest_31 rfl ?_
        refine G_sn6 (pc := 32) (gSt_i dX12_nearest_32 (by decide)) rfl ?_
        have hx := inI_inB.mp (gB_ne.mp h12)
        have hy := inI_inB.mp (gB_ne.mp h19)
        have hf : ∀ k, k ≤ z → ¬ (farS (i (m + 1)) (23 + 166 * a) x y) k < 0 := fun k hk => (far_i (hv.2.2.2.2.2 k hk).1 (hv.2.2.2.2.2 k hk).2.1 hx hy).2
        rw [show aNear (i (m + 1)) (nI a) x y = nI (nrF (farS (i (m + 1)) (23 + 166 * a) x y) z) by unfold aNear; rw [if_pos ⟨gB_ne.mp h5, gB_ne.mp h12, gB_ne.mp h19⟩, nI_clamp (by omega), hv.1, nI_clamp (by omega), Nat.add_sub_cancel]] at hQ
        refine G_iload (pc := 34) 6 dX12_nearest_34 rfl ?_
        refine G_aload_n (pc := 36) 0 dX12_nearest_36 rfl ?_
        refine G_iload_n (pc := 37) 1 dX12_nearest_37 rfl ?_
        refine gV1 (pc := 38) (k' := 0) (n' := 0) dX12_nearest_38 lkX12_80 ⟨by decide, by decide⟩ (Nat.le_of_ble_eq_true rfl) rfl rfl ⟨by decide, by decide⟩ (by assumption) (c_X12_places (k := a) hM2 (by omega) ?_)
        dsimp only [gRt]
        rw [hv.1]
        refine G_icmp_ge (pc := 41) (tgt := 121) dX12_nearest_41 (by decide) (fun h41 => ?_) (fun h41 => ?_)
        · exact absurd h41 (by rw [gl0]; exact nI_ge (by omega) (by omega))
        · refine G_aload_n (pc := 44) 0 dX12_nearest_44 rfl ?_
          refine G_iload_n (pc := 45) 1 dX12_nearest_45 rfl ?_
          refine G_iload (pc := 46) 6 dX12_nearest_46 rfl ?_
          refine G_iconst (pc := 48) (v := 0) dX12_nearest_48 rfl ?_
          refine gV3 (pc := 49) (k' := 0) (n' := 0) dX12_nearest_49 lkX12_103 ⟨by decide, by decide⟩ (Nat.le_of_ble_eq_true rfl) rfl rfl ⟨by decide, by decide⟩ (by assumption) (c_X12_placePart (k := a) (p := 0) (c := 0) hM2 (by omega) ?_)
          dsimp only [gRt]
          refine G_iload_n (pc := 52) 2 dX12_nearest_52 rfl ?_
          refine G_isub (pc := 53) dX12_nearest_53 ?_
          refine gS1 (pc := 54) (k' := 0) (n' := 0) dX12_nearest_54 lkX12_178 ⟨by decide, by decide⟩ (Nat.le_of_ble_eq_true rfl) rfl rfl ⟨by decide, by decide⟩ (c_X12_square ?_)
          dsimp only [gRt]
          refine G_aload_n (pc := 57) 0 dX12_nearest_57 rfl ?_
          refine G_iload_n (pc := 58) 1 dX12_nearest_58 rfl ?_
          refine G_iload (pc := 59) 6 dX12_nearest_59 rfl ?_
          refine G_iconst (pc := 61) (v := 1) dX12_nearest_61 rfl ?_
          refine gV3 (pc := 62) (k' := 0) (n' := 0) dX12_nearest_62 lkX12_103 ⟨by decide, by decide⟩ (Nat.le_of_ble_eq_true rfl) rfl rfl ⟨by decide, by decide⟩ (by assumption) (c_X12_placePart (k := a) (p := 0) (c := 1) hM2 (by omega) ?_)
          dsimp only [gRt]
          refine G_iload_n (pc := 65) 3 dX12_nearest_65 rfl ?_
          refine G_isub (pc := 66) dX12_nearest_66 ?_
          refine gS1 (pc := 67) (k' := 0) (n' := 0) dX12_nearest_67 lkX12_178 ⟨by decide, by decide⟩ (Nat.le_of_ble_eq_true rfl) rfl rfl ⟨by decide, by decide⟩ (c_X12_square ?_)
          dsimp only [gRt]
          refine G_iadd (pc := 70) dX12_nearest_70 ?_
          rw [show (i (m + 1) (23 + 166 * a + 6 + 4 * 0 + 0) - x) * (i (m + 1) (23 + 166 * a + 6 + 4 * 0 + 0) - x) + (i (m + 1) (23 + 166 * a + 6 + 4 * 0 + 1) - y) * (i (m + 1) (23 + 166 * a + 6 + 4 * 0 + 1) - y) = (farS (i (m + 1)) (23 + 166 * a) x y) 0 from rfl]
          refine G_sn7 (pc := 71) (gSt_i dX12_nearest_71 (by decide)) rfl ?_
          refine G_iload (pc := 73) 5 dX12_nearest_73 rfl ?_
          refine G_if_lt (pc := 75) (tgt := 85) dX12_nearest_75 (by decide) (fun h75 => ?_) (fun h75 => ?_)
          · refine G_iload (pc := 85) 6 dX12_nearest_85 rfl ?_
            refine G_goto (pc := 87) (tgt := 92) dX12_nearest_87 (by decide) ?_
            refine G_st4 (pc := 92) (gSt_i dX12_nearest_92 (by decide)) rfl ?_
            refine G_iload (pc := 94) 5 dX12_nearest_94 rfl ?_
            refine G_if_lt (pc := 96) (tgt := 106) dX12_nearest_96 (by decide) (fun h96 => ?_) (fun h96 => ?_)
            · refine G_iload (pc := 106) 7 dX12_nearest_106 rfl ?_
              refine G_goto (pc := 108) (tgt := 113) dX12_nearest_108 (by decide) ?_
              refine G_st5 (pc := 113) (gSt_i dX12_nearest_113 (by decide)) rfl ?_
              refine G_inc6 (pc := 115) (v := 1) dX12_nearest_115 rfl (by decide) rfl ?_
              refine G_goto (pc := 118) (tgt := 34) dX12_nearest_118 (by decide) ?_
              refine G_drop7 ?_
              exact lp_X12_nearest hM2 (by omega) hv.1 hv.2.1 hf hQ z 0 (Nat.zero_add z)
            · exact absurd (by decide) h96
          · exact absurd (by decide) h75
      · refine G_ldc (pc := 22) dX12_nearest_22 kcX12_29 ?_
        refine G_iret (pc := 24) dX12_nearest_24 ⟨_, rfl, rfl⟩ ⟨by decide, by decide⟩ ?_
        rw [show aNear (i (m + 1)) (nI a) x y = -1000001 from if_neg (fun z => gB_eq.mp h19 z.2.2)] at hQ
        exact hQ

def mtS (f : Int64) : Int32 := if 0 < f then 1 else if f < 0 then -1 else 0
/-- t lines are seen: the changes, the last sign -/
def mtR (f : Nat → Int64) : Nat → Int32 × Int32
  | 0 => (0, 0)
  | t + 1 => ((mtR f t).1 + (if mtS (f t) * (mtR f t).2 < 0 then 1 else 0), if mtS (f t) = 0 then (mtR f t).2 else mtS (f t))
def mtF (S : Nat → Int32) (x : Int32) (t : Nat) : Int64 := gSum (tF S) (tP S) (tQ S) x.toInt64 (nI t - 1024).toInt64 0 (tN S)
def aMeets (S : Nat → Int32) (x : Int32) : Int32 := if inI x (-1024) 1024 then (mtR (mtF S x) 2049).1 else -1000001
theorem mt_lt {t : Nat} (h : t < 2049) : ¬ (1024 : Int32) < nI t - 1024 := by
  rw [Int32.lt_iff_toInt_lt, Int32.toInt_sub, nI_toInt (by omega), show (1024 : Int32).toInt = 1024 by decide, bmod_i (by omega)]
  omega
theorem mt_inc {t : Nat} : nI t - 1024 + 1 = nI (t + 1) - 1024 := by
  rw [← nI_1, Int32.sub_eq_add_neg, Int32.sub_eq_add_neg, Int32.add_assoc, Int32.add_assoc, Int32.add_comm (-1024) 1]
set_option maxRecDepth 100000 in
set_option maxHeartbeats 4000000 in
theorem lp_X12_meets {Γ : gG} {T : gTy} {r : gR} {l : gLg} {i : gI} {Q : gQ} {m : Nat} {x : Int32} (hM : lyM T r m) (hV : vT (i (m + 1))) (hQ : Q (some (.int (mtR (mtF (i (m + 1)) x) 2049).1)) T r l i) : ∀ d t, t + d = 2049 → G Γ MX12_meets 0 0 19 [(0, .ref m), (1, .int x), (2, .int (mtR (mtF (i (m + 1)) x) t).1), (3, .int (mtR (mtF (i (m + 1)) x) t).2), (4, .int (nI t - 1024))] [] T r l i Q := by
  have hM2 := hM
  obtain ⟨m0, m1, m2, m3, m4, m5, m6, m7, m8, m9, m10⟩ := hM
  intro d
  induction d with
  | zero =>
    intro t ht
    obtain rfl : t = 2049 := by omega
    refine G_iload (pc := 19) 4 dX12_meets_19 rfl ?_
    refine G_sipush (pc := 21) (v := 1024) dX12_meets_21 rfl ?_
    refine G_icmp_gt (pc := 24) (tgt := 95) dX12_meets_24 (by decide) (fun h24 => ?_) (fun h24 => ?_)
    · refine G_iload_n (pc := 95) 2 dX12_meets_95 rfl ?_
      refine G_iret (pc := 96) dX12_meets_96 ⟨_, rfl, rfl⟩ ⟨by decide, by decide⟩ ?_
      exact hQ
    · exact absurd (by decide) h24
  | succ d ih =>
    intro t ht
    refine G_iload (pc := 19) 4 dX12_meets_19 rfl ?_
    refine G_sipush (pc := 21) (v := 1024) dX12_meets_21 rfl ?_
    refine G_icmp_gt (pc := 24) (tgt := 95) dX12_meets_24 (by decide) (fun h24 => ?_) (fun h24 => ?_)
    · exact absurd h24 (mt_lt (by omega))
    · refine G_aload_n (pc := 27) 0 dX12_meets_27 rfl ?_
      refine G_iload_n (pc := 28) 1 dX12_meets_28 rfl ?_
      refine G_iload (pc := 29) 4 dX12_meets_29 rfl ?_
      refine G_iconst (pc := 31) (v := 0) dX12_meets_31 rfl ?_
      refine gV3 (pc := 32) (k' := 0) (n' := 0) dX12_meets_32 lkX12_61 ⟨by decide, by decide⟩ (Nat.le_of_ble_eq_true rfl) rfl rfl ⟨by decide, by decide⟩ (by assumption) (c_X12_sum (w := 0) hM2 hV.1 (by decide) ?_)
      dsimp only [gRt]
      rw [show gSum (tF (i (m + 1))) (tP (i (m + 1))) (tQ (i (m + 1))) x.toInt64 (nI t - 1024).toInt64 0 (tN (i (m + 1))) = (mtF (i (m + 1)) x) t from rfl]
      refine G_sn5 (pc := 35) (gSt_l dX12_meets_35 (by decide)) rfl ?_
      refine G_lload (pc := 37) 5 dX12_meets_37 rfl ?_
      refine G_lconst (pc := 39) (v := 0) dX12_meets_39 rfl ?_
      refine G_lif_le (pc := 40) (tgt := 48) dX12_meets_40 dX12_meets_41 (by decide) (fun h40 => ?_) (fun h40 => ?_)
      · refine G_lload (pc := 48) 5 dX12_meets_48 rfl ?_
        refine G_lconst (pc := 50) (v := 0) dX12_meets_50 rfl ?_
        refine G_lif_ge (pc := 51) (tgt := 59) dX12_meets_51 dX12_meets_52 (by decide) (fun h51 => ?_) (fun h51 => ?_)
        · refine G_iconst (pc := 59) (v := 0) dX12_meets_59 rfl ?_
          have es : mtS ((mtF (i (m + 1)) x) t) = 0 := (if_neg (Int64.not_lt.mpr h40)).trans (if_neg (Int64.not_lt.mpr h51))
          rw [← es]
          refine G_sn6 (pc := 60) (gSt_i dX12_meets_60 (by decide)) rfl ?_
          refine G_iload_n (pc := 62) 2 dX12_meets_62 rfl ?_
          refine G_iload (pc := 63) 6 dX12_meets_63 rfl ?_
          refine G_iload_n (pc := 65) 3 dX12_meets_65 rfl ?_
          refine G_imul (pc := 66) dX12_meets_66 ?_
          refine G_if_ge (pc := 67) (tgt := 74) dX12_meets_67 (by decide) (fun h67 => ?_) (fun h67 => ?_)
          · refine G_iconst (pc := 74) (v := 0) dX12_meets_74 rfl ?_
            refine G_iadd (pc := 75) dX12_meets_75 ?_
            refine G_st2 (pc := 76) (gSt_in dX12_meets_76 rfl (by decide)) rfl ?_
            refine G_iload (pc := 77) 6 dX12_meets_77 rfl ?_
            refine G_if_ne (pc := 79) (tgt := 86) dX12_meets_79 (by decide) (fun h79 => ?_) (fun h79 => ?_)
            · refine G_iload (pc := 86) 6 dX12_meets_86 rfl ?_
              refine G_st3 (pc := 88) (gSt_in dX12_meets_88 rfl (by decide)) rfl ?_
              refine G_inc4 (pc := 89) (v := 1) dX12_meets_89 rfl (by decide) rfl ?_
              refine G_goto (pc := 92) (tgt := 19) dX12_meets_92 (by decide) ?_
              refine G_drop6 ?_
              refine G_drop5 ?_
              have e1 : (mtR (mtF (i (m + 1)) x) (t + 1)).1 = (mtR (mtF (i (m + 1)) x) t).1 + 0 := by rw [mtR, if_neg (Int32.not_lt.mpr h67)]
              have e2 : (mtR (mtF (i (m + 1)) x) (t + 1)).2 = mtS ((mtF (i (m + 1)) x) t) := by rw [mtR, if_neg h79]
              rw [mt_inc, ← e1, ← e2]
              exact ih (t + 1) (by omega)
            · refine G_iload_n (pc := 82) 3 dX12_meets_82 rfl ?_
              refine G_goto (pc := 83) (tgt := 88) dX12_meets_83 (by decide) ?_
              refine G_st3 (pc := 88) (gSt_in dX12_meets_88 rfl (by decide)) rfl ?_
              refine G_inc4 (pc := 89) (v := 1) dX12_meets_89 rfl (by decide) rfl ?_
              refine G_goto (pc := 92) (tgt := 19) dX12_meets_92 (by decide) ?_
              refine G_drop6 ?_
              refine G_drop5 ?_
              have e1 : (mtR (mtF (i (m + 1)) x) (t + 1)).1 = (mtR (mtF (i (m + 1)) x) t).1 + 0 := by rw [mtR, if_neg (Int32.not_lt.mpr h67)]
              have e2 : (mtR (mtF (i (m + 1)) x) (t + 1)).2 = (mtR (mtF (i (m + 1)) x) t).2 := by rw [mtR, if_pos h79]
              rw [mt_inc, ← e1, ← e2]
              exact ih (t + 1) (by omega)
          · refine G_iconst (pc := 70) (v := 1) dX12_meets_70 rfl ?_
            refine G_goto (pc := 71) (tgt := 75) dX12_meets_71 (by decide) ?_
            refine G_iadd (pc := 75) dX12_meets_75 ?_
            refine G_st2 (pc := 76) (gSt_in dX12_meets_76 rfl (by decide)) rfl ?_
            refine G_iload (pc := 77) 6 dX12_meets_77 rfl ?_
            refine G_if_ne (pc := 79) (tgt := 86) dX12_meets_79 (by decide) (fun h79 => ?_) (fun h79 => ?_)
            · refine G_iload (pc := 86) 6 dX12_meets_86 rfl ?_
              refine G_st3 (pc := 88) (gSt_in dX12_meets_88 rfl (by decide)) rfl ?_
              refine G_inc4 (pc := 89) (v := 1) dX12_meets_89 rfl (by decide) rfl ?_
              refine G_goto (pc := 92) (tgt := 19) dX12_meets_92 (by decide) ?_
              refine G_drop6 ?_
              refine G_drop5 ?_
              have e1 : (mtR (mtF (i (m + 1)) x) (t + 1)).1 = (mtR (mtF (i (m + 1)) x) t).1 + 1 := by rw [mtR, if_pos (Int32.not_le.mp h67)]
              have e2 : (mtR (mtF (i (m + 1)) x) (t + 1)).2 = mtS ((mtF (i (m + 1)) x) t) := by rw [mtR, if_neg h79]
              rw [mt_inc, ← e1, ← e2]
              exact ih (t + 1) (by omega)
            · refine G_iload_n (pc := 82) 3 dX12_meets_82 rfl ?_
              refine G_goto (pc := 83) (tgt := 88) dX12_meets_83 (by decide) ?_
              refine G_st3 (pc := 88) (gSt_in dX12_meets_88 rfl (by decide)) rfl ?_
              refine G_inc4 (pc := 89) (v := 1) dX12_meets_89 rfl (by decide) rfl ?_
              refine G_goto (pc := 92) (tgt := 19) dX12_meets_92 (by decide) ?_
              refine G_drop6 ?_
              refine G_drop5 ?_
              have e1 : (mtR (mtF (i (m + 1)) x) (t + 1)).1 = (mtR (mtF (i (m + 1)) x) t).1 + 1 := by rw [mtR, if_pos (Int32.not_le.mp h67)]
              have e2 : (mtR (mtF (i (m + 1)) x) (t + 1)).2 = (mtR (mtF (i (m + 1)) x) t).2 := by rw [mtR, if_pos h79]
              rw [mt_inc, ← e1, ← e2]
              exact ih (t + 1) (by omega)
        · refine G_iconst (pc := 55) (v := (-1)) dX12_meets_55 rfl ?_
          refine G_goto (pc := 56) (tgt := 60) dX12_meets_56 (by decide) ?_
          have es : mtS ((mtF (i (m + 1)) x) t) = (-1) := (if_neg (Int64.not_lt.mpr h40)).trans (if_pos (Int64.not_le.mp h51))
          rw [← es]
          refine G_sn6 (pc := 60) (gSt_i dX12_meets_60 (by decide)) rfl ?_
          refine G_iload_n (pc := 62) 2 dX12_meets_62 rfl ?_
          refine G_iload (pc := 63) 6 dX12_meets_63 rfl ?_
          refine G_iload_n (pc := 65) 3 dX12_meets_65 rfl ?_
          refine G_imul (pc := 66) dX12_meets_66 ?_
          refine G_if_ge (pc := 67) (tgt := 74) dX12_meets_67 (by decide) (fun h67 => ?_) (fun h67 => ?_)
          · refine G_iconst (pc := 74) (v := 0) dX12_meets_74 rfl ?_
            refine G_iadd (pc := 75) dX12_meets_75 ?_
            refine G_st2 (pc := 76) (gSt_in dX12_meets_76 rfl (by decide)) rfl ?_
            refine G_iload (pc := 77) 6 dX12_meets_77 rfl ?_
            refine G_if_ne (pc := 79) (tgt := 86) dX12_meets_79 (by decide) (fun h79 => ?_) (fun h79 => ?_)
            · refine G_iload (pc := 86) 6 dX12_meets_86 rfl ?_
              refine G_st3 (pc := 88) (gSt_in dX12_meets_88 rfl (by decide)) rfl ?_
              refine G_inc4 (pc := 89) (v := 1) dX12_meets_89 rfl (by decide) rfl ?_
              refine G_goto (pc := 92) (tgt := 19) dX12_meets_92 (by decide) ?_
              refine G_drop6 ?_
              refine G_drop5 ?_
              have e1 : (mtR (mtF (i (m + 1)) x) (t + 1)).1 = (mtR (mtF (i (m + 1)) x) t).1 + 0 := by rw [mtR, if_neg (Int32.not_lt.mpr h67)]
              have e2 : (mtR (mtF (i (m + 1)) x) (t + 1)).2 = mtS ((mtF (i (m + 1)) x) t) := by rw [mtR, if_neg h79]
              rw [mt_inc, ← e1, ← e2]
              exact ih (t + 1) (by omega)
            · refine G_iload_n (pc := 82) 3 dX12_meets_82 rfl ?_
              refine G_goto (pc := 83) (tgt := 88) dX12_meets_83 (by decide) ?_
              refine G_st3 (pc := 88) (gSt_in dX12_meets_88 rfl (by decide)) rfl ?_
              refine G_inc4 (pc := 89) (v := 1) dX12_meets_89 rfl (by decide) rfl ?_
              refine G_goto (pc := 92) (tgt := 19) dX12_meets_92 (by decide) ?_
              refine G_drop6 ?_
              refine G_drop5 ?_
              have e1 : (mtR (mtF (i (m + 1)) x) (t + 1)).1 = (mtR (mtF (i (m + 1)) x) t).1 + 0 := by rw [mtR, if_neg (Int32.not_lt.mpr h67)]
              have e2 : (mtR (mtF (i (m + 1)) x) (t + 1)).2 = (mtR (mtF (i (m + 1)) x) t).2 := by rw [mtR, if_pos h79]
              rw [mt_inc, ← e1, ← e2]
              exact ih (t + 1) (by omega)
          · refine G_iconst (pc := 70) (v := 1) dX12_meets_70 rfl ?_
            refine G_goto (pc := 71) (tgt := 75) dX12_meets_71 (by decide) ?_
            refine G_iadd (pc := 75) dX12_meets_75 ?_
            refine G_st2 (pc := 76) (gSt_in dX12_meets_76 rfl (by decide)) rfl ?_
            refine G_iload (pc := 77) 6 dX12_meets_77 rfl ?_
            refine G_if_ne (pc := 79) (tgt := 86) dX12_meets_79 (by decide) (fun h79 => ?_) (fun h79 => ?_)
            · refine G_iload (pc := 86) 6 dX12_meets_86 rfl ?_
              refine G_st3 (pc := 88) (gSt_in dX12_meets_88 rfl (by decide)) rfl ?_
              refine G_inc4 (pc := 89) (v := 1) dX12_meets_89 rfl (by decide) rfl ?_
              refine G_goto (pc := 92) (tgt := 19) dX12_meets_92 (by decide) ?_
              refine G_drop6 ?_
              refine G_drop5 ?_
              have e1 : (mtR (mtF (i (m + 1)) x) (t + 1)).1 = (mtR (mtF (i (m + 1)) x) t).1 + 1 := by rw [mtR, if_pos (Int32.not_le.mp h67)]
              have e2 : (mtR (mtF (i (m + 1)) x) (t + 1)).2 = mtS ((mtF (i (m + 1)) x) t) := by rw [mtR, if_neg h79]
              rw [mt_inc, ← e1, ← e2]
              exact ih (t + 1) (by omega)
            · refine G_iload_n (pc := 82) 3 dX12_meets_82 rfl ?_
              refine G_goto (pc := 83) (tgt := 88) dX12_meets_83 (by decide) ?_
              refine G_st3 (pc := 88) (gSt_in dX12_meets_88 rfl (by decide)) rfl ?_
              refine G_inc4 (pc := 89) (v := 1) dX12_meets_89 rfl (by decide) rfl ?_
              refine G_goto (pc := 92) (tgt := 19) dX12_meets_92 (by decide) ?_
              refine G_drop6 ?_
              refine G_drop5 ?_
              have e1 : (mtR (mtF (i (m + 1)) x) (t + 1)).1 = (mtR (mtF (i (m + 1)) x) t).1 + 1 := by rw [mtR, if_pos (Int32.not_le.mp h67)]
              have e2 : (mtR (mtF (i (m + 1)) x) (t + 1)).2 = (mtR (mtF (i (m + 1)) x) t).2 := by rw [mtR, if_pos h79]
              rw [mt_inc, ← e1, ← e2]
              exact ih (t + 1) (by omega)
      · refine G_iconst (pc := 44) (v := 1) dX12_meets_44 rfl ?_
        refine G_goto (pc := 45) (tgt := 60) dX12_meets_45 (by decide) ?_
        have es : mtS ((mtF (i (m + 1)) x) t) = 1 := if_pos (Int64.not_le.mp h40)
        rw [← es]
        refine G_sn6 (pc := 60) (gSt_i dX12_meets_60 (by decide)) rfl ?_
        refine G_iload_n (pc := 62) 2 dX12_meets_62 rfl ?_
        refine G_iload (pc := 63) 6 dX12_meets_63 rfl ?_
        refine G_iload_n (pc := 65) 3 dX12_meets_65 rfl ?_
        refine G_imul (pc := 66) dX12_meets_66 ?_
        refine G_if_ge (pc := 67) (tgt := 74) dX12_meets_67 (by decide) (fun h67 => ?_) (fun h67 => ?_)
        · refine G_iconst (pc := 74) (v := 0) dX12_meets_74 rfl ?_
          refine G_iadd (pc := 75) dX12_meets_75 ?_
          refine G_st2 (pc := 76) (gSt_in dX12_meets_76 rfl (by decide)) rfl ?_
          refine G_iload (pc := 77) 6 dX12_meets_77 rfl ?_
          refine G_if_ne (pc := 79) (tgt := 86) dX12_meets_79 (by decide) (fun h79 => ?_) (fun h79 => ?_)
          · refine G_iload (pc := 86) 6 dX12_meets_86 rfl ?_
            refine G_st3 (pc := 88) (gSt_in dX12_meets_88 rfl (by decide)) rfl ?_
            refine G_inc4 (pc := 89) (v := 1) dX12_meets_89 rfl (by decide) rfl ?_
            refine G_goto (pc := 92) (tgt := 19) dX12_meets_92 (by decide) ?_
            refine G_drop6 ?_
            refine G_drop5 ?_
            have e1 : (mtR (mtF (i (m + 1)) x) (t + 1)).1 = (mtR (mtF (i (m + 1)) x) t).1 + 0 := by rw [mtR, if_neg (Int32.not_lt.mpr h67)]
            have e2 : (mtR (mtF (i (m + 1)) x) (t + 1)).2 = mtS ((mtF (i (m + 1)) x) t) := by rw [mtR, if_neg h79]
            rw [mt_inc, ← e1, ← e2]
            exact ih (t + 1) (by omega)
          · refine G_iload_n (pc := 82) 3 dX12_meets_82 rfl ?_
            refine G_goto (pc := 83) (tgt := 88) dX12_meets_83 (by decide) ?_
            refine G_st3 (pc := 88) (gSt_in dX12_meets_88 rfl (by decide)) rfl ?_
            refine G_inc4 (pc := 89) (v := 1) dX12_meets_89 rfl (by decide) rfl ?_
            refine G_goto (pc := 92) (tgt := 19) dX12_meets_92 (by decide) ?_
            refine G_drop6 ?_
            refine G_drop5 ?_
            have e1 : (mtR (mtF (i (m + 1)) x) (t + 1)).1 = (mtR (mtF (i (m + 1)) x) t).1 + 0 := by rw [mtR, if_neg (Int32.not_lt.mpr h67)]
            have e2 : (mtR (mtF (i (m + 1)) x) (t + 1)).2 = (mtR (mtF (i (m + 1)) x) t).2 := by rw [mtR, if_pos h79]
            rw [mt_inc, ← e1, ← e2]
            exact ih (t + 1) (by omega)
        · refine G_iconst (pc := 70) (v := 1) dX12_meets_70 rfl ?_
          refine G_goto (pc := 71) (tgt := 75) dX12_meets_71 (by decide) ?_
          refine G_iadd (pc := 75) dX12_meets_75 ?_
          refine G_st2 (pc := 76) (gSt_in dX12_meets_76 rfl (by decide)) rfl ?_
          refine G_iload (pc := 77) 6 dX12_meets_77 rfl ?_
          refine G_if_ne (pc := 79) (tgt := 86) dX12_meets_79 (by decide) (fun h79 => ?_) (fun h79 => ?_)
          · refine G_iload (pc := 86) 6 dX12_meets_86 rfl ?_
            refine G_st3 (pc := 88) (gSt_in dX12_meets_88 rfl (by decide)) rfl ?_
            refine G_inc4 (pc := 89) (v := 1) dX12_meets_89 rfl (by decide) rfl ?_
            refine G_goto (pc := 92) (tgt := 19) dX12_meets_92 (by decide) ?_
            refine G_drop6 ?_
            refine G_drop5 ?_
            have e1 : (mtR (mtF (i (m + 1)) x) (t + 1)).1 = (mtR (mtF (i (m + 1)) x) t).1 + 1 := by rw [mtR, if_pos (Int32.not_le.mp h67)]
            have e2 : (mtR (mtF (i (m + 1)) x) (t + 1)).2 = mtS ((mtF (i (m + 1)) x) t) := by rw [mtR, if_neg h79]
            rw [mt_inc, ← e1, ← e2]
            exact ih (t + 1) (by omega)
          · refine G_iload_n (pc := 82) 3 dX12_meets_82 rfl ?_
            refine G_goto (pc := 83) (tgt := 88) dX12_meets_83 (by decide) ?_
            refine G_st3 (pc := 88) (gSt_in dX12_meets_88 rfl (by decide)) rfl ?_
            refine G_inc4 (pc := 89) (v := 1) dX12_meets_89 rfl (by decide) rfl ?_
            refine G_goto (pc := 92) (tgt := 19) dX12_meets_92 (by decide) ?_
            refine G_drop6 ?_
            refine G_drop5 ?_
            have e1 : (mtR (mtF (i (m + 1)) x) (t + 1)).1 = (mtR (mtF (i (m + 1)) x) t).1 + 1 := by rw [mtR, if_pos (Int32.not_le.mp h67)]
            have e2 : (mtR (mtF (i (m + 1)) x) (t + 1)).2 = (mtR (mtF (i (m + 1)) x) t).2 := by rw [mtR, if_pos h79]
            rw [mt_inc, ← e1, ← e2]
            exact ih (t + 1) (by omega)

set_option maxRecDepth 100000 in
set_option maxHeartbeats 4000000 in
theorem c_X12_meets {Γ : gG} {T : gTy} {r : gR} {l : gLg} {i : gI} {Q : gQ} {m : Nat} {S : Nat → Int32} {x : Int32} (hM : lyM T r m) (he : i (m + 1) = S) (hS : vS S) (hQ : Q (some (.int (aMeets S x))) T r l i) : gC Γ MX12_meets [.ref m, .int x] T r l i Q := by
  have hM2 := hM
  obtain ⟨m0, m1, m2, m3, m4, m5, m6, m7, m8, m9, m10⟩ := hM
  subst he
  have hT := hS.1
  have hE := hS.2.1
  have hn6 := hT.1.1
  have hn0 := hT.1.2.1
  obtain ⟨w5, w1, wk⟩ := nW_of hS
  refine gC_of rfl (Nat.le_of_ble_eq_true rfl) (L := [(0, .ref m), (1, .int x)]) rfl ?_
  refine G_iload_n (pc := 0) 1 dX12_meets_0 rfl ?_
  refine gS1 (pc := 1) (k' := 0) (n' := 0) dX12_meets_1 lkX12_140 ⟨by decide, by decide⟩ (Nat.le_of_ble_eq_true rfl) rfl rfl ⟨by decide, by decide⟩ (c_X12_isIn ?_)
  dsimp only [gRt]
  refine G_if_ne (pc := 4) (tgt := 10) dX12_meets_4 (by decide) (fun h4 => ?_) (fun h4 => ?_)
  · refine G_iconst (pc := 10) (v := 0) dX12_meets_10 rfl ?_
    refine G_sn2 (pc := 11) (gSt_in dX12_meets_11 rfl (by decide)) rfl ?_
    refine G_iconst (pc := 12) (v := 0) dX12_meets_12 rfl ?_
    refine G_sn3 (pc := 13) (gSt_in dX12_meets_13 rfl (by decide)) rfl ?_
    refine G_sipush (pc := 14) (v := (-1024)) dX12_meets_14 rfl ?_
    refine G_sn4 (pc := 17) (gSt_i dX12_meets_17 (by decide)) rfl ?_
    rw [show aMeets (i (m + 1)) x = (mtR (mtF (i (m + 1)) x) 2049).1 from if_pos (gB_ne.mp h4)] at hQ
    exact lp_X12_meets hM2 hT hQ 2049 0 (Nat.zero_add 2049)
  · refine G_ldc (pc := 7) dX12_meets_7 kcX12_29 ?_
    refine G_iret (pc := 9) dX12_meets_9 ⟨_, rfl, rfl⟩ ⟨by decide, by decide⟩ ?_
    rw [show aMeets (i (m + 1)) x = -1000001 from if_neg (gB_eq.mp h4)] at hQ
    exact hQ

