/-! PURE: powers, the root, bounds -/
def gPow (b : Int64) : Nat → Int64
  | 0 => 1
  | e + 1 => gPow b e * b
def gRootL (v : Int64) : Nat → Int64 → Int64
  | 0, x => x
  | j + 1, x => gRootL v j (if (x + lN (2 ^ j)) * (x + lN (2 ^ j)) ≤ v then x + lN (2 ^ j) else x)
def gRoot (v : Int64) : Int64 := gRootL v 31 0
def gBit : Nat → Int64
  | 0 => 0
  | j + 1 => lN (2 ^ j)
theorem gBit_pos : ∀ j, j < 31 → ¬ gBit (j + 1) ≤ 0 := by decide +kernel
theorem gBit_shr : ∀ j, j < 31 → gBit (j + 1) >>> ((1 : Int32).toInt64 &&& 63) = gBit j := by decide +kernel
theorem gBit_div : ∀ j, j < 31 → gBit (j + 1) / 2 = gBit j := by decide +kernel
abbrev inB (x : Int64) : Prop := ¬ x < (-1024) ∧ ¬ 1024 < x
abbrev inI (x a b : Int32) : Prop := ¬ x < a ∧ ¬ b < x
set_option maxRecDepth 100000 in
set_option maxHeartbeats 4000000 in
theorem c_X11_isWithin {Γ : gG} {T : gTy} {r : gR} {l : gLg} {i : gI} {Q : gQ} {x a b : Int64} (hQ : Q (some (.int (gB (¬ x < a ∧ ¬ b < x)))) T r l i) : gC Γ MX11_isWithin [.long x, .long a, .long b] T r l i Q := by
  refine gC_of rfl (Nat.le_of_ble_eq_true rfl) (L := [(0, .long x), (2, .long a), (4, .long b)]) rfl ?_
  refine G_lload_n (pc := 0) 0 dX11_isWithin_0 rfl ?_
  refine G_lload_n (pc := 1) 1 dX11_isWithin_1 rfl ?_
  refine G_lif_lt (pc := 2) (tgt := 17) dX11_isWithin_2 dX11_isWithin_3 (by decide) (fun h2 => ?_) (fun h2 => ?_)
  · refine G_iconst (pc := 17) (v := 0) dX11_isWithin_17 rfl ?_
    refine G_iret (pc := 18) dX11_isWithin_18 ⟨_, rfl, rfl⟩ ⟨by decide, by decide⟩ ?_
    simpa [gB, h2] using hQ
  · refine G_lload_n (pc := 6) 0 dX11_isWithin_6 rfl ?_
    refine G_lload (pc := 7) 2 dX11_isWithin_7 rfl ?_
    refine G_lif_gt (pc := 9) (tgt := 17) dX11_isWithin_9 dX11_isWithin_10 (by decide) (fun h9 => ?_) (fun h9 => ?_)
    · refine G_iconst (pc := 17) (v := 0) dX11_isWithin_17 rfl ?_
      refine G_iret (pc := 18) dX11_isWithin_18 ⟨_, rfl, rfl⟩ ⟨by decide, by decide⟩ ?_
      simpa [gB, h2, h9] using hQ
    · refine G_iconst (pc := 13) (v := 1) dX11_isWithin_13 rfl ?_
      refine G_goto (pc := 14) (tgt := 18) dX11_isWithin_14 (by decide) ?_
      refine G_iret (pc := 18) dX11_isWithin_18 ⟨_, rfl, rfl⟩ ⟨by decide, by decide⟩ ?_
      simpa [gB, h2, h9] using hQ
set_option maxRecDepth 100000 in
set_option maxHeartbeats 4000000 in
theorem c_X11_isSign {Γ : gG} {T : gTy} {r : gR} {l : gLg} {i : gI} {Q : gQ} {x : Int32} (hQ : Q (some (.int (gB (x = 1 ∨ x = (-1))))) T r l i) : gC Γ MX11_isSign [.int x] T r l i Q := by
  refine gC_of rfl (Nat.le_of_ble_eq_true rfl) (L := [(0, .int x)]) rfl ?_
  refine G_iload_n (pc := 0) 0 dX11_isSign_0 rfl ?_
  refine G_iconst (pc := 1) (v := 1) dX11_isSign_1 rfl ?_
  refine G_icmp_eq (pc := 2) (tgt := 10) dX11_isSign_2 (by decide) (fun h2 => ?_) (fun h2 => ?_)
  · refine G_iconst (pc := 10) (v := 1) dX11_isSign_10 rfl ?_
    refine G_goto (pc := 11) (tgt := 15) dX11_isSign_11 (by decide) ?_
    refine G_iret (pc := 15) dX11_isSign_15 ⟨_, rfl, rfl⟩ ⟨by decide, by decide⟩ ?_
    simpa [gB, h2] using hQ
  · refine G_iload_n (pc := 5) 0 dX11_isSign_5 rfl ?_
    refine G_iconst (pc := 6) (v := (-1)) dX11_isSign_6 rfl ?_
    refine G_icmp_ne (pc := 7) (tgt := 14) dX11_isSign_7 (by decide) (fun h7 => ?_) (fun h7 => ?_)
    · refine G_iconst (pc := 14) (v := 0) dX11_isSign_14 rfl ?_
      refine G_iret (pc := 15) dX11_isSign_15 ⟨_, rfl, rfl⟩ ⟨by decide, by decide⟩ ?_
      simpa [gB, h2, h7] using hQ
    · refine G_iconst (pc := 10) (v := 1) dX11_isSign_10 rfl ?_
      refine G_goto (pc := 11) (tgt := 15) dX11_isSign_11 (by decide) ?_
      refine G_iret (pc := 15) dX11_isSign_15 ⟨_, rfl, rfl⟩ ⟨by decide, by decide⟩ ?_
      simpa [gB, h2, h7] using hQ
set_option maxRecDepth 100000 in
set_option maxHeartbeats 4000000 in
theorem c_X11_isPlace {Γ : gG} {T : gTy} {r : gR} {l : gLg} {i : gI} {Q : gQ} {x y : Int64} (hQ : Q (some (.int (gB (inB x ∧ inB y)))) T r l i) : gC Γ MX11_isPlace [.long x, .long y] T r l i Q := by
  refine gC_of rfl (Nat.le_of_ble_eq_true rfl) (L := [(0, .long x), (2, .long y)]) rfl ?_
  refine G_lload_n (pc := 0) 0 dX11_isPlace_0 rfl ?_
  refine G_ldc2 (pc := 1) dX11_isPlace_1 kcX11_262 ?_
  refine G_ldc2 (pc := 4) dX11_isPlace_4 kcX11_264 ?_
  refine gS3 (pc := 7) (k' := 0) (n' := 0) dX11_isPlace_7 lkX11_48 ⟨by decide, by decide⟩ (Nat.le_of_ble_eq_true rfl) rfl rfl ⟨by decide, by decide⟩ (c_X11_isWithin ?_)
  dsimp only [gRt]
  refine G_if_eq (pc := 10) (tgt := 30) dX11_isPlace_10 (by decide) (fun h10 => ?_) (fun h10 => ?_)
  · refine G_iconst (pc := 30) (v := 0) dX11_isPlace_30 rfl ?_
    refine G_iret (pc := 31) dX11_isPlace_31 ⟨_, rfl, rfl⟩ ⟨by decide, by decide⟩ ?_
    have h10 := gB_eq.mp h10
    rw [gB_f (fun q => h10 q.1)] at hQ
    exact hQ
  · refine G_lload_n (pc := 13) 1 dX11_isPlace_13 rfl ?_
    refine G_ldc2 (pc := 14) dX11_isPlace_14 kcX11_262 ?_
    refine G_ldc2 (pc := 17) dX11_isPlace_17 kcX11_264 ?_
    refine gS3 (pc := 20) (k' := 0) (n' := 0) dX11_isPlace_20 lkX11_48 ⟨by decide, by decide⟩ (Nat.le_of_ble_eq_true rfl) rfl rfl ⟨by decide, by decide⟩ (c_X11_isWithin ?_)
    dsimp only [gRt]
    refine G_if_eq (pc := 23) (tgt := 30) dX11_isPlace_23 (by decide) (fun h23 => ?_) (fun h23 => ?_)
    · refine G_iconst (pc := 30) (v := 0) dX11_isPlace_30 rfl ?_
      refine G_iret (pc := 31) dX11_isPlace_31 ⟨_, rfl, rfl⟩ ⟨by decide, by decide⟩ ?_
      have h23 := gB_eq.mp h23
      rw [gB_f (fun q => h23 q.2)] at hQ
      exact hQ
    · refine G_iconst (pc := 26) (v := 1) dX11_isPlace_26 rfl ?_
      refine G_goto (pc := 27) (tgt := 31) dX11_isPlace_27 (by decide) ?_
      refine G_iret (pc := 31) dX11_isPlace_31 ⟨_, rfl, rfl⟩ ⟨by decide, by decide⟩ ?_
      rw [gB_t ⟨gB_ne.mp h10, gB_ne.mp h23⟩] at hQ
      exact hQ
set_option maxRecDepth 100000 in
set_option maxHeartbeats 4000000 in
theorem lp_X11_power {Γ : gG} {T : gTy} {r : gR} {l : gLg} {i : gI} {Q : gQ} {b : Int64} {e : Nat} (he : e < 2 ^ 31) (hQ : Q (some (.long (gPow b e))) T r l i) : ∀ d k, k + d = e → G Γ MX11_power 0 0 5 [(0, .long b), (2, .int (nI e)), (3, .long (gPow b k)), (5, .int (nI k))] [] T r l i Q := by
  intro d
  induction d with
  | zero =>
    intro k hk
    obtain rfl : k = e := by omega
    refine G_iload (pc := 5) 3 dX11_power_5 rfl ?_
    refine G_iload_n (pc := 7) 1 dX11_power_7 rfl ?_
    refine G_icmp_ge (pc := 8) (tgt := 21) dX11_power_8 (by decide) (fun h8 => ?_) (fun h8 => ?_)
    · refine G_lload_n (pc := 21) 2 dX11_power_21 rfl ?_
      refine G_lret (pc := 22) dX11_power_22 rfl ⟨by decide, by decide⟩ ?_
      exact hQ
    · exact absurd (Int32.le_refl _) h8
  | succ d ih =>
    intro k hk
    refine G_iload (pc := 5) 3 dX11_power_5 rfl ?_
    refine G_iload_n (pc := 7) 1 dX11_power_7 rfl ?_
    refine G_icmp_ge (pc := 8) (tgt := 21) dX11_power_8 (by decide) (fun h8 => ?_) (fun h8 => ?_)
    · exact absurd h8 (nI_ge (by omega) (by omega))
    · refine G_lload_n (pc := 11) 2 dX11_power_11 rfl ?_
      refine G_lload_n (pc := 12) 0 dX11_power_12 rfl ?_
      refine G_lmul (pc := 13) dX11_power_13 ?_
      refine G_st2 (pc := 14) (gSt_ln dX11_power_14 rfl (by decide)) rfl ?_
      refine G_inc3 (pc := 15) (v := 1) dX11_power_15 rfl (by decide) rfl ?_
      refine G_goto (pc := 18) (tgt := 5) dX11_power_18 (by decide) ?_
      rw [nI_1]
      exact ih (k + 1) (by omega)
set_option maxRecDepth 100000 in
set_option maxHeartbeats 4000000 in
theorem c_X11_power {Γ : gG} {T : gTy} {r : gR} {l : gLg} {i : gI} {Q : gQ} {b : Int64} {e : Nat} (he : e < 2 ^ 31) (hQ : Q (some (.long (gPow b e))) T r l i) : gC Γ MX11_power [.long b, .int (nI e)] T r l i Q := by
  refine gC_of rfl (Nat.le_of_ble_eq_true rfl) (L := [(0, .long b), (2, .int (nI e))]) rfl ?_
  refine G_lconst (pc := 0) (v := 1) dX11_power_0 rfl ?_
  refine G_sn2 (pc := 1) (gSt_ln dX11_power_1 rfl (by decide)) rfl ?_
  refine G_iconst (pc := 2) (v := 0) dX11_power_2 rfl ?_
  refine G_sn3 (pc := 3) (gSt_i dX11_power_3 (by decide)) rfl ?_
  exact lp_X11_power he hQ e 0 (Nat.zero_add e)
set_option maxRecDepth 100000 in
set_option maxHeartbeats 4000000 in
theorem lp_X11_rootOf {Γ : gG} {T : gTy} {r : gR} {l : gLg} {i : gI} {Q : gQ} {v : Int64}  : ∀ d x, d ≤ 31 → Q (some (.long (gRootL v d x))) T r l i → G Γ MX11_rootOf 0 0 7 [(0, .long v), (2, .long x), (4, .long (gBit d))] [] T r l i Q := by
  intro d
  induction d with
  | zero =>
    intro x _ hQ
    refine G_lload (pc := 7) 2 dX11_rootOf_7 rfl ?_
    refine G_lconst (pc := 9) (v := 0) dX11_rootOf_9 rfl ?_
    refine G_lif_le (pc := 10) (tgt := 42) dX11_rootOf_10 dX11_rootOf_11 (by decide) (fun h10 => ?_) (fun h10 => ?_)
    · refine G_lload_n (pc := 42) 1 dX11_rootOf_42 rfl ?_
      refine G_lret (pc := 43) dX11_rootOf_43 rfl ⟨by decide, by decide⟩ ?_
      exact hQ
    · exact absurd (by decide) h10
  | succ d ih =>
    intro x hd hQ
    refine G_lload (pc := 7) 2 dX11_rootOf_7 rfl ?_
    refine G_lconst (pc := 9) (v := 0) dX11_rootOf_9 rfl ?_
    refine G_lif_le (pc := 10) (tgt := 42) dX11_rootOf_10 dX11_rootOf_11 (by decide) (fun h10 => ?_) (fun h10 => ?_)
    · exact absurd h10 (gBit_pos d (by omega))
    · refine G_lload_n (pc := 14) 1 dX11_rootOf_14 rfl ?_
      refine G_lload (pc := 15) 2 dX11_rootOf_15 rfl ?_
      refine G_ladd (pc := 17) dX11_rootOf_17 ?_
      refine G_sn3 (pc := 18) (gSt_l dX11_rootOf_18 (by decide)) rfl ?_
      refine G_lload (pc := 20) 3 dX11_rootOf_20 rfl ?_
      refine G_lload (pc := 22) 3 dX11_rootOf_22 rfl ?_
      refine G_lmul (pc := 24) dX11_rootOf_24 ?_
      refine G_lload_n (pc := 25) 0 dX11_rootOf_25 rfl ?_
      refine G_lif_gt (pc := 26) (tgt := 33) dX11_rootOf_26 dX11_rootOf_27 (by decide) (fun h26 => ?_) (fun h26 => ?_)
      · refine G_lload (pc := 33) 2 dX11_rootOf_33 rfl ?_
        refine G_iconst (pc := 35) (v := 1) dX11_rootOf_35 rfl ?_
        refine G_lshr (pc := 36) dX11_rootOf_36 ?_
        refine G_st2 (pc := 37) (gSt_l dX11_rootOf_37 (by decide)) rfl ?_
        refine G_goto (pc := 39) (tgt := 7) dX11_rootOf_39 (by decide) ?_
        refine G_drop3 ?_
        rw [gBit_shr d (by omega)]
        refine ih x (by omega) ?_
        have hc : ¬ (x + lN (2 ^ d)) * (x + lN (2 ^ d)) ≤ v := Int64.not_le.mpr h26
        unfold gRootL at hQ
        rw [if_neg hc] at hQ
        exact hQ
      · refine G_lload (pc := 30) 3 dX11_rootOf_30 rfl ?_
        refine G_st1 (pc := 32) (gSt_ln dX11_rootOf_32 rfl (by decide)) rfl ?_
        refine G_lload (pc := 33) 2 dX11_rootOf_33 rfl ?_
        refine G_iconst (pc := 35) (v := 1) dX11_rootOf_35 rfl ?_
        refine G_lshr (pc := 36) dX11_rootOf_36 ?_
        refine G_st2 (pc := 37) (gSt_l dX11_rootOf_37 (by decide)) rfl ?_
        refine G_goto (pc := 39) (tgt := 7) dX11_rootOf_39 (by decide) ?_
        refine G_drop3 ?_
        rw [gBit_shr d (by omega)]
        refine ih (x + lN (2 ^ d)) (by omega) ?_
        have hc : (x + lN (2 ^ d)) * (x + lN (2 ^ d)) ≤ v := Int64.not_lt.mp h26
        unfold gRootL at hQ
        rw [if_pos hc] at hQ
        exact hQ
set_option maxRecDepth 100000 in
set_option maxHeartbeats 4000000 in
theorem c_X11_rootOf {Γ : gG} {T : gTy} {r : gR} {l : gLg} {i : gI} {Q : gQ} {v : Int64} (hQ : Q (some (.long (gRoot v))) T r l i) : gC Γ MX11_rootOf [.long v] T r l i Q := by
  refine gC_of rfl (Nat.le_of_ble_eq_true rfl) (L := [(0, .long v)]) rfl ?_
  refine G_lconst (pc := 0) (v := 0) dX11_rootOf_0 rfl ?_
  refine G_sn1 (pc := 1) (gSt_ln dX11_rootOf_1 rfl (by decide)) rfl ?_
  refine G_ldc2 (pc := 2) dX11_rootOf_2 kcX11_306 ?_
  refine G_sn2 (pc := 5) (gSt_l dX11_rootOf_5 (by decide)) rfl ?_
  exact lp_X11_rootOf 31 0 (Nat.le_refl 31) hQ
