/-! lengthBits -/
theorem nI_or (a b : Nat) : nI a ||| nI b = nI (a ||| b) := by
  apply Int32.toBitVec_inj.mp
  show BitVec.ofNat 32 a ||| BitVec.ofNat 32 b = BitVec.ofNat 32 (a ||| b)
  apply BitVec.eq_of_getLsbD_eq
  intro j hj
  simp [Nat.testBit_or, hj]
theorem u32_nI (u : UInt32) : u.toInt32 = nI u.toNat := by
  apply Int32.toBitVec_inj.mp
  show u.toBitVec = BitVec.ofNat 32 u.toBitVec.toNat
  simp
theorem sh_k : ∀ k, k < 32 → ((nI k &&& 31).toBitVec.smod 32).toNat = k := by decide +kernel
theorem bits_eq {b h : Nat} (h1 : 2 ^ h ≤ b) (h2 : b < 2 ^ (h + 1)) (h3 : h ≤ 23) : nI ((127 + h - 8) * 2 ^ 23) ||| nI (b * 2 ^ (23 - h) % 2 ^ 23) = (FP.fdiv (FP.i2f (nI b)) 1132462080).toInt32 := by
  obtain ⟨c1, c2⟩ := fl_c h1 h2 h3
  rw [u32_nI, fl_div h1 h2 h3, nI_or]
  generalize b * 2 ^ (23 - h) = c at c1 c2
  have hm : c % 2 ^ 23 = c - 8388608 := by
    have : (2 : Nat) ^ 23 = 8388608 := by decide
    omega
  have hlt : c - 8388608 < 2 ^ 23 := by
    have : (2 : Nat) ^ 23 = 8388608 := by decide
    omega
  rw [hm, Nat.mul_comm, ← Nat.two_pow_add_eq_or_of_lt hlt, show (2 : Nat) ^ 23 * (127 + h - 8) + (c - 8388608) = (119 + h) * 8388608 + (c - 8388608) by
    have : (2 : Nat) ^ 23 = 8388608 := by decide
    rw [this]
    omega]
theorem sq64 {x y u v : Int32} (hx : inB x.toInt64) (hy : inB y.toInt64) (hu : inB u.toInt64) (hv : inB v.toInt64) : ((x - y) * (x - y) + (u - v) * (u - v) : Int32).toInt64 = (x - y).toInt64 * (x - y).toInt64 + (u - v).toInt64 * (u - v).toInt64 := by
  obtain ⟨a1, a2, a3⟩ := sq_i hx hy
  obtain ⟨b1, b2, b3⟩ := sq_i hu hv
  have m : ∀ z : Int32, (z * z).toInt = z.toInt * z.toInt → (z * z).toInt.natAbs ≤ 4194304 → (z.toInt64 * z.toInt64).toInt = (z * z).toInt := fun z ka kb => by
    rw [Int64.toInt_mul, Int32.toInt_toInt64, ← ka, bmod_id (by omega)]
  have ex : (x - y).toInt * (x - y).toInt = ((x - y) * (x - y)).toInt := by rw [sub_i hx hy, a1]
  have eu : (u - v).toInt * (u - v).toInt = ((u - v) * (u - v)).toInt := by rw [sub_i hu hv, b1]
  apply Int64.toInt_inj.mp
  rw [Int32.toInt_toInt64, Int32.toInt_add, Int64.toInt_add, m _ ex.symm (by omega), m _ eu.symm (by omega), bmod_i (by omega), bmod_id (by omega)]
theorem len_eq {x y S : Nat → Int32} {w z : Nat} (hv : vW S w z) (hx : ∀ p, p < z + 1 → x p = S (w + 6 + 4 * p + 0)) (hy : ∀ p, p < z + 1 → y p = S (w + 6 + 4 * p + 1)) : ∀ n, n ≤ z → lenL x y n = lnR S w n
  | 0, _ => rfl
  | n + 1, h => by
    obtain ⟨a1, a2, _⟩ := hv.2.2.2.2.2 (n + 1) h
    obtain ⟨b1, b2, _⟩ := hv.2.2.2.2.2 n (by omega)
    have e : mvR x y n = lnT S w n := by
      unfold mvR lnT
      rw [hx (n + 1) (by omega), hx n (by omega), hy (n + 1) (by omega), hy n (by omega), sq64 a1 b1 a2 b2]
    rw [lenL, lnR, len_eq hv hx hy n (by omega), e]
set_option maxRecDepth 100000 in
set_option maxHeartbeats 4000000 in
theorem s27_X11_bits {Γ : gG} {T : gTy} {r : gR} {l : gLg} {i : gI} {Q : gQ} {b h : Nat} (h1 : 2 ^ h ≤ b) (h2 : b < 2 ^ (h + 1)) (h3 : h ≤ 23) (hQ : Q (some (.int ((FP.fdiv (FP.i2f (nI b)) 1132462080).toInt32))) T r l i) : G Γ MX11_bitsOfParts 0 0 27 [(0, .int (nI b)), (1, .int (nI h))] [] T r l i Q := by
  obtain ⟨c1, c2⟩ := fl_c h1 h2 h3
  refine G_iload_n (pc := 27) 0 dX11_bitsOfParts_27 rfl ?_
  refine G_bipush (pc := 28) (v := 23) dX11_bitsOfParts_28 rfl ?_
  refine G_iload_n (pc := 30) 1 dX11_bitsOfParts_30 rfl ?_
  refine G_isub (pc := 31) dX11_bitsOfParts_31 ?_
  rw [gl23, pk_sub (by omega)]
  refine G_ishl (pc := 32) dX11_bitsOfParts_32 ?_
  rw [pk_shlN (nI (23 - h) &&& 31) (23 - h) (sh_k _ (by omega)) (by omega)]
  refine G_ldcw (pc := 33) dX11_bitsOfParts_33 kcX11_308 ?_
  refine G_iand (pc := 36) dX11_bitsOfParts_36 ?_
  rw [pk_andN (by omega) 23 (by decide)]
  refine G_sn2 (pc := 37) (gSt_in dX11_bitsOfParts_37 rfl (by decide)) rfl ?_
  refine G_bipush (pc := 38) (v := 127) dX11_bitsOfParts_38 rfl ?_
  refine G_iload_n (pc := 40) 1 dX11_bitsOfParts_40 rfl ?_
  refine G_iadd (pc := 41) dX11_bitsOfParts_41 ?_
  rw [show (127 : Int32) = nI 127 from rfl, nI_add]
  refine G_bipush (pc := 42) (v := 8) dX11_bitsOfParts_42 rfl ?_
  refine G_isub (pc := 44) dX11_bitsOfParts_44 ?_
  rw [gl8, pk_sub (by omega)]
  refine G_bipush (pc := 45) (v := 23) dX11_bitsOfParts_45 rfl ?_
  refine G_ishl (pc := 47) dX11_bitsOfParts_47 ?_
  rw [pk_shlN (23 &&& 31) 23 (by decide +kernel) (by omega)]
  refine G_iload_n (pc := 48) 2 dX11_bitsOfParts_48 rfl ?_
  refine G_ior (pc := 49) dX11_bitsOfParts_49 ?_
  rw [bits_eq h1 h2 h3]
  refine G_iret (pc := 50) dX11_bitsOfParts_50 ⟨_, rfl, rfl⟩ ⟨by decide, by decide⟩ ?_
  exact hQ

set_option maxRecDepth 100000 in
set_option maxHeartbeats 4000000 in
theorem lp_X11_bits {Γ : gG} {T : gTy} {r : gR} {l : gLg} {i : gI} {Q : gQ} {b : Nat} (hb : b < 2 ^ (23 + 1)) (hQ : Q (some (.int ((FP.fdiv (FP.i2f (nI b)) 1132462080).toInt32))) T r l i) : ∀ d h, h + d = 23 → 2 ^ h ≤ b → G Γ MX11_bitsOfParts 0 0 8 [(0, .int (nI b)), (1, .int (nI h))] [] T r l i Q := by
  intro d
  induction d with
  | zero =>
    intro h hd h1
    obtain rfl : h = 23 := by omega
    refine G_iload_n (pc := 8) 1 dX11_bitsOfParts_8 rfl ?_
    refine G_bipush (pc := 9) (v := 23) dX11_bitsOfParts_9 rfl ?_
    refine G_icmp_ge (pc := 11) (tgt := 27) dX11_bitsOfParts_11 (by decide) (fun h11 => ?_) (fun h11 => ?_)
    · exact s27_X11_bits h1 hb (Nat.le_refl _) hQ
    · exact absurd (by decide) h11
  | succ d ih =>
    intro h hd h1
    refine G_iload_n (pc := 8) 1 dX11_bitsOfParts_8 rfl ?_
    refine G_bipush (pc := 9) (v := 23) dX11_bitsOfParts_9 rfl ?_
    refine G_icmp_ge (pc := 11) (tgt := 27) dX11_bitsOfParts_11 (by decide) (fun h11 => ?_) (fun h11 => ?_)
    · exact absurd h11 (by rw [gl23]; exact nI_ge (by omega) (by omega))
    · refine G_iload_n (pc := 14) 0 dX11_bitsOfParts_14 rfl ?_
      refine G_iload_n (pc := 15) 1 dX11_bitsOfParts_15 rfl ?_
      refine G_ishr (pc := 16) dX11_bitsOfParts_16 ?_
      rw [pk_shrN (by omega) (nI h &&& 31) h (sh_k _ (by omega))]
      refine G_iconst (pc := 17) (v := 1) dX11_bitsOfParts_17 rfl ?_
      refine G_icmp_le (pc := 18) (tgt := 27) dX11_bitsOfParts_18 (by decide) (fun h18 => ?_) (fun h18 => ?_)
      · refine s27_X11_bits h1 ?_ (by omega) hQ
        have hq := (nI_leI (Nat.lt_of_le_of_lt (Nat.div_le_self _ _) (by omega)) (by decide)).mp (show nI (b / 2 ^ h) ≤ nI 1 from h18)
        have := Nat.div_lt_iff_lt_mul (Nat.two_pow_pos h) |>.mp (show b / 2 ^ h < 2 by omega)
        rw [Nat.pow_succ]
        omega
      · have hq : ¬ b / 2 ^ h ≤ 1 := fun z => h18 ((nI_leI (Nat.lt_of_le_of_lt (Nat.div_le_self _ _) (by omega)) (by decide)).mpr z)
        have hge : 2 ^ (h + 1) ≤ b := by
          have := (Nat.le_div_iff_mul_le (Nat.two_pow_pos h)).mp (show 2 ≤ b / 2 ^ h by omega)
          rw [Nat.pow_succ]
          omega
        refine G_inc1 (pc := 21) (v := 1) dX11_bitsOfParts_21 rfl (by decide) rfl ?_
        refine G_goto (pc := 24) (tgt := 8) dX11_bitsOfParts_24 (by decide) ?_
        rw [nI_1]
        exact ih (h + 1) (by omega) hge

set_option maxRecDepth 100000 in
set_option maxHeartbeats 4000000 in
theorem c_X11_bitsOfParts {Γ : gG} {T : gTy} {r : gR} {l : gLg} {i : gI} {Q : gQ} {b : Nat} (hb : b < 2 ^ 24) (hQ : Q (some (.int ((FP.fdiv (FP.i2f (nI b)) 1132462080).toInt32))) T r l i) : gC Γ MX11_bitsOfParts [.int (nI b)] T r l i Q := by
  refine gC_of rfl (Nat.le_of_ble_eq_true rfl) (L := [(0, .int (nI b))]) rfl ?_
  refine G_iload_n (pc := 0) 0 dX11_bitsOfParts_0 rfl ?_
  refine G_if_gt (pc := 1) (tgt := 6) dX11_bitsOfParts_1 (by decide) (fun h1 => ?_) (fun h1 => ?_)
  · have hb0 : 1 ≤ b := by
      rcases Nat.eq_zero_or_pos b with z | z
      · subst z; exact absurd h1 (by decide)
      · exact z
    refine G_iconst (pc := 6) (v := 0) dX11_bitsOfParts_6 rfl ?_
    refine G_sn1 (pc := 7) (gSt_in dX11_bitsOfParts_7 rfl (by decide)) rfl ?_
    exact lp_X11_bits hb hQ 23 0 (Nat.zero_add 23) hb0
  · have hb0 : b = 0 := by
      rcases Nat.eq_zero_or_pos b with z | z
      · exact z
      · exact absurd (show (0 : Int32) < nI b from nI_lt (a := 0) z (by omega)) h1
    subst hb0
    refine G_iconst (pc := 4) (v := 0) dX11_bitsOfParts_4 rfl ?_
    refine G_iret (pc := 5) dX11_bitsOfParts_5 ⟨_, rfl, rfl⟩ ⟨by decide, by decide⟩ ?_
    rw [show (FP.fdiv (FP.i2f (nI 0)) 1132462080).toInt32 = 0 by decide +kernel] at hQ
    exact hQ

set_option maxRecDepth 100000 in
set_option maxHeartbeats 4000000 in
theorem c_X11_lengthBits {Γ : gG} {T : gTy} {r : gR} {l : gLg} {i : gI} {Q : gQ} {x : Nat} {ws : Nat → Nat} {hs : Nat → Nat → Nat} {S : Nat → Int32} {w : Int32} (hX : lyX T r x ws hs) (hA : gN Γ ≤ x) (hR : rpSt i (x + 1) ws S) (hS : vS S) (hQ : Q (some (.int (aLen S w))) T r l i) : gC Γ MX11_lengthBits [.ref x, .int w] T r l i Q := by
  obtain ⟨x0, x1, x2, x3, x4, x5, x6, x7, x8, x9, x10⟩ := hX
  obtain ⟨s0, s1, s2, s3, s4, s5, s6⟩ := id x6
  obtain ⟨t0, t1, t2, t3, t4, t5, t6⟩ := id s4
  obtain ⟨f1, f2, f3, f4⟩ := stF hR hS
  have hT := hS.1
  have hE := hS.2.1
  have hn6 := hT.1.1
  have hn3 := f1.2.1
  obtain ⟨w5, w1, wk⟩ := nW_of hS
  refine gC_of rfl (Nat.le_of_ble_eq_true rfl) (L := [(0, .ref x), (1, .int w)]) rfl ?_
  refine G_aload_n (pc := 0) 0 dX11_lengthBits_0 rfl ?_
  refine G_getR (pc := 1) dX11_lengthBits_1 fX11_10 (by assumption) (by assumption) ?_
  refine G_getR (pc := 4) dX11_lengthBits_4 fX11_70 (by assumption) (by assumption) ?_
  refine G_iload_n (pc := 7) 1 dX11_lengthBits_7 rfl ?_
  refine gV1 (pc := 8) (k' := 0) (n' := 0) dX11_lengthBits_8 lkX11_163 ⟨by decide, by decide⟩ (Nat.le_of_ble_eq_true rfl) rfl rfl ⟨by decide, by decide⟩ s5.1 (c_X10_at s5 f2.2.1 w5 ?_ ?_)
  · intro a ha haw
    subst haw
    obtain ⟨⟨z, hv⟩, hpar⟩ := wk a ha
    have hz40 := hv.2.1
    have hw := wsF f2 ha hv
    obtain ⟨wr, hW, wlo, whi⟩ := s5.2.2.2.2.2.2.2.1 a (by omega)
    have hW0 := hW.1
    have hw4 := hw.2.1
    obtain ⟨q0, q1, q2, q3, q4, q5, q6, q7, q8⟩ := id hW
    have rows := hw.2.2.2.1
    dsimp only [gRt]
    refine G_sn2 (pc := 11) (gSt_an dX11_lengthBits_11 rfl (by decide)) rfl ?_
    refine G_aload_n (pc := 12) 2 dX11_lengthBits_12 rfl ?_
    refine G_ifnonnull (pc := 13) (tgt := 21) dX11_lengthBits_13 (by decide) ?_
    refine G_aload_n (pc := 21) 2 dX11_lengthBits_21 rfl ?_
    have gA : inI (nI a) 0 (S 1 - 1) := by rw [w1]; exact (isW (by omega)).mpr ⟨a, ha, rfl⟩
    refine gV0 (pc := 22) (k' := 0) (n' := 0) dX11_lengthBits_22 lkX11_270 ⟨by decide, by decide⟩ (Nat.le_of_ble_eq_true rfl) rfl rfl ⟨by decide, by decide⟩ hW0 (c_X9_lengthInParts (n := z) hW hw4 hz40 ?_)
    dsimp only [gRt]
    obtain ⟨b, b1, b2⟩ := lnR_le hv z (Nat.le_refl _)
    rw [show aLen S (nI a) = (FP.fdiv (FP.i2f (nI b)) 1132462080).toInt32 by unfold aLen; rw [if_pos gA, nI_clamp (by omega), hv.1, nI_clamp (by omega), Nat.add_sub_cancel, b2]] at hQ
    rw [len_eq hv (fun p hp => rows p hp 0 (by decide)) (fun p hp => rows p hp 1 (by decide)) z (Nat.le_refl _), b2]
    refine gS1 (pc := 25) (k' := 0) (n' := 0) dX11_lengthBits_25 lkX11_273 ⟨by decide, by decide⟩ (Nat.le_of_ble_eq_true rfl) rfl rfl ⟨by decide, by decide⟩ (c_X11_bitsOfParts (b := b) (by omega) ?_)
    dsimp only [gRt]
    refine G_iret (pc := 28) dX11_lengthBits_28 ⟨_, rfl, rfl⟩ ⟨by decide, by decide⟩ ?_
    exact hQ
  · intro hno
    have hnw : ¬ inI w 0 (S 1 - 1) := fun u => by
      obtain ⟨k9, k1, k2⟩ := (isW (m := nW S) (by omega)).mp (w1 ▸ u)
      exact hno k9 k1 k2
    dsimp only [gRt]
    refine G_sn2 (pc := 11) (gSt_anN dX11_lengthBits_11 rfl (by decide)) rfl ?_
    refine G_aload_nN (pc := 12) 2 dX11_lengthBits_12 rfl ?_
    refine G_ifnonnullN (pc := 13) dX11_lengthBits_13 ?_
    refine G_ldc (pc := 16) dX11_lengthBits_16 kcX11_52 ?_
    refine G_goto (pc := 18) (tgt := 28) dX11_lengthBits_18 (by decide) ?_
    refine G_iret (pc := 28) dX11_lengthBits_28 ⟨_, rfl, rfl⟩ ⟨by decide, by decide⟩ ?_
    rw [show aLen S w = -1000001 from if_neg hnw] at hQ
    exact hQ

