/-! the reference's memory -/
/-- the first n of g over f -/
def cpy (f g : Nat → Int32) (n : Nat) : Nat → Int32 := fun k => if k < n then g k else f k
theorem cpy_0 {f g : Nat → Int32} : cpy f g 0 = f := by funext k; simp [cpy]
theorem cpy_S {f g : Nat → Int32} {n : Nat} : upd (cpy f g n) n (g n) = cpy f g (n + 1) := by
  funext k
  by_cases h : k = n
  · rw [h, upd_s, cpy, if_pos (by omega)]
  · rw [upd_o h]; unfold cpy
    by_cases h2 : k < n
    · rw [if_pos h2, if_pos (by omega)]
    · rw [if_neg h2, if_neg (by omega)]
def shf (f : Nat → Int32) (n : Nat) : Nat → Int32 := fun k => if k < n then f (k + 853) else f k
theorem shf_0 {f : Nat → Int32} : shf f 0 = f := by funext k; simp [shf]
theorem shf_r {f : Nat → Int32} {n : Nat} : shf f n (n + 853) = f (n + 853) := by unfold shf; rw [if_neg (by omega)]
theorem shf_S {f : Nat → Int32} {n : Nat} : upd (shf f n) n (f (n + 853)) = shf f (n + 1) := by
  funext k
  by_cases h : k = n
  · rw [h, upd_s, shf, if_pos (by omega)]
  · rw [upd_o h]; unfold shf
    by_cases h2 : k < n
    · rw [if_pos h2, if_pos (by omega)]
    · rw [if_neg h2, if_neg (by omega)]
def fll (f : Nat → Int32) (a : Nat) (g : Nat → Int32) (n : Nat) : Nat → Int32 := fun k => if a ≤ k ∧ k < a + n then g (k - a) else f k
theorem fll_0 {f g : Nat → Int32} {a : Nat} : fll f a g 0 = f := by funext k; unfold fll; rw [if_neg (by omega)]
theorem fll_S {f g : Nat → Int32} {a n : Nat} : upd (fll f a g n) (a + n) (g n) = fll f a g (n + 1) := by
  funext k
  by_cases h : k = a + n
  · rw [h, upd_s, fll, if_pos (by omega), show a + n - a = n by omega]
  · rw [upd_o h]; unfold fll
    by_cases h2 : a ≤ k ∧ k < a + n
    · rw [if_pos h2, if_pos (by omega)]
    · rw [if_neg h2, if_neg (by omega)]
/-- the past, of n states -/
def rpP (i : gI) (m : Nat) (P : Nat → Nat → Int32) (n : Nat) : Prop := n ≤ 4 ∧ i m 3 = nI n ∧ ∀ j, j < n → ∀ k, k < 853 → i (m + 3) (853 * j + k) = P j k
def psP (n : Nat) (P : Nat → Nat → Int32) (s : Nat → Int32) : Nat → Nat → Int32 := if n < 4 then fun j => if j = n then s else P j else fun j => if j = 3 then s else P (j + 1)
def psN (n : Nat) : Nat := if n < 4 then n + 1 else 4
/-- the past alone may move -/
def frS (m : Nat) (i i' : gI) : Prop := (∀ c, c ≠ m → c ≠ m + 3 → i' c = i c) ∧ ∀ j, j ≠ 3 → i' m j = i m j
theorem va_id {i : gI} {a : Nat} : va_up i a (i a) = i := by funext b; by_cases h : b = a <;> simp [va_up, h]
set_option maxRecDepth 100000 in
set_option maxHeartbeats 4000000 in
theorem lp_X12_begins {Γ : gG} {T : gTy} {r : gR} {l : gLg} {i : gI} {Q : gQ} {m : Nat} (hM : lyM T r m) (hA : gN Γ ≤ m) (hQ : Q none T r l (va_up i (m + 2) (cpy (i (m + 2)) (i (m + 1)) 853))) : ∀ d k, k + d = 853 → G Γ MX12_begins 0 0 2 [(0, .ref m), (1, .int (nI k))] [] T r l (va_up i (m + 2) (cpy (i (m + 2)) (i (m + 1)) k)) Q := by
  have hM2 := hM
  obtain ⟨m0, m1, m2, m3, m4, m5, m6, m7, m8, m9, m10⟩ := hM
  intro d
  induction d with
  | zero =>
    intro k hk
    obtain rfl : k = 853 := by omega
    refine G_iload_n (pc := 2) 1 dX12_begins_2 rfl ?_
    refine G_sipush (pc := 3) (v := 853) dX12_begins_3 rfl ?_
    refine G_icmp_ge (pc := 6) (tgt := 27) dX12_begins_6 (by decide) (fun h6 => ?_) (fun h6 => ?_)
    · refine G_vret (pc := 27) dX12_begins_27 rfl ⟨by decide, by decide⟩ ?_
      exact hQ
    · exact absurd (by decide) h6
  | succ d ih =>
    intro k hk
    refine G_iload_n (pc := 2) 1 dX12_begins_2 rfl ?_
    refine G_sipush (pc := 3) (v := 853) dX12_begins_3 rfl ?_
    refine G_icmp_ge (pc := 6) (tgt := 27) dX12_begins_6 (by decide) (fun h6 => ?_) (fun h6 => ?_)
    · exact absurd h6 (by rw [gl853]; exact nI_ge (by omega) (by omega))
    · refine G_aload_n (pc := 9) 0 dX12_begins_9 rfl ?_
      refine G_getR (pc := 10) dX12_begins_10 fX12_13 (by assumption) (by assumption) ?_
      refine G_iload_n (pc := 13) 1 dX12_begins_13 rfl ?_
      refine G_aload_n (pc := 14) 0 dX12_begins_14 rfl ?_
      refine G_getR (pc := 15) dX12_begins_15 fX12_7 (by assumption) (by assumption) ?_
      refine G_iload_n (pc := 18) 1 dX12_begins_18 rfl ?_
      refine G_ialdJ (pc := 19) (j := k) dX12_begins_19 (by assumption) rfl (by first | assumption | omega) (by decide) ?_
      rw [va_o (by omega)]
      refine G_iastJ (pc := 20) (j := k) dX12_begins_20 (by assumption) rfl (by first | assumption | omega) (by decide) (by first | assumption | omega) ?_
      rw [up2_v, cpy_S]
      refine G_inc1 (pc := 21) (v := 1) dX12_begins_21 rfl (by decide) rfl ?_
      refine G_goto (pc := 24) (tgt := 2) dX12_begins_24 (by decide) ?_
      rw [nI_1]
      exact ih (k + 1) (by omega)

set_option maxRecDepth 100000 in
set_option maxHeartbeats 4000000 in
theorem c_X12_begins {Γ : gG} {T : gTy} {r : gR} {l : gLg} {i : gI} {Q : gQ} {m : Nat} (hM : lyM T r m) (hA : gN Γ ≤ m) (hQ : Q none T r l (va_up i (m + 2) (cpy (i (m + 2)) (i (m + 1)) 853))) : gC Γ MX12_begins [.ref m] T r l i Q := by
  refine gC_of rfl (Nat.le_of_ble_eq_true rfl) (L := [(0, .ref m)]) rfl ?_
  refine G_iconst (pc := 0) (v := 0) dX12_begins_0 rfl ?_
  refine G_sn1 (pc := 1) (gSt_in dX12_begins_1 rfl (by decide)) rfl ?_
  have h := lp_X12_begins hM hA hQ 853 0 (Nat.zero_add 853)
  rw [cpy_0, va_id] at h
  exact h

set_option maxRecDepth 100000 in
set_option maxHeartbeats 4000000 in
theorem lp_X12_returns {Γ : gG} {T : gTy} {r : gR} {l : gLg} {i : gI} {Q : gQ} {m : Nat} (hM : lyM T r m) (hA : gN Γ ≤ m) (hQ : Q none T r l (va_up i (m + 1) (cpy (i (m + 1)) (i (m + 2)) 853))) : ∀ d k, k + d = 853 → G Γ MX12_returns 0 0 2 [(0, .ref m), (1, .int (nI k))] [] T r l (va_up i (m + 1) (cpy (i (m + 1)) (i (m + 2)) k)) Q := by
  have hM2 := hM
  obtain ⟨m0, m1, m2, m3, m4, m5, m6, m7, m8, m9, m10⟩ := hM
  intro d
  induction d with
  | zero =>
    intro k hk
    obtain rfl : k = 853 := by omega
    refine G_iload_n (pc := 2) 1 dX12_returns_2 rfl ?_
    refine G_sipush (pc := 3) (v := 853) dX12_returns_3 rfl ?_
    refine G_icmp_ge (pc := 6) (tgt := 27) dX12_returns_6 (by decide) (fun h6 => ?_) (fun h6 => ?_)
    · refine G_vret (pc := 27) dX12_returns_27 rfl ⟨by decide, by decide⟩ ?_
      exact hQ
    · exact absurd (by decide) h6
  | succ d ih =>
    intro k hk
    refine G_iload_n (pc := 2) 1 dX12_returns_2 rfl ?_
    refine G_sipush (pc := 3) (v := 853) dX12_returns_3 rfl ?_
    refine G_icmp_ge (pc := 6) (tgt := 27) dX12_returns_6 (by decide) (fun h6 => ?_) (fun h6 => ?_)
    · exact absurd h6 (by rw [gl853]; exact nI_ge (by omega) (by omega))
    · refine G_aload_n (pc := 9) 0 dX12_returns_9 rfl ?_
      refine G_getR (pc := 10) dX12_returns_10 fX12_7 (by assumption) (by assumption) ?_
      refine G_iload_n (pc := 13) 1 dX12_returns_13 rfl ?_
      refine G_aload_n (pc := 14) 0 dX12_returns_14 rfl ?_
      refine G_getR (pc := 15) dX12_returns_15 fX12_13 (by assumption) (by assumption) ?_
      refine G_iload_n (pc := 18) 1 dX12_returns_18 rfl ?_
      refine G_ialdJ (pc := 19) (j := k) dX12_returns_19 (by assumption) rfl (by first | assumption | omega) (by decide) ?_
      rw [va_o (by omega)]
      refine G_iastJ (pc := 20) (j := k) dX12_returns_20 (by assumption) rfl (by first | assumption | omega) (by decide) (by first | assumption | omega) ?_
      rw [up2_v, cpy_S]
      refine G_inc1 (pc := 21) (v := 1) dX12_returns_21 rfl (by decide) rfl ?_
      refine G_goto (pc := 24) (tgt := 2) dX12_returns_24 (by decide) ?_
      rw [nI_1]
      exact ih (k + 1) (by omega)

set_option maxRecDepth 100000 in
set_option maxHeartbeats 4000000 in
theorem c_X12_returns {Γ : gG} {T : gTy} {r : gR} {l : gLg} {i : gI} {Q : gQ} {m : Nat} (hM : lyM T r m) (hA : gN Γ ≤ m) (hQ : Q none T r l (va_up i (m + 1) (cpy (i (m + 1)) (i (m + 2)) 853))) : gC Γ MX12_returns [.ref m] T r l i Q := by
  refine gC_of rfl (Nat.le_of_ble_eq_true rfl) (L := [(0, .ref m)]) rfl ?_
  refine G_iconst (pc := 0) (v := 0) dX12_returns_0 rfl ?_
  refine G_sn1 (pc := 1) (gSt_in dX12_returns_1 rfl (by decide)) rfl ?_
  have h := lp_X12_returns hM hA hQ 853 0 (Nat.zero_add 853)
  rw [cpy_0, va_id] at h
  exact h

set_option maxRecDepth 100000 in
set_option maxHeartbeats 4000000 in
theorem lb_X12_acted {Γ : gG} {T : gTy} {r : gR} {l : gLg} {i : gI} {Q : gQ} {m q : Nat} {ans : Int32} (hM : lyM T r m) (hA : gN Γ ≤ m) (hq : i m 3 = nI q) (hq3 : q ≤ 3) (hQ : Q (some (.int ans)) T r l (up2 (va_up i (m + 3) (fll (i (m + 3)) (853 * q) (i (m + 2)) 853)) m 3 (nI (q + 1)))) : ∀ d k, k + d = 853 → G Γ MX12_acted 0 0 63 [(0, .ref m), (1, .int ans), (2, .int (nI k))] [] T r l (va_up i (m + 3) (fll (i (m + 3)) (853 * q) (i (m + 2)) k)) Q := by
  have hM2 := hM
  obtain ⟨m0, m1, m2, m3, m4, m5, m6, m7, m8, m9, m10⟩ := hM
  intro d
  induction d with
  | zero =>
    intro k hk
    obtain rfl : k = 853 := by omega
    refine G_iload_n (pc := 63) 2 dX12_acted_63 rfl ?_
    refine G_sipush (pc := 64) (v := 853) dX12_acted_64 rfl ?_
    refine G_icmp_ge (pc := 67) (tgt := 97) dX12_acted_67 (by decide) (fun h67 => ?_) (fun h67 => ?_)
    · refine G_aload_n (pc := 97) 0 dX12_acted_97 rfl ?_
      refine G_dup (pc := 98) dX12_acted_98 rfl ?_
      refine G_getI (pc := 99) dX12_acted_99 fX12_33 (by assumption) ?_
      refine G_iconst (pc := 102) (v := 1) dX12_acted_102 rfl ?_
      rw [va_o (by omega), hq]
      refine G_iadd (pc := 103) dX12_acted_103 ?_
      rw [nI_1]
      refine G_putI (pc := 104) dX12_acted_104 fX12_33 (by assumption) rfl rfl (by first | assumption | omega) ?_
      refine G_iload_n (pc := 107) 1 dX12_acted_107 rfl ?_
      refine G_iret (pc := 108) dX12_acted_108 ⟨_, rfl, rfl⟩ ⟨by decide, by decide⟩ ?_
      exact hQ
    · exact absurd (by decide) h67
  | succ d ih =>
    intro k hk
    refine G_iload_n (pc := 63) 2 dX12_acted_63 rfl ?_
    refine G_sipush (pc := 64) (v := 853) dX12_acted_64 rfl ?_
    refine G_icmp_ge (pc := 67) (tgt := 97) dX12_acted_67 (by decide) (fun h67 => ?_) (fun h67 => ?_)
    · exact absurd h67 (by rw [gl853]; exact nI_ge (by omega) (by omega))
    · refine G_aload_n (pc := 70) 0 dX12_acted_70 rfl ?_
      refine G_getR (pc := 71) dX12_acted_71 fX12_16 (by assumption) (by assumption) ?_
      refine G_sipush (pc := 74) (v := 853) dX12_acted_74 rfl ?_
      refine G_aload_n (pc := 77) 0 dX12_acted_77 rfl ?_
      refine G_getI (pc := 78) dX12_acted_78 fX12_33 (by assumption) ?_
      refine G_imul (pc := 81) dX12_acted_81 ?_
      rw [va_o (by omega), hq, gl853, pk_mul]
      refine G_iload_n (pc := 82) 2 dX12_acted_82 rfl ?_
      refine G_iadd (pc := 83) dX12_acted_83 ?_
      rw [nI_add]
      refine G_aload_n (pc := 84) 0 dX12_acted_84 rfl ?_
      refine G_getR (pc := 85) dX12_acted_85 fX12_13 (by assumption) (by assumption) ?_
      refine G_iload_n (pc := 88) 2 dX12_acted_88 rfl ?_
      refine G_ialdJ (pc := 89) (j := k) dX12_acted_89 (by assumption) rfl (by first | assumption | omega) (by decide) ?_
      rw [va_o (by omega)]
      refine G_iastJ (pc := 90) (j := 853 * q + k) dX12_acted_90 (by assumption) rfl (by first | assumption | omega) (by decide) (by first | assumption | omega) ?_
      rw [up2_v, fll_S]
      refine G_inc2 (pc := 91) (v := 1) dX12_acted_91 rfl (by decide) rfl ?_
      refine G_goto (pc := 94) (tgt := 63) dX12_acted_94 (by decide) ?_
      rw [nI_1]
      exact ih (k + 1) (by omega)

set_option maxRecDepth 100000 in
set_option maxHeartbeats 4000000 in
theorem la_X12_acted {Γ : gG} {T : gTy} {r : gR} {l : gLg} {i : gI} {Q : gQ} {m : Nat} {ans : Int32} (hM : lyM T r m) (hA : gN Γ ≤ m) (hK : G Γ MX12_acted 0 0 51 [(0, .ref m), (1, .int ans), (2, .int (nI 2559))] [] T r l (va_up i (m + 3) (shf (i (m + 3)) 2559)) Q) : ∀ d k, k + d = 2559 → G Γ MX12_acted 0 0 22 [(0, .ref m), (1, .int ans), (2, .int (nI k))] [] T r l (va_up i (m + 3) (shf (i (m + 3)) k)) Q := by
  have hM2 := hM
  obtain ⟨m0, m1, m2, m3, m4, m5, m6, m7, m8, m9, m10⟩ := hM
  intro d
  induction d with
  | zero =>
    intro k hk
    obtain rfl : k = 2559 := by omega
    refine G_iload_n (pc := 22) 2 dX12_acted_22 rfl ?_
    refine G_sipush (pc := 23) (v := 2559) dX12_acted_23 rfl ?_
    refine G_icmp_ge (pc := 26) (tgt := 51) dX12_acted_26 (by decide) (fun h26 => ?_) (fun h26 => ?_)
    · exact hK
    · exact absurd (by decide) h26
  | succ d ih =>
    intro k hk
    refine G_iload_n (pc := 22) 2 dX12_acted_22 rfl ?_
    refine G_sipush (pc := 23) (v := 2559) dX12_acted_23 rfl ?_
    refine G_icmp_ge (pc := 26) (tgt := 51) dX12_acted_26 (by decide) (fun h26 => ?_) (fun h26 => ?_)
    · exact absurd h26 (by rw [gl2559]; exact nI_ge (by omega) (by omega))
    · refine G_aload_n (pc := 29) 0 dX12_acted_29 rfl ?_
      refine G_getR (pc := 30) dX12_acted_30 fX12_16 (by assumption) (by assumption) ?_
      refine G_iload_n (pc := 33) 2 dX12_acted_33 rfl ?_
      refine G_aload_n (pc := 34) 0 dX12_acted_34 rfl ?_
      refine G_getR (pc := 35) dX12_acted_35 fX12_16 (by assumption) (by assumption) ?_
      refine G_iload_n (pc := 38) 2 dX12_acted_38 rfl ?_
      refine G_sipush (pc := 39) (v := 853) dX12_acted_39 rfl ?_
      refine G_iadd (pc := 42) dX12_acted_42 ?_
      rw [gl853, nI_add]
      refine G_ialdJ (pc := 43) (j := k + 853) dX12_acted_43 (by assumption) rfl (by first | assumption | omega) (by decide) ?_
      rw [va_s, shf_r]
      refine G_iastJ (pc := 44) (j := k) dX12_acted_44 (by assumption) rfl (by first | assumption | omega) (by decide) (by first | assumption | omega) ?_
      rw [up2_v, shf_S]
      refine G_inc2 (pc := 45) (v := 1) dX12_acted_45 rfl (by decide) rfl ?_
      refine G_goto (pc := 48) (tgt := 22) dX12_acted_48 (by decide) ?_
      rw [nI_1]
      exact ih (k + 1) (by omega)

theorem act_lt {i : gI} {m n : Nat} {P : Nat → Nat → Int32} {s : Nat → Int32} (hn : n < 4) (hP : rpP i m P n) (hB : ∀ k, k < 853 → i (m + 2) k = s k) : frS m i (up2 (va_up i (m + 3) (fll (i (m + 3)) (853 * n) (i (m + 2)) 853)) m 3 (nI (n + 1))) ∧ rpP (up2 (va_up i (m + 3) (fll (i (m + 3)) (853 * n) (i (m + 2)) 853)) m 3 (nI (n + 1))) m (psP n P s) (psN n) := by
  obtain ⟨p1, p2, p3⟩ := hP
  refine ⟨⟨fun c c1 c2 => by rw [up2_ne c1, va_o c2], fun j hj => by rw [up2_row hj, va_o (by omega)]⟩, ?_⟩
  unfold psN psP
  rw [if_pos hn, if_pos hn]
  refine ⟨by omega, up2_self _ _ _ _, fun j hj k hk => ?_⟩
  rw [up2_ne (by omega), va_s]
  unfold fll
  dsimp only
  by_cases h : j = n
  · subst h
    rw [if_pos (by omega), if_pos rfl, show 853 * j + k - 853 * j = k by omega]
    exact hB k hk
  · rw [if_neg (by omega), if_neg h]
    exact p3 j (by omega) k hk
theorem act_4 {i : gI} {m : Nat} {P : Nat → Nat → Int32} {s : Nat → Int32} (hP : rpP i m P 4) (hB : ∀ k, k < 853 → i (m + 2) k = s k) {i1 : gI} (h1 : i1 = up2 (va_up i (m + 3) (shf (i (m + 3)) 2559)) m 3 (nI 3)) : frS m i (up2 (va_up i1 (m + 3) (fll (i1 (m + 3)) (853 * 3) (i1 (m + 2)) 853)) m 3 (nI (3 + 1))) ∧ rpP (up2 (va_up i1 (m + 3) (fll (i1 (m + 3)) (853 * 3) (i1 (m + 2)) 853)) m 3 (nI (3 + 1))) m (psP 4 P s) (psN 4) := by
  obtain ⟨p1, p2, p3⟩ := hP
  have e3 : i1 (m + 3) = shf (i (m + 3)) 2559 := by rw [h1, up2_ne (by omega), va_s]
  have e2 : i1 (m + 2) = i (m + 2) := by rw [h1, up2_ne (by omega), va_o (by omega)]
  have ee : ∀ c, c ≠ m → c ≠ m + 3 → i1 c = i c := fun c c1 c2 => by rw [h1, up2_ne c1, va_o c2]
  have em : ∀ j, j ≠ 3 → i1 m j = i m j := fun j hj => by rw [h1, up2_row hj, va_o (by omega)]
  refine ⟨⟨fun c c1 c2 => by rw [up2_ne c1, va_o c2]; exact ee c c1 c2, fun j hj => by rw [up2_row hj, va_o (by omega)]; exact em j hj⟩, ?_⟩
  unfold psN psP
  rw [if_neg (by decide), if_neg (by decide)]
  refine ⟨Nat.le_refl _, up2_self _ _ _ _, fun j hj k hk => ?_⟩
  rw [up2_ne (by omega), va_s, e3, e2]
  unfold fll
  dsimp only
  by_cases h : j = 3
  · subst h
    rw [if_pos (by omega), if_pos rfl, show 853 * 3 + k - 853 * 3 = k by omega]
    exact hB k hk
  · rw [if_neg (by omega), if_neg h]
    unfold shf
    rw [if_pos (by omega), show 853 * j + k + 853 = 853 * (j + 1) + k by omega]
    exact p3 (j + 1) (by omega) k hk
set_option maxRecDepth 100000 in
set_option maxHeartbeats 4000000 in
theorem c_X12_acted {Γ : gG} {T : gTy} {r : gR} {l : gLg} {i : gI} {Q : gQ} {m n : Nat} {ans : Int32} {P : Nat → Nat → Int32} {s : Nat → Int32} (hM : lyM T r m) (hA : gN Γ ≤ m) (hP : rpP i m P n) (hB : ∀ k, k < 853 → i (m + 2) k = s k)
  (h0 : ans ≤ -1000001 → Q (some (.int ans)) T r l (va_up i (m + 1) (cpy (i (m + 1)) (i (m + 2)) 853)))
  (h1 : ¬ ans ≤ -1000001 → ∀ i', frS m i i' → rpP i' m (psP n P s) (psN n) → Q (some (.int ans)) T r l i') : gC Γ MX12_acted [.ref m, .int ans] T r l i Q := by
  have hM2 := hM
  obtain ⟨m0, m1, m2, m3, m4, m5, m6, m7, m8, m9, m10⟩ := hM
  have hn := hP.2.1
  have hn4 := hP.1
  refine gC_of rfl (Nat.le_of_ble_eq_true rfl) (L := [(0, .ref m), (1, .int ans)]) rfl ?_
  refine G_iload_n (pc := 0) 1 dX12_acted_0 rfl ?_
  refine G_ldc (pc := 1) dX12_acted_1 kcX12_29 ?_
  refine G_icmp_gt (pc := 3) (tgt := 12) dX12_acted_3 (by decide) (fun h3 => ?_) (fun h3 => ?_)
  · have h3 := Int32.not_le.mpr h3
    refine G_aload_n (pc := 12) 0 dX12_acted_12 rfl ?_
    refine G_getI (pc := 13) dX12_acted_13 fX12_33 (by assumption) ?_
    refine G_iconst (pc := 16) (v := 4) dX12_acted_16 rfl ?_
    refine G_icmp_ne (pc := 17) (tgt := 61) dX12_acted_17 (by decide) (fun h17 => ?_) (fun h17 => ?_)
    · have hnn : ¬ n = 4 := fun z => h17 (by rw [hn, z]; rfl)
      refine G_iconst (pc := 61) (v := 0) dX12_acted_61 rfl ?_
      refine G_sn2 (pc := 62) (gSt_in dX12_acted_62 rfl (by decide)) rfl ?_
      obtain ⟨f1, f2⟩ := act_lt (show n < 4 by omega) hP hB
      have h := lb_X12_acted (ans := ans) (Q := Q) (l := l) (i := i) hM2 hA hn (show n ≤ 3 by omega) (h1 h3 _ f1 f2) 853 0 (Nat.zero_add 853)
      rw [fll_0, va_id] at h
      exact h
    · have hnn : n = 4 := (nI_eq (by omega) (by decide)).mp (hn.symm.trans h17)
      subst hnn
      refine G_iconst (pc := 20) (v := 0) dX12_acted_20 rfl ?_
      refine G_sn2 (pc := 21) (gSt_in dX12_acted_21 rfl (by decide)) rfl ?_
      have h := la_X12_acted (ans := ans) (Q := Q) (l := l) (i := i) hM2 hA ?_ 2559 0 (Nat.zero_add 2559)
      · rw [shf_0, va_id] at h
        exact h
      · refine G_aload_n (pc := 51) 0 dX12_acted_51 rfl ?_
        refine G_dup (pc := 52) dX12_acted_52 rfl ?_
        refine G_getI (pc := 53) dX12_acted_53 fX12_33 (by assumption) ?_
        refine G_iconst (pc := 56) (v := 1) dX12_acted_56 rfl ?_
        refine G_isub (pc := 57) dX12_acted_57 ?_
        rw [va_o (by omega), hn, show (nI 4 : Int32) - 1 = nI 3 from nI_pred 3]
        refine G_putI (pc := 58) dX12_acted_58 fX12_33 (by assumption) rfl rfl (by first | assumption | omega) ?_
        generalize he1 : up2 (va_up i (m + 3) (shf (i (m + 3)) 2559)) m 3 (nI 3) = i1
        have he1 := he1.symm
        refine G_iconst (pc := 61) (v := 0) dX12_acted_61 rfl ?_
        refine G_st2 (pc := 62) (gSt_in dX12_acted_62 rfl (by decide)) rfl ?_
        obtain ⟨f1, f2⟩ := act_4 (i1 := i1) hP hB he1
        have h := lb_X12_acted (ans := ans) (Q := Q) (l := l) (i := i1) (q := 3) hM2 hA (by rw [he1]; exact up2_self _ _ _ _) (by decide) (h1 h3 _ f1 f2) 853 0 (Nat.zero_add 853)
        rw [fll_0, va_id] at h
        exact h
  · have h3 := Int32.not_lt.mp h3
    refine G_aload_n (pc := 6) 0 dX12_acted_6 rfl ?_
    refine gV0 (pc := 7) (k' := 0) (n' := 0) dX12_acted_7 lkX12_30 ⟨by decide, by decide⟩ (Nat.le_of_ble_eq_true rfl) rfl rfl ⟨by decide, by decide⟩ (by assumption) (c_X12_returns hM2 hA ?_)
    dsimp only [gRt]
    refine G_iload_n (pc := 10) 1 dX12_acted_10 rfl ?_
    refine G_iret (pc := 11) dX12_acted_11 ⟨_, rfl, rfl⟩ ⟨by decide, by decide⟩ ?_
    exact h0 h3

