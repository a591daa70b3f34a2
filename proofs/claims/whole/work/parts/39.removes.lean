/-! the reference removes -/
def sh3 (f : Nat → Int32) (a b : Nat) : Nat → Int32 := fun k => if a ≤ k ∧ k < b then f (k + 3) else f k
theorem sh3_0 {f : Nat → Int32} {a : Nat} : sh3 f a a = f := by funext k; unfold sh3; rw [if_neg (by omega)]
theorem sh3_r {f : Nat → Int32} {a b k : Nat} (h : k < a ∨ b ≤ k) : sh3 f a b k = f k := by unfold sh3; rw [if_neg (by omega)]
theorem sh3_S {f : Nat → Int32} {a n : Nat} (h : a ≤ n) : upd (sh3 f a n) n (f (n + 3)) = sh3 f a (n + 1) := by
  funext k
  by_cases h1 : k = n
  · rw [h1, upd_s, sh3, if_pos (by omega)]
  · rw [upd_o h1]; unfold sh3
    by_cases h2 : a ≤ k ∧ k < n
    · rw [if_pos h2, if_pos (by omega)]
    · rw [if_neg h2, if_neg (by omega)]
/-- of n + 1 terms the one of number k goes -/
def rmF (s : Nat → Int32) (n k : Nat) : Nat → Int32 := upd (sh3 (upd s 0 (nI n)) (5 + 3 * k) (5 + 3 * n)) 1 0
set_option maxRecDepth 100000 in
set_option maxHeartbeats 4000000 in
theorem lp_X12_removes {Γ : gG} {T : gTy} {r : gR} {l : gLg} {i : gI} {Q : gQ} {m k n : Nat} {had : Int32} (hM : lyM T r m) (hA : gN Γ ≤ m) (hn : n < 6) (hQ : Q (some (.int had)) T r l (va_up i (m + 1) (rmF (i (m + 1)) n k))) : ∀ d c, 5 + 3 * k ≤ c → c + d = 5 + 3 * n → G Γ MX12_removes 0 0 36 [(0, .ref m), (1, .int (nI k)), (2, .int had), (3, .int (nI c))] [] T r l (va_up i (m + 1) (sh3 (upd (i (m + 1)) 0 (nI n)) (5 + 3 * k) c)) Q := by
  have hM2 := hM
  obtain ⟨m0, m1, m2, m3, m4, m5, m6, m7, m8, m9, m10⟩ := hM
  intro d
  induction d with
  | zero =>
    intro c hc0 hc
    obtain rfl : c = 5 + 3 * n := by omega
    refine G_iload_n (pc := 36) 3 dX12_removes_36 rfl ?_
    refine G_iconst (pc := 37) (v := 5) dX12_removes_37 rfl ?_
    refine G_iconst (pc := 38) (v := 3) dX12_removes_38 rfl ?_
    refine G_aload_n (pc := 39) 0 dX12_removes_39 rfl ?_
    refine G_getR (pc := 40) dX12_removes_40 fX12_7 (by assumption) (by assumption) ?_
    refine G_iconst (pc := 43) (v := 0) dX12_removes_43 rfl ?_
    refine G_ialdJ (pc := 44) (j := 0) dX12_removes_44 (by assumption) gl0 (by first | assumption | omega) (by decide) ?_
    rw [va_s, sh3_r (by omega), upd_s]
    refine G_imul (pc := 45) dX12_removes_45 ?_
    rw [gl3, pk_mul]
    refine G_iadd (pc := 46) dX12_removes_46 ?_
    rw [gl5, nI_add]
    refine G_icmp_ge (pc := 47) (tgt := 70) dX12_removes_47 (by decide) (fun h47 => ?_) (fun h47 => ?_)
    · refine G_aload_n (pc := 70) 0 dX12_removes_70 rfl ?_
      refine G_getR (pc := 71) dX12_removes_71 fX12_7 (by assumption) (by assumption) ?_
      refine G_iconst (pc := 74) (v := 1) dX12_removes_74 rfl ?_
      refine G_iconst (pc := 75) (v := 0) dX12_removes_75 rfl ?_
      refine G_iastJ (pc := 76) (j := 1) dX12_removes_76 (by assumption) gl1 (by first | assumption | omega) (by decide) (by first | assumption | omega) ?_
      rw [up2_v]
      refine G_iload_n (pc := 77) 2 dX12_removes_77 rfl ?_
      refine G_iret (pc := 78) dX12_removes_78 ⟨_, rfl, rfl⟩ ⟨by decide, by decide⟩ ?_
      exact hQ
    · exact absurd (Int32.le_refl _) h47
  | succ d ih =>
    intro c hc0 hc
    refine G_iload_n (pc := 36) 3 dX12_removes_36 rfl ?_
    refine G_iconst (pc := 37) (v := 5) dX12_removes_37 rfl ?_
    refine G_iconst (pc := 38) (v := 3) dX12_removes_38 rfl ?_
    refine G_aload_n (pc := 39) 0 dX12_removes_39 rfl ?_
    refine G_getR (pc := 40) dX12_removes_40 fX12_7 (by assumption) (by assumption) ?_
    refine G_iconst (pc := 43) (v := 0) dX12_removes_43 rfl ?_
    refine G_ialdJ (pc := 44) (j := 0) dX12_removes_44 (by assumption) gl0 (by first | assumption | omega) (by decide) ?_
    rw [va_s, sh3_r (by omega), upd_s]
    refine G_imul (pc := 45) dX12_removes_45 ?_
    rw [gl3, pk_mul]
    refine G_iadd (pc := 46) dX12_removes_46 ?_
    rw [gl5, nI_add]
    refine G_icmp_ge (pc := 47) (tgt := 70) dX12_removes_47 (by decide) (fun h47 => ?_) (fun h47 => ?_)
    · exact absurd h47 (nI_ge (by omega) (by omega))
    · refine G_aload_n (pc := 50) 0 dX12_removes_50 rfl ?_
      refine G_getR (pc := 51) dX12_removes_51 fX12_7 (by assumption) (by assumption) ?_
      refine G_iload_n (pc := 54) 3 dX12_removes_54 rfl ?_
      refine G_aload_n (pc := 55) 0 dX12_removes_55 rfl ?_
      refine G_getR (pc := 56) dX12_removes_56 fX12_7 (by assumption) (by assumption) ?_
      refine G_iload_n (pc := 59) 3 dX12_removes_59 rfl ?_
      refine G_iconst (pc := 60) (v := 3) dX12_removes_60 rfl ?_
      refine G_iadd (pc := 61) dX12_removes_61 ?_
      rw [gl3, nI_add]
      refine G_ialdJ (pc := 62) (j := c + 3) dX12_removes_62 (by assumption) rfl (by first | assumption | omega) (by decide) ?_
      rw [va_s, sh3_r (by omega)]
      refine G_iastJ (pc := 63) (j := c) dX12_removes_63 (by assumption) rfl (by first | assumption | omega) (by decide) (by first | assumption | omega) ?_
      rw [up2_v, sh3_S hc0]
      refine G_inc3 (pc := 64) (v := 1) dX12_removes_64 rfl (by decide) rfl ?_
      refine G_goto (pc := 67) (tgt := 36) dX12_removes_67 (by decide) ?_
      rw [nI_1]
      exact ih (c + 1) (by omega) (by omega)

set_option maxRecDepth 100000 in
set_option maxHeartbeats 4000000 in
theorem c_X12_removes {Γ : gG} {T : gTy} {r : gR} {l : gLg} {i : gI} {Q : gQ} {m n : Nat} {x : Int32} (hM : lyM T r m) (hA : gN Γ ≤ m) (hn : i (m + 1) 0 = nI n) (hn6 : n ≤ 6) (h0 : nI n ≤ x → Q (some (.int (-1000002))) T r l i)
  (h1 : ∀ k b, n = b + 1 → k ≤ b → x = nI k → Q (some (.int (i (m + 1) (5 + 3 * k)))) T r l (va_up i (m + 1) (rmF (i (m + 1)) b k))) (hx : ¬ x < 0) : gC Γ MX12_removes [.ref m, .int x] T r l i Q := by
  have hM2 := hM
  obtain ⟨m0, m1, m2, m3, m4, m5, m6, m7, m8, m9, m10⟩ := hM
  refine gC_of rfl (Nat.le_of_ble_eq_true rfl) (L := [(0, .ref m), (1, .int x)]) rfl ?_
  refine G_iload_n (pc := 0) 1 dX12_removes_0 rfl ?_
  refine G_aload_n (pc := 1) 0 dX12_removes_1 rfl ?_
  refine G_getR (pc := 2) dX12_removes_2 fX12_7 (by assumption) (by assumption) ?_
  refine G_iconst (pc := 5) (v := 0) dX12_removes_5 rfl ?_
  refine G_ialdJ (pc := 6) (j := 0) dX12_removes_6 (by assumption) gl0 (by first | assumption | omega) (by decide) ?_
  rw [hn]
  refine G_icmp_lt (pc := 7) (tgt := 13) dX12_removes_7 (by decide) (fun h7 => ?_) (fun h7 => ?_)
  · obtain ⟨k, hk, rfl⟩ : ∃ k, k < n ∧ x = nI k := by
      rcases pk_ix x (n := n) (by omega) with z | z | z
      · exact absurd z hx
      · exact absurd h7 (Int32.not_lt.mpr z)
      · exact z
    obtain ⟨b, rfl⟩ : ∃ b, n = b + 1 := ⟨n - 1, by omega⟩
    refine G_aload_n (pc := 13) 0 dX12_removes_13 rfl ?_
    refine G_iload_n (pc := 14) 1 dX12_removes_14 rfl ?_
    refine G_iconst (pc := 15) (v := 0) dX12_removes_15 rfl ?_
    refine gV2 (pc := 16) (k' := 0) (n' := 0) dX12_removes_16 lkX12_37 ⟨by decide, by decide⟩ (Nat.le_of_ble_eq_true rfl) rfl rfl ⟨by decide, by decide⟩ (by assumption) (c_X12_termPart (w := 0) hM2 (by omega) ?_)
    dsimp only [gRt]
    refine G_sn2 (pc := 19) (gSt_in dX12_removes_19 rfl (by decide)) rfl ?_
    refine G_aload_n (pc := 20) 0 dX12_removes_20 rfl ?_
    refine G_getR (pc := 21) dX12_removes_21 fX12_7 (by assumption) (by assumption) ?_
    refine G_iconst (pc := 24) (v := 0) dX12_removes_24 rfl ?_
    refine G_dup2 (pc := 25) dX12_removes_25 rfl rfl ?_
    refine G_ialdJ (pc := 26) (j := 0) dX12_removes_26 (by assumption) gl0 (by first | assumption | omega) (by decide) ?_
    rw [hn]
    refine G_iconst (pc := 27) (v := 1) dX12_removes_27 rfl ?_
    refine G_isub (pc := 28) dX12_removes_28 ?_
    rw [nI_pred]
    refine G_iastJ (pc := 29) (j := 0) dX12_removes_29 (by assumption) gl0 (by first | assumption | omega) (by decide) (by first | assumption | omega) ?_
    rw [up2_u]
    refine G_iconst (pc := 30) (v := 5) dX12_removes_30 rfl ?_
    refine G_iconst (pc := 31) (v := 3) dX12_removes_31 rfl ?_
    refine G_iload_n (pc := 32) 1 dX12_removes_32 rfl ?_
    refine G_imul (pc := 33) dX12_removes_33 ?_
    rw [gl3, pk_mul]
    refine G_iadd (pc := 34) dX12_removes_34 ?_
    rw [gl5, nI_add]
    refine G_sn3 (pc := 35) (gSt_in dX12_removes_35 rfl (by decide)) rfl ?_
    have h := lp_X12_removes (k := k) (n := b) (l := l) (i := i) (Q := Q) hM2 hA (by omega) (h1 k b rfl (by omega) rfl) (3 * (b - k)) (5 + 3 * k) (Nat.le_refl _) (by omega)
    rw [sh3_0] at h
    exact h
  · have h7 := Int32.not_lt.mp h7
    refine G_ldc (pc := 10) dX12_removes_10 kcX12_116 ?_
    refine G_iret (pc := 12) dX12_removes_12 ⟨_, rfl, rfl⟩ ⟨by decide, by decide⟩ ?_
    exact h0 h7

set_option maxRecDepth 100000 in
set_option maxHeartbeats 4000000 in
theorem lp_X12_isFrom {Γ : gG} {T : gTy} {r : gR} {l : gLg} {i : gI} {Q : gQ} {m k n w : Nat} (hM : lyM T r m) (hk : k < n) (hn : n ≤ 5) (hw : w < 5) (hp : ∀ j, j < n → i (m + 1) (23 + 166 * j + 4) = -1 ∨ ∃ q, q < j ∧ i (m + 1) (23 + 166 * j + 4) = nI q) (hQ : Q (some (.int (gB (fam (fun q => i (m + 1) (23 + 166 * q + 4)) w k = true)))) T r l i) : ∀ d j, j < d → j < n → fam (fun q => i (m + 1) (23 + 166 * q + 4)) w j = fam (fun q => i (m + 1) (23 + 166 * q + 4)) w k → G Γ MX12_isFrom 0 0 2 [(0, .ref m), (1, .int (nI k)), (2, .int (nI w)), (3, .int (nI j))] [] T r l i Q := by
  have hM2 := hM
  obtain ⟨m0, m1, m2, m3, m4, m5, m6, m7, m8, m9, m10⟩ := hM
  intro d
  induction d with
  | zero => intro j hj; omega
  | succ d ih =>
    intro j hj hjn he
    rw [← he] at hQ
    by_cases hjw : j = w
    · subst hjw
      rw [gB_t (fam_self _ _)] at hQ
      refine G_iload_n (pc := 2) 3 dX12_isFrom_2 rfl ?_
      refine G_if_lt (pc := 3) (tgt := 21) dX12_isFrom_3 (by decide) (fun h3 => ?_) (fun h3 => ?_)
      · exact absurd h3 (nI_pos (by omega))
      · refine G_iload_n (pc := 6) 3 dX12_isFrom_6 rfl ?_
        refine G_iload_n (pc := 7) 2 dX12_isFrom_7 rfl ?_
        refine G_icmp_eq (pc := 8) (tgt := 21) dX12_isFrom_8 (by decide) (fun h8 => ?_) (fun h8 => ?_)
        · refine G_iload_n (pc := 21) 3 dX12_isFrom_21 rfl ?_
          refine G_iload_n (pc := 22) 2 dX12_isFrom_22 rfl ?_
          refine G_icmp_ne (pc := 23) (tgt := 30) dX12_isFrom_23 (by decide) (fun h23 => ?_) (fun h23 => ?_)
          · exact absurd rfl h23
          · refine G_iconst (pc := 26) (v := 1) dX12_isFrom_26 rfl ?_
            refine G_goto (pc := 27) (tgt := 31) dX12_isFrom_27 (by decide) ?_
            refine G_iret (pc := 31) dX12_isFrom_31 ⟨_, rfl, rfl⟩ ⟨by decide, by decide⟩ ?_
            exact hQ
        · exact absurd rfl h8
    · have hjw2 : ¬ nI j = nI w := fun z => hjw ((nI_eq (by omega) (by omega)).mp z)
      rcases hp j hjn with hz | ⟨q, hq, hz⟩
      · rw [gB_f (by rw [fam_no hjw (by rw [hz]; exact fun z9 => z9.1 (by decide))]; decide)] at hQ
        refine G_iload_n (pc := 2) 3 dX12_isFrom_2 rfl ?_
        refine G_if_lt (pc := 3) (tgt := 21) dX12_isFrom_3 (by decide) (fun h3 => ?_) (fun h3 => ?_)
        · exact absurd h3 (nI_pos (by omega))
        · refine G_iload_n (pc := 6) 3 dX12_isFrom_6 rfl ?_
          refine G_iload_n (pc := 7) 2 dX12_isFrom_7 rfl ?_
          refine G_icmp_eq (pc := 8) (tgt := 21) dX12_isFrom_8 (by decide) (fun h8 => ?_) (fun h8 => ?_)
          · exact absurd h8 hjw2
          · refine G_aload_n (pc := 11) 0 dX12_isFrom_11 rfl ?_
            refine G_iload_n (pc := 12) 3 dX12_isFrom_12 rfl ?_
            refine G_iconst (pc := 13) (v := 4) dX12_isFrom_13 rfl ?_
            refine gV2 (pc := 14) (k' := 0) (n' := 0) dX12_isFrom_14 lkX12_92 ⟨by decide, by decide⟩ (Nat.le_of_ble_eq_true rfl) rfl rfl ⟨by decide, by decide⟩ (by assumption) (c_X12_walkPart (j := 4) hM2 (by omega) ?_)
            dsimp only [gRt]
            rw [hz]
            refine G_st3 (pc := 17) (gSt_in dX12_isFrom_17 rfl (by decide)) rfl ?_
            refine G_goto (pc := 18) (tgt := 2) dX12_isFrom_18 (by decide) ?_
            refine G_iload_n (pc := 2) 3 dX12_isFrom_2 rfl ?_
            refine G_if_lt (pc := 3) (tgt := 21) dX12_isFrom_3 (by decide) (fun h3 => ?_) (fun h3 => ?_)
            · refine G_iload_n (pc := 21) 3 dX12_isFrom_21 rfl ?_
              refine G_iload_n (pc := 22) 2 dX12_isFrom_22 rfl ?_
              refine G_icmp_ne (pc := 23) (tgt := 30) dX12_isFrom_23 (by decide) (fun h23 => ?_) (fun h23 => ?_)
              · refine G_iconst (pc := 30) (v := 0) dX12_isFrom_30 rfl ?_
                refine G_iret (pc := 31) dX12_isFrom_31 ⟨_, rfl, rfl⟩ ⟨by decide, by decide⟩ ?_
                exact hQ
              · exact absurd h23 (fun z => absurd (show nI w < 0 by rw [← z]; decide) (nI_pos (by omega)))
            · exact absurd (by decide) h3
      · have hf := fam_up (pr := (fun q => i (m + 1) (23 + 166 * q + 4))) (k := w) hjw hq (by omega) hz
        rw [hf] at he hQ
        refine G_iload_n (pc := 2) 3 dX12_isFrom_2 rfl ?_
        refine G_if_lt (pc := 3) (tgt := 21) dX12_isFrom_3 (by decide) (fun h3 => ?_) (fun h3 => ?_)
        · exact absurd h3 (nI_pos (by omega))
        · refine G_iload_n (pc := 6) 3 dX12_isFrom_6 rfl ?_
          refine G_iload_n (pc := 7) 2 dX12_isFrom_7 rfl ?_
          refine G_icmp_eq (pc := 8) (tgt := 21) dX12_isFrom_8 (by decide) (fun h8 => ?_) (fun h8 => ?_)
          · exact absurd h8 hjw2
          · refine G_aload_n (pc := 11) 0 dX12_isFrom_11 rfl ?_
            refine G_iload_n (pc := 12) 3 dX12_isFrom_12 rfl ?_
            refine G_iconst (pc := 13) (v := 4) dX12_isFrom_13 rfl ?_
            refine gV2 (pc := 14) (k' := 0) (n' := 0) dX12_isFrom_14 lkX12_92 ⟨by decide, by decide⟩ (Nat.le_of_ble_eq_true rfl) rfl rfl ⟨by decide, by decide⟩ (by assumption) (c_X12_walkPart (j := 4) hM2 (by omega) ?_)
            dsimp only [gRt]
            rw [hz]
            refine G_st3 (pc := 17) (gSt_in dX12_isFrom_17 rfl (by decide)) rfl ?_
            refine G_goto (pc := 18) (tgt := 2) dX12_isFrom_18 (by decide) ?_
            exact ih q (by omega) (by omega) he

set_option maxRecDepth 100000 in
set_option maxHeartbeats 4000000 in
theorem c_X12_isFrom {Γ : gG} {T : gTy} {r : gR} {l : gLg} {i : gI} {Q : gQ} {m k n w : Nat} (hM : lyM T r m) (hk : k < n) (hn : n ≤ 5) (hw : w < 5) (hp : ∀ j, j < n → i (m + 1) (23 + 166 * j + 4) = -1 ∨ ∃ q, q < j ∧ i (m + 1) (23 + 166 * j + 4) = nI q) (hQ : Q (some (.int (gB (fam (fun q => i (m + 1) (23 + 166 * q + 4)) w k = true)))) T r l i) : gC Γ MX12_isFrom [.ref m, .int (nI k), .int (nI w)] T r l i Q := by
  refine gC_of rfl (Nat.le_of_ble_eq_true rfl) (L := [(0, .ref m), (1, .int (nI k)), (2, .int (nI w))]) rfl ?_
  refine G_iload_n (pc := 0) 1 dX12_isFrom_0 rfl ?_
  refine G_sn3 (pc := 1) (gSt_in dX12_isFrom_1 rfl (by decide)) rfl ?_
  exact lp_X12_isFrom hM hk hn hw hp hQ (k + 1) k (by omega) hk rfl

