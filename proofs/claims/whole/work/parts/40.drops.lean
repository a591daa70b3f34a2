/-! the reference drops walks -/
def gPr4 (s : Nat → Int32) (q : Nat) : Int32 := s (23 + 166 * q + 4)
/-- the number of walk j afterwards -/
def nmR (pr : Nat → Int32) (w j : Nat) : Int32 := if fam pr w j = true then -1 else nI (kc pr w j)
/-- the parent of walk j afterwards -/
def npR (pr : Nat → Int32) (w j : Nat) : Int32 := if pr j < 0 then -1 else nmR pr w (pr j).toNatClampNeg
/-- parents come before -/
def vP (pr : Nat → Int32) (n : Nat) : Prop := ∀ j, j < n → pr j = -1 ∨ ∃ q, q < j ∧ pr j = nI q
/-- k walks have moved -/
def drI (s F : Nat → Int32) (w k : Nat) : Prop := (∀ j, j < 23 → F j = s j) ∧ (∀ j, k ≤ j → j < 5 → ∀ c, c < 166 → F (23 + 166 * j + c) = s (23 + 166 * j + c)) ∧ ∀ j, j < k → ¬ fam (gPr4 s) w j = true → ∀ c, c < 166 → F (23 + 166 * kc (gPr4 s) w j + c) = if c = 4 then npR (gPr4 s) w j else s (23 + 166 * j + c)
theorem drI_f {s F : Nat → Int32} {w k : Nat} (h : drI s F w k) (hk : k < 5) (hf : fam (gPr4 s) w k = true) (v : Int32) : drI s (upd F (23 + 166 * k + 4) v) w (k + 1) := by
  obtain ⟨h1, h2, h3⟩ := h
  refine ⟨fun j hj => by rw [upd_o (by omega)]; exact h1 j hj, fun j j1 j2 c hc => by rw [upd_o (by omega)]; exact h2 j (by omega) j2 c hc, fun j j1 j2 c hc => ?_⟩
  have hj : j < k := by
    rcases Nat.lt_or_ge j k with z | z
    · exact z
    · exact absurd hf (by rw [show k = j by omega]; exact j2)
  have hl := kc_le (gPr4 s) w j
  rw [upd_o (by omega)]
  exact h3 j hj j2 c hc
theorem drI_n {s F : Nat → Int32} {w k : Nat} (h : drI s F w k) (hk : k < 5) (hf : ¬ fam (gPr4 s) w k = true) : drI s (fll (upd F (23 + 166 * k + 4) (npR (gPr4 s) w k)) (23 + 166 * kc (gPr4 s) w k) (fun c => upd F (23 + 166 * k + 4) (npR (gPr4 s) w k) (23 + 166 * k + c)) 166) w (k + 1) := by
  obtain ⟨h1, h2, h3⟩ := h
  have hle := kc_le (gPr4 s) w k
  refine ⟨fun j hj => ?_, fun j j1 j2 c hc => ?_, fun j j1 j2 c hc => ?_⟩
  · unfold fll; rw [if_neg (by omega), upd_o (by omega)]; exact h1 j hj
  · unfold fll; rw [if_neg (by omega), upd_o (by omega)]; exact h2 j (by omega) j2 c hc
  · by_cases hj : j = k
    · subst hj
      unfold fll
      rw [if_pos (by omega)]
      dsimp only
      rw [show 23 + 166 * kc (gPr4 s) w j + c - (23 + 166 * kc (gPr4 s) w j) = c by omega]
      by_cases hc4 : c = 4
      · subst hc4; rw [upd_s, if_pos rfl]
      · rw [upd_o (by omega), if_neg hc4]; exact h2 j (Nat.le_refl _) hk c hc
    · have hl := kc_lt (pr := gPr4 s) (k := w) (p := j) (j := k) (by omega) j2
      unfold fll
      rw [if_neg (by omega), upd_o (by omega)]
      exact h3 j (by omega) j2 c hc
set_option maxRecDepth 100000 in
set_option maxHeartbeats 4000000 in
theorem la_X12_drops {Γ : gG} {T : gTy} {r : gR} {l : gLg} {i : gI} {Q : gQ} {m w n : Nat} (hM : lyM T r m) (hA : gN Γ ≤ m) (h1 : i (m + 1) 1 = nI n) (hn : n ≤ 5) (hw : w < 5) (hp : vP (gPr4 (i (m + 1))) n) (hK : ∀ i1, (∀ c, c ≠ m + 5 → i1 c = i c) → (∀ j, j < n → i1 (m + 5) j = nmR (gPr4 (i (m + 1))) w j) → G Γ MX12_drops 0 0 57 [(0, .ref m), (1, .int (nI w)), (2, .int (nI (kc (gPr4 (i (m + 1))) w n))), (3, .int (nI n))] [] T r l i1 Q) : ∀ d k i1, k + d = n → (∀ c, c ≠ m + 5 → i1 c = i c) → (∀ j, j < k → i1 (m + 5) j = nmR (gPr4 (i (m + 1))) w j) → G Γ MX12_drops 0 0 4 [(0, .ref m), (1, .int (nI w)), (2, .int (nI (kc (gPr4 (i (m + 1))) w k))), (3, .int (nI k))] [] T r l i1 Q := by
  have hM2 := hM
  obtain ⟨m0, m1, m2, m3, m4, m5, m6, m7, m8, m9, m10⟩ := hM
  intro d
  induction d with
  | zero =>
    intro k i1 hk hi hj1
    obtain rfl : k = n := by omega
    refine G_iload_n (pc := 4) 3 dX12_drops_4 rfl ?_
    refine G_aload_n (pc := 5) 0 dX12_drops_5 rfl ?_
    refine G_getR (pc := 6) dX12_drops_6 fX12_7 (by assumption) (by assumption) ?_
    refine G_iconst (pc := 9) (v := 1) dX12_drops_9 rfl ?_
    refine G_ialdJ (pc := 10) (j := 1) dX12_drops_10 (by assumption) gl1 (by first | assumption | omega) (by decide) ?_
    rw [hi (m + 1) (by omega), h1]
    refine G_icmp_ge (pc := 11) (tgt := 57) dX12_drops_11 (by decide) (fun h11 => ?_) (fun h11 => ?_)
    · exact hK i1 hi hj1
    · exact absurd (Int32.le_refl _) h11
  | succ d ih =>
    intro k i1 hk0 hi hj1
    have hk : k < n := by omega
    have hle := kc_le (gPr4 (i (m + 1))) w k
    refine G_iload_n (pc := 4) 3 dX12_drops_4 rfl ?_
    refine G_aload_n (pc := 5) 0 dX12_drops_5 rfl ?_
    refine G_getR (pc := 6) dX12_drops_6 fX12_7 (by assumption) (by assumption) ?_
    refine G_iconst (pc := 9) (v := 1) dX12_drops_9 rfl ?_
    refine G_ialdJ (pc := 10) (j := 1) dX12_drops_10 (by assumption) gl1 (by first | assumption | omega) (by decide) ?_
    rw [hi (m + 1) (by omega), h1]
    refine G_icmp_ge (pc := 11) (tgt := 57) dX12_drops_11 (by decide) (fun h11 => ?_) (fun h11 => ?_)
    · exact absurd h11 (nI_ge (by omega) (by omega))
    · refine G_aload_n (pc := 14) 0 dX12_drops_14 rfl ?_
      refine G_getR (pc := 15) dX12_drops_15 fX12_22 (by assumption) (by assumption) ?_
      refine G_iload_n (pc := 18) 3 dX12_drops_18 rfl ?_
      refine G_aload_n (pc := 19) 0 dX12_drops_19 rfl ?_
      refine G_iload_n (pc := 20) 3 dX12_drops_20 rfl ?_
      refine G_iload_n (pc := 21) 1 dX12_drops_21 rfl ?_
      refine gV2 (pc := 22) (k' := 0) (n' := 0) dX12_drops_22 lkX12_124 ⟨by decide, by decide⟩ (Nat.le_of_ble_eq_true rfl) rfl rfl ⟨by decide, by decide⟩ (by assumption) (c_X12_isFrom (n := n) hM2 hk (by omega) hw (by rw [hi (m + 1) (by omega)]; exact hp) ?_)
      dsimp only [gRt]
      rw [hi (m + 1) (by omega)]
      refine G_if_eq (pc := 25) (tgt := 32) dX12_drops_25 (by decide) (fun h25 => ?_) (fun h25 => ?_)
      · have hf := gB_eq.mp h25
        have hf : ¬ fam (gPr4 (i (m + 1))) w k = true := hf
        refine G_iload_n (pc := 32) 2 dX12_drops_32 rfl ?_
        refine G_iastJ (pc := 33) (j := k) dX12_drops_33 (by assumption) rfl (by first | assumption | omega) (by decide) (by first | assumption | omega) ?_
        refine G_iload_n (pc := 34) 2 dX12_drops_34 rfl ?_
        refine G_aload_n (pc := 35) 0 dX12_drops_35 rfl ?_
        refine G_getR (pc := 36) dX12_drops_36 fX12_22 (by assumption) (by assumption) ?_
        refine G_iload_n (pc := 39) 3 dX12_drops_39 rfl ?_
        refine G_ialdJ (pc := 40) (j := k) dX12_drops_40 (by assumption) rfl (by first | assumption | omega) (by decide) ?_
        rw [up2_self]
        refine G_if_ge (pc := 41) (tgt := 48) dX12_drops_41 (by decide) (fun h41 => ?_) (fun h41 => ?_)
        · refine G_iconst (pc := 48) (v := 1) dX12_drops_48 rfl ?_
          refine G_iadd (pc := 49) dX12_drops_49 ?_
          refine G_st2 (pc := 50) (gSt_in dX12_drops_50 rfl (by decide)) rfl ?_
          refine G_inc3 (pc := 51) (v := 1) dX12_drops_51 rfl (by decide) rfl ?_
          refine G_goto (pc := 54) (tgt := 4) dX12_drops_54 (by decide) ?_
          have ek : kc (gPr4 (i (m + 1))) w (k + 1) = kc (gPr4 (i (m + 1))) w k + 1 := by rw [kc, if_neg hf]
          have en : nmR (gPr4 (i (m + 1))) w k = nI (kc (gPr4 (i (m + 1))) w k) := if_neg hf
          rw [nI_1, nI_1, ← ek]
          refine ih (k + 1) _ (by omega) (fun c hc => by rw [up2_ne hc]; exact hi c hc) (fun j hj => ?_)
          by_cases hjk : j = k
          · rw [hjk, up2_self, en]
          · rw [up2_row hjk]; exact hj1 j (by omega)
        · exact absurd (nI_pos' (by omega)) h41
      · have hf := gB_ne.mp h25
        have hf : fam (gPr4 (i (m + 1))) w k = true := hf
        refine G_iconst (pc := 28) (v := (-1)) dX12_drops_28 rfl ?_
        refine G_goto (pc := 29) (tgt := 33) dX12_drops_29 (by decide) ?_
        refine G_iastJ (pc := 33) (j := k) dX12_drops_33 (by assumption) rfl (by first | assumption | omega) (by decide) (by first | assumption | omega) ?_
        refine G_iload_n (pc := 34) 2 dX12_drops_34 rfl ?_
        refine G_aload_n (pc := 35) 0 dX12_drops_35 rfl ?_
        refine G_getR (pc := 36) dX12_drops_36 fX12_22 (by assumption) (by assumption) ?_
        refine G_iload_n (pc := 39) 3 dX12_drops_39 rfl ?_
        refine G_ialdJ (pc := 40) (j := k) dX12_drops_40 (by assumption) rfl (by first | assumption | omega) (by decide) ?_
        rw [up2_self]
        refine G_if_ge (pc := 41) (tgt := 48) dX12_drops_41 (by decide) (fun h41 => ?_) (fun h41 => ?_)
        · exact absurd h41 (by decide)
        · refine G_iconst (pc := 44) (v := 0) dX12_drops_44 rfl ?_
          refine G_goto (pc := 45) (tgt := 49) dX12_drops_45 (by decide) ?_
          refine G_iadd (pc := 49) dX12_drops_49 ?_
          refine G_st2 (pc := 50) (gSt_in dX12_drops_50 rfl (by decide)) rfl ?_
          refine G_inc3 (pc := 51) (v := 1) dX12_drops_51 rfl (by decide) rfl ?_
          refine G_goto (pc := 54) (tgt := 4) dX12_drops_54 (by decide) ?_
          have ek : kc (gPr4 (i (m + 1))) w (k + 1) = kc (gPr4 (i (m + 1))) w k := by rw [kc, if_pos hf]; rfl
          have en : nmR (gPr4 (i (m + 1))) w k = -1 := if_pos hf
          rw [show nI (kc (gPr4 (i (m + 1))) w k) + 0 = nI (kc (gPr4 (i (m + 1))) w k) from Int32.add_zero _, nI_1, ← ek]
          refine ih (k + 1) _ (by omega) (fun c hc => by rw [up2_ne hc]; exact hi c hc) (fun j hj => ?_)
          by_cases hjk : j = k
          · rw [hjk, up2_self, en]
          · rw [up2_row hjk]; exact hj1 j (by omega)

set_option maxRecDepth 100000 in
set_option maxHeartbeats 4000000 in
theorem li_X12_drops {Γ : gG} {T : gTy} {r : gR} {l : gLg} {i : gI} {Q : gQ} {m w k e : Nat} {N p : Int32} (hM : lyM T r m) (hA : gN Γ ≤ m) (hk : k < 5) (he : e ≤ k) (h5 : i (m + 5) k = nI e) (hK : G Γ MX12_drops 0 0 144 [(0, .ref m), (1, .int (nI w)), (2, .int N), (3, .int (nI k))] [] T r l (va_up i (m + 1) (fll (i (m + 1)) (23 + 166 * e) (fun c => i (m + 1) (23 + 166 * k + c)) 166)) Q) : ∀ d c, c + d = 166 → G Γ MX12_drops 0 0 102 [(0, .ref m), (1, .int (nI w)), (2, .int N), (3, .int (nI k)), (4, .int p), (5, .int (nI c))] [] T r l (va_up i (m + 1) (fll (i (m + 1)) (23 + 166 * e) (fun c => i (m + 1) (23 + 166 * k + c)) c)) Q := by
  have hM2 := hM
  obtain ⟨m0, m1, m2, m3, m4, m5, m6, m7, m8, m9, m10⟩ := hM
  intro d
  induction d with
  | zero =>
    intro c hc
    obtain rfl : c = 166 := by omega
    refine G_iload (pc := 102) 5 dX12_drops_102 rfl ?_
    refine G_sipush (pc := 104) (v := 166) dX12_drops_104 rfl ?_
    refine G_icmp_ge (pc := 107) (tgt := 144) dX12_drops_107 (by decide) (fun h107 => ?_) (fun h107 => ?_)
    · refine G_drop5 ?_
      refine G_drop4 ?_
      exact hK
    · exact absurd (by decide) h107
  | succ d ih =>
    intro c hc
    refine G_iload (pc := 102) 5 dX12_drops_102 rfl ?_
    refine G_sipush (pc := 104) (v := 166) dX12_drops_104 rfl ?_
    refine G_icmp_ge (pc := 107) (tgt := 144) dX12_drops_107 (by decide) (fun h107 => ?_) (fun h107 => ?_)
    · exact absurd h107 (by rw [gl166]; exact nI_ge (by omega) (by omega))
    · refine G_aload_n (pc := 110) 0 dX12_drops_110 rfl ?_
      refine G_getR (pc := 111) dX12_drops_111 fX12_22 (by assumption) (by assumption) ?_
      refine G_iload_n (pc := 114) 3 dX12_drops_114 rfl ?_
      refine G_ialdJ (pc := 115) (j := k) dX12_drops_115 (by assumption) rfl (by first | assumption | omega) (by decide) ?_
      rw [va_o (by omega), h5]
      refine G_if_lt (pc := 116) (tgt := 144) dX12_drops_116 (by decide) (fun h116 => ?_) (fun h116 => ?_)
      · exact absurd h116 (nI_pos (by omega))
      · refine G_aload_n (pc := 119) 0 dX12_drops_119 rfl ?_
        refine G_aload_n (pc := 120) 0 dX12_drops_120 rfl ?_
        refine G_getR (pc := 121) dX12_drops_121 fX12_22 (by assumption) (by assumption) ?_
        refine G_iload_n (pc := 124) 3 dX12_drops_124 rfl ?_
        refine G_ialdJ (pc := 125) (j := k) dX12_drops_125 (by assumption) rfl (by first | assumption | omega) (by decide) ?_
        rw [va_o (by omega), h5]
        refine G_iload (pc := 126) 5 dX12_drops_126 rfl ?_
        refine G_aload_n (pc := 128) 0 dX12_drops_128 rfl ?_
        refine G_iload_n (pc := 129) 3 dX12_drops_129 rfl ?_
        refine G_iload (pc := 130) 5 dX12_drops_130 rfl ?_
        refine gV2 (pc := 132) (k' := 0) (n' := 0) dX12_drops_132 lkX12_92 ⟨by decide, by decide⟩ (Nat.le_of_ble_eq_true rfl) rfl rfl ⟨by decide, by decide⟩ (by assumption) (c_X12_walkPart (j := c) hM2 (by omega) ?_)
        dsimp only [gRt]
        rw [va_s, show (fll (i (m + 1)) (23 + 166 * e) (fun c => i (m + 1) (23 + 166 * k + c)) c) (23 + 166 * k + c) = i (m + 1) (23 + 166 * k + c) by unfold fll; rw [if_neg (by omega)]]
        refine gV3 (pc := 135) (k' := 0) (n' := 0) dX12_drops_135 lkX12_84 ⟨by decide, by decide⟩ (Nat.le_of_ble_eq_true rfl) rfl rfl ⟨by decide, by decide⟩ (by assumption) (c_X12_puts (k := e) (j := c) hM2 hA (by omega) ?_)
        dsimp only [gRt]
        rw [up2_v]
        have ef := fll_S (f := i (m + 1)) (a := 23 + 166 * e) (g := fun c => i (m + 1) (23 + 166 * k + c)) (n := c)
        rw [ef]
        refine G_inc5 (pc := 138) (v := 1) dX12_drops_138 rfl (by decide) rfl ?_
        refine G_goto (pc := 141) (tgt := 102) dX12_drops_141 (by decide) ?_
        rw [nI_1]
        exact ih (c + 1) (by omega)

set_option maxRecDepth 100000 in
set_option maxHeartbeats 4000000 in
theorem lb_X12_drops {Γ : gG} {T : gTy} {r : gR} {l : gLg} {i : gI} {Q : gQ} {m w n : Nat} (hM : lyM T r m) (hA : gN Γ ≤ m) (h1 : i (m + 1) 1 = nI n) (hn : n ≤ 5) (hw : w < 5) (hp : vP (gPr4 (i (m + 1))) n) (hQ : ∀ i' F, (∀ c, c ≠ m + 1 → c ≠ m + 5 → i' c = i c) → i' (m + 1) = F → F 1 = nI (kc (gPr4 (i (m + 1))) w n) → (∀ j, j < 23 → j ≠ 1 → F j = i (m + 1) j) → (∀ j, j < n → ¬ fam (gPr4 (i (m + 1))) w j = true → ∀ c, c < 166 → F (23 + 166 * kc (gPr4 (i (m + 1))) w j + c) = if c = 4 then npR (gPr4 (i (m + 1))) w j else i (m + 1) (23 + 166 * j + c)) → Q (some (.int (nI (kc (gPr4 (i (m + 1))) w n)))) T r l i') : ∀ d k i2, k + d = n → (∀ c, c ≠ m + 5 → c ≠ m + 1 → i2 c = i c) → (∀ j, j < n → i2 (m + 5) j = nmR (gPr4 (i (m + 1))) w j) → drI (i (m + 1)) (i2 (m + 1)) w k → G Γ MX12_drops 0 0 59 [(0, .ref m), (1, .int (nI w)), (2, .int (nI (kc (gPr4 (i (m + 1))) w n))), (3, .int (nI k))] [] T r l i2 Q := by
  have hM2 := hM
  obtain ⟨m0, m1, m2, m3, m4, m5, m6, m7, m8, m9, m10⟩ := hM
  intro d
  induction d with
  | zero =>
    intro k i2 hk hi hj1 hd
    obtain rfl : k = n := by omega
    refine G_iload_n (pc := 59) 3 dX12_drops_59 rfl ?_
    refine G_aload_n (pc := 60) 0 dX12_drops_60 rfl ?_
    refine G_getR (pc := 61) dX12_drops_61 fX12_7 (by assumption) (by assumption) ?_
    refine G_iconst (pc := 64) (v := 1) dX12_drops_64 rfl ?_
    refine G_ialdJ (pc := 65) (j := 1) dX12_drops_65 (by assumption) gl1 (by first | assumption | omega) (by decide) ?_
    rw [hd.1 1 (by decide), h1]
    refine G_icmp_ge (pc := 66) (tgt := 150) dX12_drops_66 (by decide) (fun h66 => ?_) (fun h66 => ?_)
    · refine G_aload_n (pc := 150) 0 dX12_drops_150 rfl ?_
      refine G_getR (pc := 151) dX12_drops_151 fX12_7 (by assumption) (by assumption) ?_
      refine G_iconst (pc := 154) (v := 1) dX12_drops_154 rfl ?_
      refine G_iload_n (pc := 155) 2 dX12_drops_155 rfl ?_
      refine G_iastJ (pc := 156) (j := 1) dX12_drops_156 (by assumption) gl1 (by first | assumption | omega) (by decide) (by first | assumption | omega) ?_
      rw [up2_u]
      refine G_iload_n (pc := 157) 2 dX12_drops_157 rfl ?_
      refine G_iret (pc := 158) dX12_drops_158 ⟨_, rfl, rfl⟩ ⟨by decide, by decide⟩ ?_
      refine hQ _ _ (fun c c1 c2 => by rw [va_o c1]; exact hi c c2 c1) va_s upd_s (fun j h9 h8 => by rw [upd_o h8]; exact hd.1 j h9) (fun j h9 h8 c hc => ?_)
      rw [upd_o (by omega)]
      exact hd.2.2 j h9 h8 c hc
    · exact absurd (Int32.le_refl _) h66
  | succ d ih =>
    intro k i2 hk0 hi hj1 hd
    have hk : k < n := by omega
    have hrow : i2 (m + 1) (23 + 166 * k + 4) = gPr4 (i (m + 1)) k := hd.2.1 k (Nat.le_refl _) (by omega) 4 (by decide)
    refine G_iload_n (pc := 59) 3 dX12_drops_59 rfl ?_
    refine G_aload_n (pc := 60) 0 dX12_drops_60 rfl ?_
    refine G_getR (pc := 61) dX12_drops_61 fX12_7 (by assumption) (by assumption) ?_
    refine G_iconst (pc := 64) (v := 1) dX12_drops_64 rfl ?_
    refine G_ialdJ (pc := 65) (j := 1) dX12_drops_65 (by assumption) gl1 (by first | assumption | omega) (by decide) ?_
    rw [hd.1 1 (by decide), h1]
    refine G_icmp_ge (pc := 66) (tgt := 150) dX12_drops_66 (by decide) (fun h66 => ?_) (fun h66 => ?_)
    · exact absurd h66 (nI_ge (by omega) (by omega))
    · refine G_aload_n (pc := 69) 0 dX12_drops_69 rfl ?_
      refine G_iload_n (pc := 70) 3 dX12_drops_70 rfl ?_
      refine G_iconst (pc := 71) (v := 4) dX12_drops_71 rfl ?_
      refine gV2 (pc := 72) (k' := 0) (n' := 0) dX12_drops_72 lkX12_92 ⟨by decide, by decide⟩ (Nat.le_of_ble_eq_true rfl) rfl rfl ⟨by decide, by decide⟩ (by assumption) (c_X12_walkPart (j := 4) hM2 (by omega) ?_)
      dsimp only [gRt]
      rw [hrow]
      refine G_sn4 (pc := 75) (gSt_i dX12_drops_75 (by decide)) rfl ?_
      refine G_aload_n (pc := 77) 0 dX12_drops_77 rfl ?_
      refine G_iload_n (pc := 78) 3 dX12_drops_78 rfl ?_
      refine G_iconst (pc := 79) (v := 4) dX12_drops_79 rfl ?_
      refine G_iload (pc := 80) 4 dX12_drops_80 rfl ?_
      refine G_if_ge (pc := 82) (tgt := 89) dX12_drops_82 (by decide) (fun h82 => ?_) (fun h82 => ?_)
      · obtain ⟨q, hq, hz⟩ : ∃ q, q < k ∧ gPr4 (i (m + 1)) k = nI q := by
          rcases hp k hk with z | z
          · exact absurd h82 (by rw [z]; decide)
          · exact z
        refine G_aload_n (pc := 89) 0 dX12_drops_89 rfl ?_
        refine G_getR (pc := 90) dX12_drops_90 fX12_22 (by assumption) (by assumption) ?_
        refine G_iload (pc := 93) 4 dX12_drops_93 rfl ?_
        refine G_ialdJ (pc := 95) (j := q) dX12_drops_95 (by assumption) hz (by first | assumption | omega) (by decide) ?_
        rw [hj1 q (by omega), show nmR (gPr4 (i (m + 1))) w q = npR (gPr4 (i (m + 1))) w k by unfold npR; rw [hz, if_neg (nI_pos (by omega)), nI_clamp (by omega)]]
        refine gV3 (pc := 96) (k' := 0) (n' := 0) dX12_drops_96 lkX12_84 ⟨by decide, by decide⟩ (Nat.le_of_ble_eq_true rfl) rfl rfl ⟨by decide, by decide⟩ (by assumption) (c_X12_puts (j := 4) hM2 hA (by omega) ?_)
        dsimp only [gRt]
        rw [up2_u]
        refine G_iconst (pc := 99) (v := 0) dX12_drops_99 rfl ?_
        refine G_sn5 (pc := 100) (gSt_i dX12_drops_100 (by decide)) rfl ?_
        by_cases hf : fam (gPr4 (i (m + 1))) w k = true
        · refine G_iload (pc := 102) 5 dX12_drops_102 rfl ?_
          refine G_sipush (pc := 104) (v := 166) dX12_drops_104 rfl ?_
          refine G_icmp_ge (pc := 107) (tgt := 144) dX12_drops_107 (by decide) (fun h107 => ?_) (fun h107 => ?_)
          · exact absurd h107 (by decide)
          · refine G_aload_n (pc := 110) 0 dX12_drops_110 rfl ?_
            refine G_getR (pc := 111) dX12_drops_111 fX12_22 (by assumption) (by assumption) ?_
            refine G_iload_n (pc := 114) 3 dX12_drops_114 rfl ?_
            refine G_ialdJ (pc := 115) (j := k) dX12_drops_115 (by assumption) rfl (by first | assumption | omega) (by decide) ?_
            rw [va_o (by omega), hj1 k hk, show nmR (gPr4 (i (m + 1))) w k = -1 from if_pos hf]
            refine G_if_lt (pc := 116) (tgt := 144) dX12_drops_116 (by decide) (fun h116 => ?_) (fun h116 => ?_)
            · refine G_drop5 ?_
              refine G_drop4 ?_
              refine G_inc3 (pc := 144) (v := 1) dX12_drops_144 rfl (by decide) rfl ?_
              refine G_goto (pc := 147) (tgt := 59) dX12_drops_147 (by decide) ?_
              rw [nI_1]
              exact ih (k + 1) _ (by omega) (fun c c1 c2 => by rw [va_o c2]; exact hi c c1 c2) (fun j hj => by rw [va_o (by omega)]; exact hj1 j hj) (by rw [va_s]; exact drI_f hd (by omega) hf _)
            · exact absurd (by decide) h116
        · have hle := kc_le (gPr4 (i (m + 1))) w k
          have h := li_X12_drops (k := k) (w := w) (e := kc (gPr4 (i (m + 1))) w k) (N := nI (kc (gPr4 (i (m + 1))) w n)) (p := gPr4 (i (m + 1)) k) (l := l) (Q := Q) (i := va_up i2 (m + 1) (upd (i2 (m + 1)) (23 + 166 * k + 4) (npR (gPr4 (i (m + 1))) w k))) hM2 hA (by omega) hle (by rw [va_o (by omega), hj1 k hk]; exact if_neg hf) ?_ 166 0 (Nat.zero_add 166)
          · rw [fll_0, va_id] at h
            exact h
          · rw [va_vv, va_s]
            refine G_inc3 (pc := 144) (v := 1) dX12_drops_144 rfl (by decide) rfl ?_
            refine G_goto (pc := 147) (tgt := 59) dX12_drops_147 (by decide) ?_
            rw [nI_1]
            exact ih (k + 1) _ (by omega) (fun c c1 c2 => by rw [va_o c2]; exact hi c c1 c2) (fun j hj => by rw [va_o (by omega)]; exact hj1 j hj) (by rw [va_s]; exact drI_n hd (by omega) hf)
      · have hz : gPr4 (i (m + 1)) k < 0 := Int32.not_le.mp h82
        refine G_iconst (pc := 85) (v := (-1)) dX12_drops_85 rfl ?_
        rw [show (-1 : Int32) = npR (gPr4 (i (m + 1))) w k from (if_pos hz).symm]
        refine G_goto (pc := 86) (tgt := 96) dX12_drops_86 (by decide) ?_
        refine gV3 (pc := 96) (k' := 0) (n' := 0) dX12_drops_96 lkX12_84 ⟨by decide, by decide⟩ (Nat.le_of_ble_eq_true rfl) rfl rfl ⟨by decide, by decide⟩ (by assumption) (c_X12_puts (j := 4) hM2 hA (by omega) ?_)
        dsimp only [gRt]
        rw [up2_u]
        refine G_iconst (pc := 99) (v := 0) dX12_drops_99 rfl ?_
        refine G_sn5 (pc := 100) (gSt_i dX12_drops_100 (by decide)) rfl ?_
        by_cases hf : fam (gPr4 (i (m + 1))) w k = true
        · refine G_iload (pc := 102) 5 dX12_drops_102 rfl ?_
          refine G_sipush (pc := 104) (v := 166) dX12_drops_104 rfl ?_
          refine G_icmp_ge (pc := 107) (tgt := 144) dX12_drops_107 (by decide) (fun h107 => ?_) (fun h107 => ?_)
          · exact absurd h107 (by decide)
          · refine G_aload_n (pc := 110) 0 dX12_drops_110 rfl ?_
            refine G_getR (pc := 111) dX12_drops_111 fX12_22 (by assumption) (by assumption) ?_
            refine G_iload_n (pc := 114) 3 dX12_drops_114 rfl ?_
            refine G_ialdJ (pc := 115) (j := k) dX12_drops_115 (by assumption) rfl (by first | assumption | omega) (by decide) ?_
            rw [va_o (by omega), hj1 k hk, show nmR (gPr4 (i (m + 1))) w k = -1 from if_pos hf]
            refine G_if_lt (pc := 116) (tgt := 144) dX12_drops_116 (by decide) (fun h116 => ?_) (fun h116 => ?_)
            · refine G_drop5 ?_
              refine G_drop4 ?_
              refine G_inc3 (pc := 144) (v := 1) dX12_drops_144 rfl (by decide) rfl ?_
              refine G_goto (pc := 147) (tgt := 59) dX12_drops_147 (by decide) ?_
              rw [nI_1]
              exact ih (k + 1) _ (by omega) (fun c c1 c2 => by rw [va_o c2]; exact hi c c1 c2) (fun j hj => by rw [va_o (by omega)]; exact hj1 j hj) (by rw [va_s]; exact drI_f hd (by omega) hf _)
            · exact absurd (by decide) h116
        · have hle := kc_le (gPr4 (i (m + 1))) w k
          have h := li_X12_drops (k := k) (w := w) (e := kc (gPr4 (i (m + 1))) w k) (N := nI (kc (gPr4 (i (m + 1))) w n)) (p := gPr4 (i (m + 1)) k) (l := l) (Q := Q) (i := va_up i2 (m + 1) (upd (i2 (m + 1)) (23 + 166 * k + 4) (npR (gPr4 (i (m + 1))) w k))) hM2 hA (by omega) hle (by rw [va_o (by omega), hj1 k hk]; exact if_neg hf) ?_ 166 0 (Nat.zero_add 166)
          · rw [fll_0, va_id] at h
            exact h
          · rw [va_vv, va_s]
            refine G_inc3 (pc := 144) (v := 1) dX12_drops_144 rfl (by decide) rfl ?_
            refine G_goto (pc := 147) (tgt := 59) dX12_drops_147 (by decide) ?_
            rw [nI_1]
            exact ih (k + 1) _ (by omega) (fun c c1 c2 => by rw [va_o c2]; exact hi c c1 c2) (fun j hj => by rw [va_o (by omega)]; exact hj1 j hj) (by rw [va_s]; exact drI_n hd (by omega) hf)

set_option maxRecDepth 100000 in
set_option maxHeartbeats 4000000 in
theorem c_X12_drops {Γ : gG} {T : gTy} {r : gR} {l : gLg} {i : gI} {Q : gQ} {m w n : Nat} (hM : lyM T r m) (hA : gN Γ ≤ m) (h1 : i (m + 1) 1 = nI n) (hn : n ≤ 5) (hw : w < 5) (hp : vP (gPr4 (i (m + 1))) n) (hQ : ∀ i' F, (∀ c, c ≠ m + 1 → c ≠ m + 5 → i' c = i c) → i' (m + 1) = F → F 1 = nI (kc (gPr4 (i (m + 1))) w n) → (∀ j, j < 23 → j ≠ 1 → F j = i (m + 1) j) → (∀ j, j < n → ¬ fam (gPr4 (i (m + 1))) w j = true → ∀ c, c < 166 → F (23 + 166 * kc (gPr4 (i (m + 1))) w j + c) = if c = 4 then npR (gPr4 (i (m + 1))) w j else i (m + 1) (23 + 166 * j + c)) → Q (some (.int (nI (kc (gPr4 (i (m + 1))) w n)))) T r l i') : gC Γ MX12_drops [.ref m, .int (nI w)] T r l i Q := by
  refine gC_of rfl (Nat.le_of_ble_eq_true rfl) (L := [(0, .ref m), (1, .int (nI w))]) rfl ?_
  refine G_iconst (pc := 0) (v := 0) dX12_drops_0 rfl ?_
  refine G_sn2 (pc := 1) (gSt_in dX12_drops_1 rfl (by decide)) rfl ?_
  refine G_iconst (pc := 2) (v := 0) dX12_drops_2 rfl ?_
  refine G_sn3 (pc := 3) (gSt_in dX12_drops_3 rfl (by decide)) rfl ?_
  refine la_X12_drops hM hA h1 hn hw hp ?_ n 0 i (Nat.zero_add n) (fun _ _ => rfl) (fun j hj => absurd hj (Nat.not_lt_zero j))
  intro i1 hi hj1
  refine G_iconst (pc := 57) (v := 0) dX12_drops_57 rfl ?_
  refine G_st3 (pc := 58) (gSt_in dX12_drops_58 rfl (by decide)) rfl ?_
  exact lb_X12_drops hM hA h1 hn hw hp hQ n 0 i1 (Nat.zero_add n) (fun c c1 _ => hi c c1) hj1 ⟨fun j _ => by rw [hi (m + 1) (by omega)], fun j _ _ c _ => by rw [hi (m + 1) (by omega)], fun j hj => absurd hj (Nat.not_lt_zero j)⟩

