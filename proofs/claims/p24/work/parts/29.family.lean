/-! families of walks: a walk, all that were begun from it, and so on -/
def famT (pr : Nat → Int32) (k : Nat) : Nat → Nat → Bool
  | 0, _ => false
  | m + 1, j => if j = m then (decide (m = k) || (decide (¬ pr m < 0 ∧ pr m < nI m) && famT pr k m (pr m).toNatClampNeg)) else famT pr k m j
def fam (pr : Nat → Int32) (k j : Nat) : Bool := famT pr k (j + 1) j
theorem famT_st (pr : Nat → Int32) (k : Nat) : ∀ m j, j < m → famT pr k m j = fam pr k j
  | 0, _, h => absurd h (by omega)
  | m + 1, j, h => by
    by_cases hj : j = m
    · subst hj; rfl
    · rw [famT, if_neg hj]; exact famT_st pr k m j (by omega)
theorem fam_lt {x : Int32} {j : Nat} (hj : j < 2 ^ 31) (h : ¬ x < 0 ∧ x < nI j) : ∃ q, q < j ∧ x = nI q := by
  rcases pk_ix x (n := j) hj with z | z | z
  · exact absurd z h.1
  · exact absurd h.2 (Int32.not_lt.mpr z)
  · exact z
theorem fam_self (pr : Nat → Int32) (k : Nat) : fam pr k k = true := by simp [fam, famT]
theorem fam_up {pr : Nat → Int32} {k j q : Nat} (hjk : j ≠ k) (hq : q < j) (hj : j < 2 ^ 31) (hp : pr j = nI q) : fam pr k j = fam pr k q := by
  have h1 : ¬ pr j < 0 ∧ pr j < nI j := by rw [hp]; exact ⟨nI_pos (by omega), nI_lt hq hj⟩
  have h2 : (pr j).toNatClampNeg = q := by rw [hp]; exact nI_clamp (by omega)
  have h3 := famT_st pr k j q hq
  unfold fam at h3 ⊢
  rw [famT, if_pos rfl, h2, h3]
  simp only [hjk, decide_false, Bool.false_or, h1, not_false_eq_true, true_and, decide_true, Bool.true_and]
theorem fam_no {pr : Nat → Int32} {k j : Nat} (hjk : j ≠ k) (h : ¬ (¬ pr j < 0 ∧ pr j < nI j)) : fam pr k j = false := by
  unfold fam
  rw [famT, if_pos rfl]
  simp only [hjk, decide_false, Bool.false_or, h, Bool.false_and]
def cFam (pr : Nat → Int32) (k : Nat) : Nat → Nat
  | 0 => 0
  | j + 1 => cFam pr k j + (if fam pr k j = true then 1 else 0)
theorem cFam_le (pr : Nat → Int32) (k : Nat) : ∀ n, cFam pr k n ≤ n
  | 0 => Nat.le_refl _
  | n + 1 => by have := cFam_le pr k n; unfold cFam; split <;> omega
/-- how many before j stay -/
def kc (pr : Nat → Int32) (k : Nat) : Nat → Nat
  | 0 => 0
  | j + 1 => kc pr k j + (if fam pr k j = true then 0 else 1)
theorem kc_le (pr : Nat → Int32) (k : Nat) : ∀ n, kc pr k n ≤ n
  | 0 => Nat.le_refl _
  | n + 1 => by have := kc_le pr k n; unfold kc; split <;> omega
theorem kc_mono (pr : Nat → Int32) (k : Nat) : ∀ {p j}, p ≤ j → kc pr k p ≤ kc pr k j
  | p, 0, h => by rw [show p = 0 by omega]; exact Nat.le_refl _
  | p, j + 1, h => by
    by_cases e : p = j + 1
    · rw [e]; exact Nat.le_refl _
    · have := kc_mono pr k (p := p) (j := j) (by omega); rw [kc]; omega
theorem kc_lt {pr : Nat → Int32} {k p j : Nat} (h : p < j) (hf : ¬ fam pr k p = true) : kc pr k p < kc pr k j := by
  have h1 := kc_mono pr k (p := p + 1) (j := j) (by omega)
  rw [kc, if_neg hf] at h1
  omega
/-- the marks so far -/
def mkd (pr : Nat → Int32) (k a j : Nat) (i i' : gI) : Prop := (∀ c, c ≠ a + 2 → i' c = i c) ∧ ∀ q, q < j → i' (a + 2) q = gB (fam pr k q = true)
theorem mkd.step {pr : Nat → Int32} {k a j : Nat} {i i' : gI} {x : Int32} (h : mkd pr k a j i i') (hx : x = gB (fam pr k j = true)) : mkd pr k a (j + 1) i (up2 i' (a + 2) j x) := by
  refine ⟨fun c hc => by rw [up2_ne hc]; exact h.1 c hc, fun q hq => ?_⟩
  by_cases e : q = j
  · subst e; rw [up2_self]; exact hx
  · rw [up2_row e]; exact h.2 q (by omega)
set_option maxRecDepth 100000 in
set_option maxHeartbeats 4000000 in
theorem lp_X10_markFamily {Γ : gG} {T : gTy} {r : gR} {l : gLg} {i : gI} {Q : gQ} {a m k : Nat} {w : Nat → Nat} (hL : lyWs T r a w) (hA : gN Γ ≤ a) (h3 : i a 3 = nI m) (hm : m ≤ 5) (hk : k < m) (hQ : ∀ i', mkd (fun q => i (w q) 8) k a m i i' → Q (some (.int (nI (cFam (fun q => i (w q) 8) k m)))) T r l i') : ∀ d j i1, j + d = m → mkd (fun q => i (w q) 8) k a j i i1 → G Γ MX10_markFamily 0 0 4 [(0, .ref a), (1, .int (nI k)), (2, .int (nI (cFam (fun q => i (w q) 8) k j))), (3, .int (nI j))] [] T r l i1 Q := by
  obtain ⟨s0, s1, s2, s3, s4, s5, s6, s7, s8⟩ := hL
  intro d
  induction d with
  | zero =>
    intro j i1 hj hi
    have hjm : j = m := by omega
    rw [hjm] at hi ⊢
    have e3 : i1 a 3 = nI m := by rw [hi.1 a (by omega)]; exact h3
    refine G_iload_n (pc := 4) 3 dX10_markFamily_4 rfl ?_
    refine G_aload_n (pc := 5) 0 dX10_markFamily_5 rfl ?_
    refine G_getI (pc := 6) dX10_markFamily_6 fX10_26 (by assumption) ?_
    refine G_icmp_ge (pc := 9) (tgt := 78) dX10_markFamily_9 (by decide) (fun h9 => ?_) (fun h9 => ?_)
    · refine G_iload_n (pc := 78) 2 dX10_markFamily_78 rfl ?_
      refine G_iret (pc := 79) dX10_markFamily_79 ⟨_, rfl, rfl⟩ ⟨by decide, by decide⟩ ?_
      exact hQ _ hi
    · exact absurd (by rw [e3]; exact Int32.le_refl _) h9
  | succ d ih =>
    intro j i1 hj hi
    have e3 : i1 a 3 = nI m := by rw [hi.1 a (by omega)]; exact h3
    have hw := s7 j (by omega)
    have e8 : i1 (w j) 8 = i (w j) 8 := by rw [hi.1 (w j) (by omega)]
    refine G_iload_n (pc := 4) 3 dX10_markFamily_4 rfl ?_
    refine G_aload_n (pc := 5) 0 dX10_markFamily_5 rfl ?_
    refine G_getI (pc := 6) dX10_markFamily_6 fX10_26 (by assumption) ?_
    refine G_icmp_ge (pc := 9) (tgt := 78) dX10_markFamily_9 (by decide) (fun h9 => ?_) (fun h9 => ?_)
    · exact absurd h9 (by rw [e3]; exact nI_ge (by omega) (by omega))
    · refine G_aload_n (pc := 12) 0 dX10_markFamily_12 rfl ?_
      refine G_getR (pc := 13) dX10_markFamily_13 fX10_11 (by assumption) (by assumption) ?_
      refine G_iload_n (pc := 16) 3 dX10_markFamily_16 rfl ?_
      refine G_aaldWJ (pc := 17) dX10_markFamily_17 (by assumption) rfl (by first | assumption | omega) (by decide) hw.1 ?_
      refine G_getI (pc := 18) dX10_markFamily_18 fX10_34 hw.2.1.1 ?_
      rw [e8]
      refine G_sn4 (pc := 21) (gSt_i dX10_markFamily_21 (by decide)) rfl ?_
      refine G_aload_n (pc := 23) 0 dX10_markFamily_23 rfl ?_
      refine G_getR (pc := 24) dX10_markFamily_24 fX10_17 (by assumption) (by assumption) ?_
      refine G_iload_n (pc := 27) 3 dX10_markFamily_27 rfl ?_
      refine G_iload_n (pc := 28) 3 dX10_markFamily_28 rfl ?_
      refine G_iload_n (pc := 29) 1 dX10_markFamily_29 rfl ?_
      refine G_icmp_eq (pc := 30) (tgt := 54) dX10_markFamily_30 (by decide) (fun h30 => ?_) (fun h30 => ?_)
      · have ejk : j = k := (nI_eq (by omega) (by omega)).mp h30
        have hv : fam (fun q => i (w q) 8) k j = true := by rw [ejk]; exact fam_self _ _
        refine G_iconst (pc := 54) (v := 1) dX10_markFamily_54 rfl ?_
        refine G_goto (pc := 55) (tgt := 59) dX10_markFamily_55 (by decide) ?_
        refine G_zastJ (pc := 59) dX10_markFamily_59 (by assumption) rfl (by first | assumption | omega) (by decide) rfl (by first | assumption | omega) ?_
        refine G_aload_n (pc := 60) 0 dX10_markFamily_60 rfl ?_
        refine G_getR (pc := 61) dX10_markFamily_61 fX10_17 (by assumption) (by assumption) ?_
        refine G_iload_n (pc := 64) 3 dX10_markFamily_64 rfl ?_
        refine G_zaldJ (pc := 65) dX10_markFamily_65 (by assumption) rfl (by first | assumption | omega) (by decide) ?_
        rw [up2_self]
        refine G_if_eq (pc := 66) (tgt := 72) dX10_markFamily_66 (by decide) (fun h66 => ?_) (fun h66 => ?_)
        · exact absurd h66 (by decide)
        · refine G_inc2 (pc := 69) (v := 1) dX10_markFamily_69 rfl (by decide) rfl ?_
          refine G_inc3 (pc := 72) (v := 1) dX10_markFamily_72 rfl (by decide) rfl ?_
          refine G_goto (pc := 75) (tgt := 4) dX10_markFamily_75 (by decide) ?_
          refine G_drop4 ?_
          rw [nI_1, nI_1]
          have ec : cFam (fun q => i (w q) 8) k (j + 1) = cFam (fun q => i (w q) 8) k j + 1 := by rw [cFam, if_pos hv]
          rw [← ec]
          exact ih (j + 1) _ (by omega) (hi.step (by rw [hv]; rfl))
      · have njk : j ≠ k := fun z => h30 (by rw [z])
        refine G_iload (pc := 33) 4 dX10_markFamily_33 rfl ?_
        refine G_if_lt (pc := 35) (tgt := 58) dX10_markFamily_35 (by decide) (fun h35 => ?_) (fun h35 => ?_)
        · have hv : fam (fun q => i (w q) 8) k j = false := fam_no njk (fun z => z.1 h35)
          refine G_iconst (pc := 58) (v := 0) dX10_markFamily_58 rfl ?_
          refine G_zastJ (pc := 59) dX10_markFamily_59 (by assumption) rfl (by first | assumption | omega) (by decide) rfl (by first | assumption | omega) ?_
          refine G_aload_n (pc := 60) 0 dX10_markFamily_60 rfl ?_
          refine G_getR (pc := 61) dX10_markFamily_61 fX10_17 (by assumption) (by assumption) ?_
          refine G_iload_n (pc := 64) 3 dX10_markFamily_64 rfl ?_
          refine G_zaldJ (pc := 65) dX10_markFamily_65 (by assumption) rfl (by first | assumption | omega) (by decide) ?_
          rw [up2_self]
          refine G_if_eq (pc := 66) (tgt := 72) dX10_markFamily_66 (by decide) (fun h66 => ?_) (fun h66 => ?_)
          · refine G_inc3 (pc := 72) (v := 1) dX10_markFamily_72 rfl (by decide) rfl ?_
            refine G_goto (pc := 75) (tgt := 4) dX10_markFamily_75 (by decide) ?_
            refine G_drop4 ?_
            rw [nI_1]
            have ec : cFam (fun q => i (w q) 8) k (j + 1) = cFam (fun q => i (w q) 8) k j := by rw [cFam, if_neg (by rw [hv]; decide)]; rfl
            rw [← ec]
            exact ih (j + 1) _ (by omega) (hi.step (by rw [hv]; rfl))
          · exact absurd rfl h66
        · refine G_iload (pc := 38) 4 dX10_markFamily_38 rfl ?_
          refine G_iload_n (pc := 40) 3 dX10_markFamily_40 rfl ?_
          refine G_icmp_ge (pc := 41) (tgt := 58) dX10_markFamily_41 (by decide) (fun h41 => ?_) (fun h41 => ?_)
          · have hv : fam (fun q => i (w q) 8) k j = false := fam_no njk (fun z => (Int32.not_lt.mpr h41) z.2)
            refine G_iconst (pc := 58) (v := 0) dX10_markFamily_58 rfl ?_
            refine G_zastJ (pc := 59) dX10_markFamily_59 (by assumption) rfl (by first | assumption | omega) (by decide) rfl (by first | assumption | omega) ?_
            refine G_aload_n (pc := 60) 0 dX10_markFamily_60 rfl ?_
            refine G_getR (pc := 61) dX10_markFamily_61 fX10_17 (by assumption) (by assumption) ?_
            refine G_iload_n (pc := 64) 3 dX10_markFamily_64 rfl ?_
            refine G_zaldJ (pc := 65) dX10_markFamily_65 (by assumption) rfl (by first | assumption | omega) (by decide) ?_
            rw [up2_self]
            refine G_if_eq (pc := 66) (tgt := 72) dX10_markFamily_66 (by decide) (fun h66 => ?_) (fun h66 => ?_)
            · refine G_inc3 (pc := 72) (v := 1) dX10_markFamily_72 rfl (by decide) rfl ?_
              refine G_goto (pc := 75) (tgt := 4) dX10_markFamily_75 (by decide) ?_
              refine G_drop4 ?_
              rw [nI_1]
              have ec : cFam (fun q => i (w q) 8) k (j + 1) = cFam (fun q => i (w q) 8) k j := by rw [cFam, if_neg (by rw [hv]; decide)]; rfl
              rw [← ec]
              exact ih (j + 1) _ (by omega) (hi.step (by rw [hv]; rfl))
            · exact absurd rfl h66
          · obtain ⟨q, hq, hpq⟩ := fam_lt (j := j) (by omega) ⟨h35, Int32.not_le.mp h41⟩
            refine G_aload_n (pc := 44) 0 dX10_markFamily_44 rfl ?_
            refine G_getR (pc := 45) dX10_markFamily_45 fX10_17 (by assumption) (by assumption) ?_
            refine G_iload (pc := 48) 4 dX10_markFamily_48 rfl ?_
            refine G_zaldJ (pc := 50) (j := q) dX10_markFamily_50 (by assumption) hpq (by omega) (by decide) ?_
            rw [hi.2 q hq]
            refine G_if_eq (pc := 51) (tgt := 58) dX10_markFamily_51 (by decide) (fun h51 => ?_) (fun h51 => ?_)
            · have hv : fam (fun q => i (w q) 8) k j = false := by
                rw [fam_up njk hq (by omega) hpq]
                exact Bool.eq_false_iff.mpr (gB_eq.mp h51)
              refine G_iconst (pc := 58) (v := 0) dX10_markFamily_58 rfl ?_
              refine G_zastJ (pc := 59) dX10_markFamily_59 (by assumption) rfl (by first | assumption | omega) (by decide) rfl (by first | assumption | omega) ?_
              refine G_aload_n (pc := 60) 0 dX10_markFamily_60 rfl ?_
              refine G_getR (pc := 61) dX10_markFamily_61 fX10_17 (by assumption) (by assumption) ?_
              refine G_iload_n (pc := 64) 3 dX10_markFamily_64 rfl ?_
              refine G_zaldJ (pc := 65) dX10_markFamily_65 (by assumption) rfl (by first | assumption | omega) (by decide) ?_
              rw [up2_self]
              refine G_if_eq (pc := 66) (tgt := 72) dX10_markFamily_66 (by decide) (fun h66 => ?_) (fun h66 => ?_)
              · refine G_inc3 (pc := 72) (v := 1) dX10_markFamily_72 rfl (by decide) rfl ?_
                refine G_goto (pc := 75) (tgt := 4) dX10_markFamily_75 (by decide) ?_
                refine G_drop4 ?_
                rw [nI_1]
                have ec : cFam (fun q => i (w q) 8) k (j + 1) = cFam (fun q => i (w q) 8) k j := by rw [cFam, if_neg (by rw [hv]; decide)]; rfl
                rw [← ec]
                exact ih (j + 1) _ (by omega) (hi.step (by rw [hv]; rfl))
              · exact absurd rfl h66
            · have hv : fam (fun q => i (w q) 8) k j = true := by
                rw [fam_up njk hq (by omega) hpq]
                exact gB_ne.mp h51
              refine G_iconst (pc := 54) (v := 1) dX10_markFamily_54 rfl ?_
              refine G_goto (pc := 55) (tgt := 59) dX10_markFamily_55 (by decide) ?_
              refine G_zastJ (pc := 59) dX10_markFamily_59 (by assumption) rfl (by first | assumption | omega) (by decide) rfl (by first | assumption | omega) ?_
              refine G_aload_n (pc := 60) 0 dX10_markFamily_60 rfl ?_
              refine G_getR (pc := 61) dX10_markFamily_61 fX10_17 (by assumption) (by assumption) ?_
              refine G_iload_n (pc := 64) 3 dX10_markFamily_64 rfl ?_
              refine G_zaldJ (pc := 65) dX10_markFamily_65 (by assumption) rfl (by first | assumption | omega) (by decide) ?_
              rw [up2_self]
              refine G_if_eq (pc := 66) (tgt := 72) dX10_markFamily_66 (by decide) (fun h66 => ?_) (fun h66 => ?_)
              · exact absurd h66 (by decide)
              · refine G_inc2 (pc := 69) (v := 1) dX10_markFamily_69 rfl (by decide) rfl ?_
                refine G_inc3 (pc := 72) (v := 1) dX10_markFamily_72 rfl (by decide) rfl ?_
                refine G_goto (pc := 75) (tgt := 4) dX10_markFamily_75 (by decide) ?_
                refine G_drop4 ?_
                rw [nI_1, nI_1]
                have ec : cFam (fun q => i (w q) 8) k (j + 1) = cFam (fun q => i (w q) 8) k j + 1 := by rw [cFam, if_pos hv]
                rw [← ec]
                exact ih (j + 1) _ (by omega) (hi.step (by rw [hv]; rfl))
set_option maxRecDepth 100000 in
set_option maxHeartbeats 4000000 in
theorem c_X10_markFamily {Γ : gG} {T : gTy} {r : gR} {l : gLg} {i : gI} {Q : gQ} {a m k : Nat} {w : Nat → Nat} (hL : lyWs T r a w) (hA : gN Γ ≤ a) (h3 : i a 3 = nI m) (hm : m ≤ 5) (hk : k < m) (hQ : ∀ i', mkd (fun q => i (w q) 8) k a m i i' → Q (some (.int (nI (cFam (fun q => i (w q) 8) k m)))) T r l i') : gC Γ MX10_markFamily [.ref a, .int (nI k)] T r l i Q := by
  refine gC_of rfl (Nat.le_of_ble_eq_true rfl) (L := [(0, .ref a), (1, .int (nI k))]) rfl ?_
  refine G_iconst (pc := 0) (v := 0) dX10_markFamily_0 rfl ?_
  refine G_sn2 (pc := 1) (gSt_in dX10_markFamily_1 rfl (by decide)) rfl ?_
  refine G_iconst (pc := 2) (v := 0) dX10_markFamily_2 rfl ?_
  refine G_sn3 (pc := 3) (gSt_in dX10_markFamily_3 rfl (by decide)) rfl ?_
  exact lp_X10_markFamily hL hA h3 hm hk hQ m 0 i (Nat.zero_add m) ⟨fun _ _ => rfl, fun q hq => absurd hq (by omega)⟩
