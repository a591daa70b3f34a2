set_option maxRecDepth 100000 in
set_option maxHeartbeats 4000000 in
theorem c_X10_at {Γ : gG} {T : gTy} {r : gR} {l : gLg} {i : gI} {Q : gQ} {a m : Nat} {x : Int32} {w : Nat → Nat} (hL : lyWs T r a w) (h3 : i a 3 = nI m) (hm : m ≤ 5) (h1 : ∀ k, k < m → x = nI k → Q (some (.ref (w k))) T r l i) (h0 : (∀ k, k < m → ¬ x = nI k) → Q (some .null) T r l i) : gC Γ MX10_at [.ref a, .int x] T r l i Q := by
  obtain ⟨s0, s1, s2, s3, s4, s5, s6, s7, s8⟩ := hL
  refine gC_of rfl (Nat.le_of_ble_eq_true rfl) (L := [(0, .ref a), (1, .int x)]) rfl ?_
  refine G_iload_n (pc := 0) 1 dX10_at_0 rfl ?_
  refine G_if_lt (pc := 1) (tgt := 21) dX10_at_1 (by decide) (fun hh1 => ?_) (fun hh1 => ?_)
  · refine G_null (pc := 21) dX10_at_21 ?_
    refine G_aretN (pc := 22) dX10_at_22 ⟨_, rfl, Or.inl ⟨_, rfl⟩⟩ ⟨by decide, by decide⟩ ?_
    exact h0 (fun k hk e => by rw [e] at hh1; exact nI_pos (by omega) hh1)
  · refine G_iload_n (pc := 4) 1 dX10_at_4 rfl ?_
    refine G_aload_n (pc := 5) 0 dX10_at_5 rfl ?_
    refine G_getI (pc := 6) dX10_at_6 fX10_26 (by assumption) ?_
    refine G_icmp_ge (pc := 9) (tgt := 21) dX10_at_9 (by decide) (fun hh9 => ?_) (fun hh9 => ?_)
    · refine G_null (pc := 21) dX10_at_21 ?_
      refine G_aretN (pc := 22) dX10_at_22 ⟨_, rfl, Or.inl ⟨_, rfl⟩⟩ ⟨by decide, by decide⟩ ?_
      exact h0 (fun k hk e => by rw [e, h3] at hh9; exact nI_ge hk (by omega) hh9)
    · obtain ⟨k, hk, hx⟩ : ∃ k, k < m ∧ x = nI k := by
        rcases pk_ix x (n := m) (by omega) with q | q | ⟨k, hk, e⟩
        · exact absurd q hh1
        · exact absurd (by rw [h3]; exact q) hh9
        · exact ⟨k, hk, e⟩
      refine G_aload_n (pc := 12) 0 dX10_at_12 rfl ?_
      refine G_getR (pc := 13) dX10_at_13 fX10_11 (by assumption) (by assumption) ?_
      refine G_iload_n (pc := 16) 1 dX10_at_16 rfl ?_
      refine G_aaldWJ (pc := 17) (j := k) dX10_at_17 (by assumption) hx (by first | assumption | omega) (by decide) (s7 k (by omega)).1 ?_
      refine G_goto (pc := 18) (tgt := 22) dX10_at_18 (by decide) ?_
      refine G_aret (pc := 22) dX10_at_22 ⟨_, rfl, Or.inl ⟨_, rfl⟩⟩ ⟨by decide, by decide⟩ ?_
      exact h1 k hk hx
set_option maxRecDepth 100000 in
set_option maxHeartbeats 4000000 in
theorem c_X10_addOne {Γ : gG} {T : gTy} {r : gR} {l : gLg} {i : gI} {Q : gQ} {a m : Nat} {w : Nat → Nat} (hL : lyWs T r a w) (hA : gN Γ ≤ a) (h3 : i a 3 = nI m) (hm : m < 5) (hQ : Q (some (.ref (w m))) T r l (up2 i a 3 (nI (m + 1)))) : gC Γ MX10_addOne [.ref a] T r l i Q := by
  obtain ⟨s0, s1, s2, s3, s4, s5, s6, s7, s8⟩ := hL
  refine gC_of rfl (Nat.le_of_ble_eq_true rfl) (L := [(0, .ref a)]) rfl ?_
  refine G_aload_n (pc := 0) 0 dX10_addOne_0 rfl ?_
  refine gV0 (pc := 1) (k' := 0) (n' := 0) dX10_addOne_1 lkX10_30 ⟨by decide, by decide⟩ (Nat.le_of_ble_eq_true rfl) rfl rfl ⟨by decide, by decide⟩ (by assumption) (c_X10_isFull s0 ?_)
  dsimp only [gRt]
  refine G_if_eq (pc := 4) (tgt := 9) dX10_addOne_4 (by decide) (fun h4 => ?_) (fun h4 => ?_)
  · refine G_aload_n (pc := 9) 0 dX10_addOne_9 rfl ?_
    refine G_dup (pc := 10) dX10_addOne_10 rfl ?_
    refine G_getI (pc := 11) dX10_addOne_11 fX10_26 (by assumption) ?_
    refine G_iconst (pc := 14) (v := 1) dX10_addOne_14 rfl ?_
    rw [h3]
    refine G_iadd (pc := 15) dX10_addOne_15 ?_
    rw [nI_1]
    refine G_putI (pc := 16) dX10_addOne_16 fX10_26 (by assumption) rfl rfl (by first | assumption | omega) ?_
    refine G_aload_n (pc := 19) 0 dX10_addOne_19 rfl ?_
    refine G_getR (pc := 20) dX10_addOne_20 fX10_11 (by assumption) (by assumption) ?_
    refine G_aload_n (pc := 23) 0 dX10_addOne_23 rfl ?_
    refine G_getI (pc := 24) dX10_addOne_24 fX10_26 (by assumption) ?_
    refine G_iconst (pc := 27) (v := 1) dX10_addOne_27 rfl ?_
    rw [up2_self]
    refine G_isub (pc := 28) dX10_addOne_28 ?_
    rw [nI_pred]
    refine G_aaldWJ (pc := 29) (j := m) dX10_addOne_29 (by assumption) rfl (by first | assumption | omega) (by decide) (s7 m (by omega)).1 ?_
    refine G_aret (pc := 30) dX10_addOne_30 ⟨_, rfl, Or.inl ⟨_, rfl⟩⟩ ⟨by decide, by decide⟩ ?_
    exact hQ
  · exact absurd (show i a 3 < 5 by rw [h3]; exact nI_lt hm (by decide)) (gB_ne.mp h4)
set_option maxRecDepth 100000 in
set_option maxHeartbeats 4000000 in
theorem lp_X10_places {Γ : gG} {T : gTy} {r : gR} {l : gLg} {i : gI} {Q : gQ} {a m : Nat} {w : Nat → Nat} (hL : lyWs T r a w) (h3 : i a 3 = nI m) (hm : m ≤ 5) (hQ : Q (some (.int (gSumI (fun k => i (w k) 4) m))) T r l i) : ∀ d k, k + d = m → G Γ MX10_places 0 0 4 [(0, .ref a), (1, .int (gSumI (fun k => i (w k) 4) k)), (2, .int (nI k))] [] T r l i Q := by
  obtain ⟨s0, s1, s2, s3, s4, s5, s6, s7, s8⟩ := hL
  intro d
  induction d with
  | zero =>
    intro k hk
    have hkm : k = m := by omega
    rw [hkm]
    refine G_iload_n (pc := 4) 2 dX10_places_4 rfl ?_
    refine G_aload_n (pc := 5) 0 dX10_places_5 rfl ?_
    refine G_getI (pc := 6) dX10_places_6 fX10_26 (by assumption) ?_
    refine G_icmp_ge (pc := 9) (tgt := 30) dX10_places_9 (by decide) (fun h9 => ?_) (fun h9 => ?_)
    · refine G_iload_n (pc := 30) 1 dX10_places_30 rfl ?_
      refine G_iret (pc := 31) dX10_places_31 ⟨_, rfl, rfl⟩ ⟨by decide, by decide⟩ ?_
      exact hQ
    · exact absurd (by rw [h3]; exact Int32.le_refl _) h9
  | succ d ih =>
    intro k hk
    have hw := s7 k (by omega)
    refine G_iload_n (pc := 4) 2 dX10_places_4 rfl ?_
    refine G_aload_n (pc := 5) 0 dX10_places_5 rfl ?_
    refine G_getI (pc := 6) dX10_places_6 fX10_26 (by assumption) ?_
    refine G_icmp_ge (pc := 9) (tgt := 30) dX10_places_9 (by decide) (fun h9 => ?_) (fun h9 => ?_)
    · exact absurd h9 (by rw [h3]; exact nI_ge (by omega) (by omega))
    · refine G_iload_n (pc := 12) 1 dX10_places_12 rfl ?_
      refine G_aload_n (pc := 13) 0 dX10_places_13 rfl ?_
      refine G_getR (pc := 14) dX10_places_14 fX10_11 (by assumption) (by assumption) ?_
      refine G_iload_n (pc := 17) 2 dX10_places_17 rfl ?_
      refine G_aaldWJ (pc := 18) dX10_places_18 (by assumption) rfl (by first | assumption | omega) (by decide) hw.1 ?_
      refine G_getI (pc := 19) dX10_places_19 fX10_41 hw.2.1.1 ?_
      refine G_iadd (pc := 22) dX10_places_22 ?_
      refine G_st1 (pc := 23) (gSt_in dX10_places_23 rfl (by decide)) rfl ?_
      refine G_inc2 (pc := 24) (v := 1) dX10_places_24 rfl (by decide) rfl ?_
      refine G_goto (pc := 27) (tgt := 4) dX10_places_27 (by decide) ?_
      rw [nI_1]
      exact ih (k + 1) (by omega)
set_option maxRecDepth 100000 in
set_option maxHeartbeats 4000000 in
theorem c_X10_places {Γ : gG} {T : gTy} {r : gR} {l : gLg} {i : gI} {Q : gQ} {a m : Nat} {w : Nat → Nat} (hL : lyWs T r a w) (h3 : i a 3 = nI m) (hm : m ≤ 5) (hQ : Q (some (.int (gSumI (fun k => i (w k) 4) m))) T r l i) : gC Γ MX10_places [.ref a] T r l i Q := by
  refine gC_of rfl (Nat.le_of_ble_eq_true rfl) (L := [(0, .ref a)]) rfl ?_
  refine G_iconst (pc := 0) (v := 0) dX10_places_0 rfl ?_
  refine G_sn1 (pc := 1) (gSt_in dX10_places_1 rfl (by decide)) rfl ?_
  refine G_iconst (pc := 2) (v := 0) dX10_places_2 rfl ?_
  refine G_sn2 (pc := 3) (gSt_in dX10_places_3 rfl (by decide)) rfl ?_
  exact lp_X10_places hL h3 hm hQ m 0 (Nat.zero_add m)
set_option maxRecDepth 100000 in
set_option maxHeartbeats 4000000 in
theorem lp_X10_placesOfKind {Γ : gG} {T : gTy} {r : gR} {l : gLg} {i : gI} {Q : gQ} {a m : Nat} {w z : Nat → Nat} {v : Int32} (hL : lyWs T r a w) (h3 : i a 3 = nI m) (hm : m ≤ 5) (hz : ∀ k, k < m → i (w k) 4 = nI (z k) ∧ z k ≤ 40) (hQ : Q (some (.int (gSumI (fun k => nI (cntK (i (w k + 4)) v (z k))) m))) T r l i) : ∀ d k, k + d = m → G Γ MX10_placesOfKind 0 0 4 [(0, .ref a), (1, .int v), (2, .int (gSumI (fun k => nI (cntK (i (w k + 4)) v (z k))) k)), (3, .int (nI k))] [] T r l i Q := by
  obtain ⟨s0, s1, s2, s3, s4, s5, s6, s7, s8⟩ := hL
  intro d
  induction d with
  | zero =>
    intro k hk
    have hkm : k = m := by omega
    rw [hkm]
    refine G_iload_n (pc := 4) 3 dX10_placesOfKind_4 rfl ?_
    refine G_aload_n (pc := 5) 0 dX10_placesOfKind_5 rfl ?_
    refine G_getI (pc := 6) dX10_placesOfKind_6 fX10_26 (by assumption) ?_
    refine G_icmp_ge (pc := 9) (tgt := 31) dX10_placesOfKind_9 (by decide) (fun h9 => ?_) (fun h9 => ?_)
    · refine G_iload_n (pc := 31) 2 dX10_placesOfKind_31 rfl ?_
      refine G_iret (pc := 32) dX10_placesOfKind_32 ⟨_, rfl, rfl⟩ ⟨by decide, by decide⟩ ?_
      exact hQ
    · exact absurd (by rw [h3]; exact Int32.le_refl _) h9
  | succ d ih =>
    intro k hk
    have hw := s7 k (by omega)
    have hzk := hz k (by omega)
    refine G_iload_n (pc := 4) 3 dX10_placesOfKind_4 rfl ?_
    refine G_aload_n (pc := 5) 0 dX10_placesOfKind_5 rfl ?_
    refine G_getI (pc := 6) dX10_placesOfKind_6 fX10_26 (by assumption) ?_
    refine G_icmp_ge (pc := 9) (tgt := 31) dX10_placesOfKind_9 (by decide) (fun h9 => ?_) (fun h9 => ?_)
    · exact absurd h9 (by rw [h3]; exact nI_ge (by omega) (by omega))
    · refine G_iload_n (pc := 12) 2 dX10_placesOfKind_12 rfl ?_
      refine G_aload_n (pc := 13) 0 dX10_placesOfKind_13 rfl ?_
      refine G_getR (pc := 14) dX10_placesOfKind_14 fX10_11 (by assumption) (by assumption) ?_
      refine G_iload_n (pc := 17) 3 dX10_placesOfKind_17 rfl ?_
      refine G_aaldWJ (pc := 18) dX10_placesOfKind_18 (by assumption) rfl (by first | assumption | omega) (by decide) hw.1 ?_
      refine G_iload_n (pc := 19) 1 dX10_placesOfKind_19 rfl ?_
      refine gV1 (pc := 20) (k' := 0) (n' := 0) dX10_placesOfKind_20 lkX10_42 ⟨by decide, by decide⟩ (Nat.le_of_ble_eq_true rfl) rfl rfl ⟨by decide, by decide⟩ hw.2.1.1 (c_X9_placesOfKind hw.2.1 hzk.1 hzk.2 ?_)
      dsimp only [gRt]
      refine G_iadd (pc := 23) dX10_placesOfKind_23 ?_
      refine G_st2 (pc := 24) (gSt_in dX10_placesOfKind_24 rfl (by decide)) rfl ?_
      refine G_inc3 (pc := 25) (v := 1) dX10_placesOfKind_25 rfl (by decide) rfl ?_
      refine G_goto (pc := 28) (tgt := 4) dX10_placesOfKind_28 (by decide) ?_
      rw [nI_1]
      exact ih (k + 1) (by omega)
set_option maxRecDepth 100000 in
set_option maxHeartbeats 4000000 in
theorem c_X10_placesOfKind {Γ : gG} {T : gTy} {r : gR} {l : gLg} {i : gI} {Q : gQ} {a m : Nat} {w z : Nat → Nat} {v : Int32} (hL : lyWs T r a w) (h3 : i a 3 = nI m) (hm : m ≤ 5) (hz : ∀ k, k < m → i (w k) 4 = nI (z k) ∧ z k ≤ 40) (hQ : Q (some (.int (gSumI (fun k => nI (cntK (i (w k + 4)) v (z k))) m))) T r l i) : gC Γ MX10_placesOfKind [.ref a, .int v] T r l i Q := by
  refine gC_of rfl (Nat.le_of_ble_eq_true rfl) (L := [(0, .ref a), (1, .int v)]) rfl ?_
  refine G_iconst (pc := 0) (v := 0) dX10_placesOfKind_0 rfl ?_
  refine G_sn2 (pc := 1) (gSt_in dX10_placesOfKind_1 rfl (by decide)) rfl ?_
  refine G_iconst (pc := 2) (v := 0) dX10_placesOfKind_2 rfl ?_
  refine G_sn3 (pc := 3) (gSt_in dX10_placesOfKind_3 rfl (by decide)) rfl ?_
  exact lp_X10_placesOfKind hL h3 hm hz hQ m 0 (Nat.zero_add m)
def cpWs (i i' : gI) (wa : Nat → Nat) (s : Nat → Int32) (a m k : Nat) : Prop := frR a (a + 29) i i' ∧ i' a 3 = nI m ∧ ∀ j, j < k → ∃ n, rpW i' (wa j) s (23 + 166 * j) n
theorem cpWs.step {T : gTy} {r : gR} {i i1 i2 : gI} {wa : Nat → Nat} {s : Nat → Int32} {a m k : Nat} (h : cpWs i i1 wa s a m k) (hL : lyWs T r a wa) (hk : k < 5) (hf : frR (wa k) (wa k + 5) i1 i2) (hn : ∃ n, rpW i2 (wa k) s (23 + 166 * k) n) : cpWs i i2 wa s a m (k + 1) := by
  obtain ⟨h1, h2, h3⟩ := h
  obtain ⟨-, -, -, -, -, -, -, s7, s8⟩ := hL
  obtain ⟨-, -, g1, g2⟩ := s7 k hk
  refine ⟨h1.tr (hf.mono (by omega) g2), by rw [hf a (by omega)]; exact h2, fun j hj => ?_⟩
  by_cases hjk : j = k
  · subst hjk; exact hn
  · obtain ⟨n, hn⟩ := h3 j (by omega)
    refine ⟨n, hn.kept (fun b b1 b2 => hf b ?_)⟩
    have := s8 j k (by omega) hk hjk
    omega
set_option maxRecDepth 100000 in
set_option maxHeartbeats 4000000 in
theorem lp_X10_copyFrom {Γ : gG} {T : gTy} {r : gR} {l : gLg} {i : gI} {Q : gQ} {a b m : Nat} {wa wb : Nat → Nat} {s : Nat → Int32} (hL : lyWs T r a wa) (hB : lyWs T r b wb) (hA : gN Γ ≤ a) (hab : a + 29 ≤ b ∨ b + 29 ≤ a) (hR : rpWs i wb s b m) (hQ : ∀ i', frR a (a + 29) i i' → rpWs i' wa s a m → Q none T r l i') : ∀ d k i1, k + d = m → cpWs i i1 wa s a m k → G Γ MX10_copyFrom 0 0 10 [(0, .ref a), (1, .ref b), (2, .int (nI k))] [] T r l i1 Q := by
  have hL2 := hL
  obtain ⟨s0, s1, s2, s3, s4, s5, s6, s7, s8⟩ := hL
  obtain ⟨b0, b1, b2, b3, b4, b5, b6, b7, b8⟩ := hB
  obtain ⟨m5, m3, ms, mw⟩ := hR
  intro d
  induction d with
  | zero =>
    intro k i1 hk hi
    have hkn : k = m := by omega
    rw [hkn] at hi ⊢
    have e3 := hi.2.1
    refine G_iload_n (pc := 10) 2 dX10_copyFrom_10 rfl ?_
    refine G_aload_n (pc := 11) 0 dX10_copyFrom_11 rfl ?_
    refine G_getI (pc := 12) dX10_copyFrom_12 fX10_26 (by assumption) ?_
    refine G_icmp_ge (pc := 15) (tgt := 39) dX10_copyFrom_15 (by decide) (fun h15 => ?_) (fun h15 => ?_)
    · refine G_vret (pc := 39) dX10_copyFrom_39 rfl ⟨by decide, by decide⟩ ?_
      exact hQ _ hi.1 ⟨m5, e3, ms, hi.2.2⟩
    · exact absurd (by rw [e3]; exact Int32.le_refl _) h15
  | succ d ih =>
    intro k i1 hk hi
    have e3 := hi.2.1
    have hwa := s7 k (by omega)
    have hwb := b7 k (by omega)
    obtain ⟨n, hn⟩ := mw k (by omega)
    have hn1 : rpW i1 (wb k) s (23 + 166 * k) n := hn.kept (fun c c1 c2 => hi.1 c (by omega))
    have h7 : i1 (wb k) 7 = 0 ∨ i1 (wb k) 7 = 1 := by
      have e7 : i1 (wb k) 7 = s (23 + 166 * k + 3) := hn1.2.2.1 3 (by omega)
      rw [e7]
      exact hn1.2.2.2.2
    refine G_iload_n (pc := 10) 2 dX10_copyFrom_10 rfl ?_
    refine G_aload_n (pc := 11) 0 dX10_copyFrom_11 rfl ?_
    refine G_getI (pc := 12) dX10_copyFrom_12 fX10_26 (by assumption) ?_
    refine G_icmp_ge (pc := 15) (tgt := 39) dX10_copyFrom_15 (by decide) (fun h15 => ?_) (fun h15 => ?_)
    · exact absurd h15 (by rw [e3]; exact nI_ge (by omega) (by omega))
    · refine G_aload_n (pc := 18) 0 dX10_copyFrom_18 rfl ?_
      refine G_getR (pc := 19) dX10_copyFrom_19 fX10_11 (by assumption) (by assumption) ?_
      refine G_iload_n (pc := 22) 2 dX10_copyFrom_22 rfl ?_
      refine G_aaldWJ (pc := 23) dX10_copyFrom_23 (by assumption) rfl (by first | assumption | omega) (by decide) hwa.1 ?_
      refine G_aload_n (pc := 24) 1 dX10_copyFrom_24 rfl ?_
      refine G_getR (pc := 25) dX10_copyFrom_25 fX10_11 (by assumption) (by assumption) ?_
      refine G_iload_n (pc := 28) 2 dX10_copyFrom_28 rfl ?_
      refine G_aaldWJ (pc := 29) dX10_copyFrom_29 (by assumption) rfl (by first | assumption | omega) (by decide) hwb.1 ?_
      refine gV1 (pc := 30) (k' := 0) (n' := 0) dX10_copyFrom_30 lkX10_45 ⟨by decide, by decide⟩ (Nat.le_of_ble_eq_true rfl) rfl rfl ⟨by decide, by decide⟩ hwa.2.1.1 (c_X9_copyFrom hwa.2.1 hwb.2.1 (by omega) (by omega) hn1.2.1 hn1.1 h7 ?_)
      intro i2 hc
      dsimp only [gRt]
      refine G_inc2 (pc := 33) (v := 1) dX10_copyFrom_33 rfl (by decide) rfl ?_
      refine G_goto (pc := 36) (tgt := 10) dX10_copyFrom_36 (by decide) ?_
      rw [nI_1]
      exact ih (k + 1) _ (by omega) (hi.step hL2 (by omega) hc.1 ⟨n, hc.rp hn1⟩)
set_option maxRecDepth 100000 in
set_option maxHeartbeats 4000000 in
theorem c_X10_copyFrom {Γ : gG} {T : gTy} {r : gR} {l : gLg} {i : gI} {Q : gQ} {a b m : Nat} {wa wb : Nat → Nat} {s : Nat → Int32} (hL : lyWs T r a wa) (hB : lyWs T r b wb) (hA : gN Γ ≤ a) (hab : a + 29 ≤ b ∨ b + 29 ≤ a) (hR : rpWs i wb s b m) (hQ : ∀ i', frR a (a + 29) i i' → rpWs i' wa s a m → Q none T r l i') : gC Γ MX10_copyFrom [.ref a, .ref b] T r l i Q := by
  have hL2 := hL
  have hB2 := hB
  have hR2 := hR
  obtain ⟨s0, s1, s2, s3, s4, s5, s6, s7, s8⟩ := hL
  obtain ⟨b0, b1, b2, b3, b4, b5, b6, b7, b8⟩ := hB
  obtain ⟨m5, m3, ms, mw⟩ := hR
  refine gC_of rfl (Nat.le_of_ble_eq_true rfl) (L := [(0, .ref a), (1, .ref b)]) rfl ?_
  refine G_aload_n (pc := 0) 0 dX10_copyFrom_0 rfl ?_
  refine G_aload_n (pc := 1) 1 dX10_copyFrom_1 rfl ?_
  refine G_getI (pc := 2) dX10_copyFrom_2 fX10_26 (by assumption) ?_
  rw [m3]
  refine G_putI (pc := 5) dX10_copyFrom_5 fX10_26 (by assumption) rfl rfl (by first | assumption | omega) ?_
  refine G_iconst (pc := 8) (v := 0) dX10_copyFrom_8 rfl ?_
  refine G_sn2 (pc := 9) (gSt_in dX10_copyFrom_9 rfl (by decide)) rfl ?_
  exact lp_X10_copyFrom hL2 hB2 hA hab hR2 hQ m 0 _ (Nat.zero_add m) ⟨frR.rf.put (by omega) (by omega), up2_self _ _ _ _, fun j hj => absurd hj (by omega)⟩
def lySt (T : gTy) (r : gR) (b : Nat) (w : Nat → Nat) : Prop := (T.2 b).1 = 6 ∧ r b 0 = some (b + 1) ∧ r b 1 = some (b + 5) ∧ r b 2 = some (b + 34) ∧ lyT T r (b + 1) ∧ lyWs T r (b + 5) w ∧ lySe T r (b + 34)
def rpSt (i : gI) (b : Nat) (w : Nat → Nat) (s : Nat → Int32) : Prop := ∃ n m, rpT i (b + 1) s n ∧ rpWs i w s (b + 5) m ∧ rpS i (b + 34) s
theorem rpSt.kept {T : gTy} {r : gR} {i i' : gI} {b : Nat} {w : Nat → Nat} {s : Nat → Int32} (h : rpSt i b w s) (hl : lySt T r b w) (hf : ∀ c, b ≤ c → c < b + 36 → i' c = i c) : rpSt i' b w s := by
  obtain ⟨n, m, h1, h2, h3⟩ := h
  exact ⟨n, m, h1.kept (fun c c1 c2 => hf c (by omega) (by omega)), h2.kept hl.2.2.2.2.2.1 (fun c c1 c2 => hf c (by omega) (by omega)), h3.kept (hf _ (by omega) (by omega))⟩
set_option maxRecDepth 100000 in
set_option maxHeartbeats 4000000 in
theorem c_X6_copyFrom {Γ : gG} {T : gTy} {r : gR} {l : gLg} {i : gI} {Q : gQ} {a b : Nat} {wa wb : Nat → Nat} {s : Nat → Int32} (hL : lySt T r a wa) (hB : lySt T r b wb) (hA : gN Γ ≤ a) (hab : a + 36 ≤ b ∨ b + 36 ≤ a) (hR : rpSt i b wb s) (hQ : ∀ i', frR a (a + 36) i i' → rpSt i' a wa s → Q none T r l i') : gC Γ MX6_copyFrom [.ref a, .ref b] T r l i Q := by
  obtain ⟨a0, a1, a2, a3, a4, a5, a6⟩ := hL
  obtain ⟨b0, b1, b2, b3, b4, b5, b6⟩ := hB
  obtain ⟨n, m, r1, r2, r3⟩ := hR
  refine gC_of rfl (Nat.le_of_ble_eq_true rfl) (L := [(0, .ref a), (1, .ref b)]) rfl ?_
  refine G_aload_n (pc := 0) 0 dX6_copyFrom_0 rfl ?_
  refine G_getR (pc := 1) dX6_copyFrom_1 fX6_10 (by assumption) (by assumption) ?_
  refine G_aload_n (pc := 4) 1 dX6_copyFrom_4 rfl ?_
  refine G_getR (pc := 5) dX6_copyFrom_5 fX6_10 (by assumption) (by assumption) ?_
  refine gV1 (pc := 8) (k' := 0) (n' := 0) dX6_copyFrom_8 lkX6_30 ⟨by decide, by decide⟩ (Nat.le_of_ble_eq_true rfl) rfl rfl ⟨by decide, by decide⟩ a4.1 (c_X7_copyFrom a4 b4 (by omega) (by omega) r1.2.1 r1.1 ?_)
  intro i1 hc1
  dsimp only [gRt]
  have r2b := r2.kept (i' := i1) b5 (fun c c1 c2 => hc1.1 c (by omega))
  have t1 := hc1.rp r1
  refine G_aload_n (pc := 11) 0 dX6_copyFrom_11 rfl ?_
  refine G_getR (pc := 12) dX6_copyFrom_12 fX6_19 (by assumption) (by assumption) ?_
  refine G_aload_n (pc := 15) 1 dX6_copyFrom_15 rfl ?_
  refine G_getR (pc := 16) dX6_copyFrom_16 fX6_19 (by assumption) (by assumption) ?_
  refine gV1 (pc := 19) (k' := 0) (n' := 0) dX6_copyFrom_19 lkX6_34 ⟨by decide, by decide⟩ (Nat.le_of_ble_eq_true rfl) rfl rfl ⟨by decide, by decide⟩ a5.1 (c_X10_copyFrom a5 b5 (by omega) (by omega) r2b ?_)
  intro i2 hf2 t2
  dsimp only [gRt]
  have t1b := t1.kept (i' := i2) (fun c c1 c2 => hf2 c (by omega))
  have r3b := r3.kept (i' := i2) ((hf2 _ (by omega)).trans (hc1.1 _ (by omega)))
  refine G_aload_n (pc := 22) 0 dX6_copyFrom_22 rfl ?_
  refine G_getR (pc := 23) dX6_copyFrom_23 fX6_26 (by assumption) (by assumption) ?_
  refine G_aload_n (pc := 26) 1 dX6_copyFrom_26 rfl ?_
  refine G_getR (pc := 27) dX6_copyFrom_27 fX6_26 (by assumption) (by assumption) ?_
  refine gV1 (pc := 30) (k' := 0) (n' := 0) dX6_copyFrom_30 lkX6_37 ⟨by decide, by decide⟩ (Nat.le_of_ble_eq_true rfl) rfl rfl ⟨by decide, by decide⟩ a6.1 (c_X4_copyFrom a6 b6 (by omega) (by omega) ?_)
  intro i3 hc3
  dsimp only [gRt]
  refine G_vret (pc := 33) dX6_copyFrom_33 rfl ⟨by decide, by decide⟩ ?_
  exact hQ i3 (((hc1.1.mono (by omega) (by omega)).tr (hf2.mono (by omega) (by omega))).tr (hc3.1.mono (by omega) (by omega))) ⟨n, m, t1b.kept (fun c c1 c2 => hc3.1 c (by omega)), t2.kept a5 (fun c c1 c2 => hc3.1 c (by omega)), hc3.rp r3b⟩
/-! History -/
def lyH (T : gTy) (r : gR) (h : Nat) (ws : Nat → Nat → Nat) : Prop := (T.2 h).1 = 1 ∧ r h 0 = some (h + 1) ∧ T.2 (h + 1) = (15, 4) ∧ ∀ j, j < 4 → r (h + 1) j = some (h + 2 + 36 * j) ∧ lySt T r (h + 2 + 36 * j) (ws j)
def rpH (i : gI) (h : Nat) (ws : Nat → Nat → Nat) (hs : Nat → Nat → Int32) (o n : Nat) : Prop := o < 4 ∧ n ≤ 4 ∧ i h 1 = nI o ∧ i h 2 = nI n ∧ ∀ j, j < n → rpSt i (h + 2 + 36 * ((o + j) % 4)) (ws ((o + j) % 4)) (hs j)
theorem rpH.kept {T : gTy} {r : gR} {i i' : gI} {h o n : Nat} {ws : Nat → Nat → Nat} {hs : Nat → Nat → Int32} (H : rpH i h ws hs o n) (hl : lyH T r h ws) (hf : ∀ c, h ≤ c → c < h + 146 → i' c = i c) : rpH i' h ws hs o n := by
  obtain ⟨h1, h2, h3, h4, h5⟩ := H
  exact ⟨h1, h2, by rw [hf h (by omega) (by omega)]; exact h3, by rw [hf h (by omega) (by omega)]; exact h4, fun j hj => (h5 j hj).kept (hl.2.2.2 _ (Nat.mod_lt _ (by decide))).2 (fun c c1 c2 => hf c (by omega) (by omega))⟩
set_option maxRecDepth 100000 in
set_option maxHeartbeats 4000000 in
theorem c_X1_latest {Γ : gG} {T : gTy} {r : gR} {l : gLg} {i : gI} {Q : gQ} {h a n : Nat} (hk : (T.2 h).1 = 1) (h1 : i h 1 = nI a) (h2 : i h 2 = nI (n + 1)) (ha : a < 4) (hn : n < 4) (hQ : Q (some (.int (nI ((a + n) % 4)))) T r l i) : gC Γ MX1_latest [.ref h] T r l i Q := by
  refine gC_of rfl (Nat.le_of_ble_eq_true rfl) (L := [(0, .ref h)]) rfl ?_
  refine G_aload_n (pc := 0) 0 dX1_latest_0 rfl ?_
  refine G_getI (pc := 1) dX1_latest_1 fX1_18 (by assumption) ?_
  refine G_if_gt (pc := 4) (tgt := 14) dX1_latest_4 (by decide) (fun h4_ => ?_) (fun h4_ => ?_)
  · refine G_aload_n (pc := 14) 0 dX1_latest_14 rfl ?_
    refine G_getI (pc := 15) dX1_latest_15 fX1_22 (by assumption) ?_
    refine G_aload_n (pc := 18) 0 dX1_latest_18 rfl ?_
    refine G_getI (pc := 19) dX1_latest_19 fX1_18 (by assumption) ?_
    rw [h1, h2]
    refine G_iadd (pc := 22) dX1_latest_22 ?_
    refine G_iconst (pc := 23) (v := 1) dX1_latest_23 rfl ?_
    refine G_isub (pc := 24) dX1_latest_24 ?_
    rw [nI_add, show a + (n + 1) = a + n + 1 from rfl, nI_pred]
    refine G_iconst (pc := 25) (v := 4) dX1_latest_25 rfl ?_
    refine G_irem (pc := 26) dX1_latest_26 (by decide) ?_
    rw [gl4, pk_rem (by omega) (by decide) (by decide)]
    refine G_iret (pc := 27) dX1_latest_27 ⟨_, rfl, rfl⟩ ⟨by decide, by decide⟩ ?_
    exact hQ
  · exact absurd (by rw [h2]; exact nI_lt (a := 0) (by omega) (by omega)) h4_
set_option maxRecDepth 100000 in
set_option maxHeartbeats 4000000 in
theorem c_X1_keep {Γ : gG} {T : gTy} {r : gR} {l : gLg} {i : gI} {Q : gQ} {h b a n : Nat} {ws : Nat → Nat → Nat} {wb : Nat → Nat} {hs : Nat → Nat → Int32} {s : Nat → Int32} (hL : lyH T r h ws) (hB : lySt T r b wb) (hA : gN Γ ≤ h) (hab : b + 36 ≤ h ∨ h + 146 ≤ b) (hH : rpH i h ws hs a n) (hR : rpSt i b wb s) (hQ : ∀ i' a' n' hs', frR h (h + 146) i i' → rpH i' h ws hs' a' n' → (n < 4 → n' = n + 1 ∧ hs' = fun j => if j = n then s else hs j) → (n = 4 → n' = 4 ∧ hs' = fun j => if j = 3 then s else hs (j + 1)) → Q none T r l i') : gC Γ MX1_keep [.ref h, .ref b] T r l i Q := by
  have hL2 := hL
  obtain ⟨l1, l2, l3, hl4⟩ := hL
  obtain ⟨z1, z2, z3, z4, z5⟩ := hH
  refine gC_of rfl (Nat.le_of_ble_eq_true rfl) (L := [(0, .ref h), (1, .ref b)]) rfl ?_
  refine G_aload_n (pc := 0) 0 dX1_keep_0 rfl ?_
  refine G_getI (pc := 1) dX1_keep_1 fX1_18 (by assumption) ?_
  refine G_iconst (pc := 4) (v := 4) dX1_keep_4 rfl ?_
  refine G_icmp_lt (pc := 5) (tgt := 30) dX1_keep_5 (by decide) (fun h5 => ?_) (fun h5 => ?_)
  · have hn4 : n < 4 := (nI_ltI (by omega) (by decide)).mp (by rw [← z4]; exact h5)
    refine G_aload_n (pc := 30) 0 dX1_keep_30 rfl ?_
    refine G_dup (pc := 31) dX1_keep_31 rfl ?_
    refine G_getI (pc := 32) dX1_keep_32 fX1_18 (by assumption) ?_
    first | rw [up2_self] | rw [z4]
    refine G_iconst (pc := 35) (v := 1) dX1_keep_35 rfl ?_
    refine G_iadd (pc := 36) dX1_keep_36 ?_
    rw [nI_1]
    refine G_putI (pc := 37) dX1_keep_37 fX1_18 (by assumption) rfl rfl (by first | assumption | omega) ?_
    refine G_aload_n (pc := 40) 0 dX1_keep_40 rfl ?_
    refine G_getR (pc := 41) dX1_keep_41 fX1_11 (by assumption) (by assumption) ?_
    refine G_aload_n (pc := 44) 0 dX1_keep_44 rfl ?_
    refine gV0 (pc := 45) (k' := 0) (n' := 0) dX1_keep_45 lkX1_25 ⟨by decide, by decide⟩ (Nat.le_of_ble_eq_true rfl) rfl rfl ⟨by decide, by decide⟩ l1 (c_X1_latest (a := a) (n := n) l1 (by rw [up2_row (by decide)]; exact z3) (by rw [up2_self]) z1 hn4 ?_)
    dsimp only [gRt]
    refine G_aaldSJ (pc := 48) (j := ((a + n) % 4)) dX1_keep_48 (by assumption) rfl (Nat.mod_lt _ (by decide)) (by decide) (hl4 ((a + n) % 4) (Nat.mod_lt _ (by decide))).1 ?_
    refine G_aload_n (pc := 49) 1 dX1_keep_49 rfl ?_
    refine gV1 (pc := 50) (k' := 0) (n' := 0) dX1_keep_50 lkX1_29 ⟨by decide, by decide⟩ (Nat.le_of_ble_eq_true rfl) rfl rfl ⟨by decide, by decide⟩ (hl4 ((a + n) % 4) (Nat.mod_lt _ (by decide))).2.1 (c_X6_copyFrom (hl4 ((a + n) % 4) (Nat.mod_lt _ (by decide))).2 hB (by omega) (by omega) (hR.kept hB (fun c c1 c2 => by rw [up2_ne (by omega)])) ?_)
    intro i2 hf hs2
    dsimp only [gRt]
    refine G_vret (pc := 53) dX1_keep_53 rfl ⟨by decide, by decide⟩ ?_
    refine hQ i2 _ (n + 1) (fun j => if j = n then s else hs j) ((frR.rf.put (by omega) (by omega)).tr (hf.mono (by omega) (by omega))) ⟨z1, by omega, ?_, ?_, fun j hj => ?_⟩ (fun _ => ⟨rfl, rfl⟩) (fun e => absurd hn4 (by omega))
    · rw [hf h (by omega), up2_row (by decide)]; exact z3
    · rw [hf h (by omega), up2_self]
    · by_cases hjn : j = n
      · subst hjn; simp only [if_true]; exact hs2
      · simp only [if_neg hjn]
        exact (z5 j (by omega)).kept (hl4 _ (Nat.mod_lt _ (by decide))).2 (fun c c1 c2 => by rw [hf c (by omega), up2_ne (by omega)])
  · have hn4 : n = 4 := by
      have q : ¬ n < 4 := fun q => h5 (by rw [z4]; exact nI_lt q (by decide))
      omega
    subst hn4
    refine G_aload_n (pc := 8) 0 dX1_keep_8 rfl ?_
    refine G_aload_n (pc := 9) 0 dX1_keep_9 rfl ?_
    refine G_getI (pc := 10) dX1_keep_10 fX1_22 (by assumption) ?_
    refine G_iconst (pc := 13) (v := 1) dX1_keep_13 rfl ?_
    rw [z3]
    refine G_iadd (pc := 14) dX1_keep_14 ?_
    rw [nI_1]
    refine G_iconst (pc := 15) (v := 4) dX1_keep_15 rfl ?_
    refine G_irem (pc := 16) dX1_keep_16 (by decide) ?_
    rw [gl4, pk_rem (by omega) (by decide) (by decide)]
    refine G_putI (pc := 17) dX1_keep_17 fX1_22 (by assumption) rfl rfl (by first | assumption | omega) ?_
    refine G_aload_n (pc := 20) 0 dX1_keep_20 rfl ?_
    refine G_dup (pc := 21) dX1_keep_21 rfl ?_
    refine G_getI (pc := 22) dX1_keep_22 fX1_18 (by assumption) ?_
    refine G_iconst (pc := 25) (v := 1) dX1_keep_25 rfl ?_
    rw [up2_row (by decide), z4]
    refine G_isub (pc := 26) dX1_keep_26 ?_
    rw [show nI 4 - 1 = nI 3 from rfl]
    refine G_putI (pc := 27) dX1_keep_27 fX1_18 (by assumption) rfl rfl (by first | assumption | omega) ?_
    refine G_aload_n (pc := 30) 0 dX1_keep_30 rfl ?_
    refine G_dup (pc := 31) dX1_keep_31 rfl ?_
    refine G_getI (pc := 32) dX1_keep_32 fX1_18 (by assumption) ?_
    first | rw [up2_self] | rw [z4]
    refine G_iconst (pc := 35) (v := 1) dX1_keep_35 rfl ?_
    refine G_iadd (pc := 36) dX1_keep_36 ?_
    rw [nI_1]
    refine G_putI (pc := 37) dX1_keep_37 fX1_18 (by assumption) rfl rfl (by first | assumption | omega) ?_
    refine G_aload_n (pc := 40) 0 dX1_keep_40 rfl ?_
    refine G_getR (pc := 41) dX1_keep_41 fX1_11 (by assumption) (by assumption) ?_
    refine G_aload_n (pc := 44) 0 dX1_keep_44 rfl ?_
    refine gV0 (pc := 45) (k' := 0) (n' := 0) dX1_keep_45 lkX1_25 ⟨by decide, by decide⟩ (Nat.le_of_ble_eq_true rfl) rfl rfl ⟨by decide, by decide⟩ l1 (c_X1_latest (a := (a + 1) % 4) (n := 3) l1 (by rw [up2_row (by decide), up2_row (by decide), up2_self]) (by rw [up2_self]) (Nat.mod_lt _ (by decide)) (by decide) ?_)
    dsimp only [gRt]
    refine G_aaldSJ (pc := 48) (j := (((a + 1) % 4 + 3) % 4)) dX1_keep_48 (by assumption) rfl (Nat.mod_lt _ (by decide)) (by decide) (hl4 (((a + 1) % 4 + 3) % 4) (Nat.mod_lt _ (by decide))).1 ?_
    refine G_aload_n (pc := 49) 1 dX1_keep_49 rfl ?_
    refine gV1 (pc := 50) (k' := 0) (n' := 0) dX1_keep_50 lkX1_29 ⟨by decide, by decide⟩ (Nat.le_of_ble_eq_true rfl) rfl rfl ⟨by decide, by decide⟩ (hl4 (((a + 1) % 4 + 3) % 4) (Nat.mod_lt _ (by decide))).2.1 (c_X6_copyFrom (hl4 (((a + 1) % 4 + 3) % 4) (Nat.mod_lt _ (by decide))).2 hB (by omega) (by omega) (hR.kept hB (fun c c1 c2 => by rw [up2_ne (by omega), up2_ne (by omega), up2_ne (by omega)])) ?_)
    intro i2 hf hs2
    dsimp only [gRt]
    refine G_vret (pc := 53) dX1_keep_53 rfl ⟨by decide, by decide⟩ ?_
    have e4 : ((a + 1) % 4 + 3) % 4 = a := by omega
    refine hQ i2 ((a + 1) % 4) 4 (fun j => if j = 3 then s else hs (j + 1)) (((((frR.rf (lo := h) (hi := h + 146) (i := i)).put (j := 1) (x := nI ((a + 1) % 4)) (by omega) (by omega)).put (j := 2) (x := nI 3) (by omega) (by omega)).put (j := 2) (x := nI 4) (by omega) (by omega)).tr (hf.mono (by omega) (by omega))) ⟨Nat.mod_lt _ (by decide), by omega, ?_, ?_, fun j hj => ?_⟩ (fun e => absurd e (by omega)) (fun _ => ⟨rfl, rfl⟩)
    · rw [hf h (by omega), up2_row (by decide), up2_row (by decide), up2_self]
    · rw [hf h (by omega), up2_self]
    · by_cases hjn : j = 3
      · subst hjn; simp only [if_true]; exact hs2
      · simp only [if_neg hjn]
        have e5 : ((a + 1) % 4 + j) % 4 = (a + (j + 1)) % 4 := by omega
        rw [e5]
        exact (z5 (j + 1) (by omega)).kept (hl4 _ (Nat.mod_lt _ (by decide))).2 (fun c c1 c2 => by rw [hf c (by omega), up2_ne (by omega), up2_ne (by omega), up2_ne (by omega)])
set_option maxRecDepth 100000 in
set_option maxHeartbeats 4000000 in
theorem c_X1_restore {Γ : gG} {T : gTy} {r : gR} {l : gLg} {i : gI} {Q : gQ} {h b a n : Nat} {ws : Nat → Nat → Nat} {wb : Nat → Nat} {hs : Nat → Nat → Int32} (hL : lyH T r h ws) (hB : lySt T r b wb) (hA : gN Γ ≤ h) (hA2 : gN Γ ≤ b) (hab : b + 36 ≤ h ∨ h + 146 ≤ b) (hH : rpH i h ws hs a (n + 1)) (hQ : ∀ i', (∀ c, c ≠ h → (c < b ∨ b + 36 ≤ c) → i' c = i c) → rpH i' h ws hs a n → rpSt i' b wb (hs n) → Q none T r l i') : gC Γ MX1_restore [.ref h, .ref b] T r l i Q := by
  have hL2 := hL
  obtain ⟨l1, l2, l3, hl4⟩ := hL
  obtain ⟨z1, z2, z3, z4, z5⟩ := hH
  refine gC_of rfl (Nat.le_of_ble_eq_true rfl) (L := [(0, .ref h), (1, .ref b)]) rfl ?_
  refine G_aload_n (pc := 0) 0 dX1_restore_0 rfl ?_
  refine G_getI (pc := 1) dX1_restore_1 fX1_18 (by assumption) ?_
  refine G_if_gt (pc := 4) (tgt := 8) dX1_restore_4 (by decide) (fun h4 => ?_) (fun h4 => ?_)
  · refine G_aload_n (pc := 8) 1 dX1_restore_8 rfl ?_
    refine G_aload_n (pc := 9) 0 dX1_restore_9 rfl ?_
    refine G_getR (pc := 10) dX1_restore_10 fX1_11 (by assumption) (by assumption) ?_
    refine G_aload_n (pc := 13) 0 dX1_restore_13 rfl ?_
    refine gV0 (pc := 14) (k' := 0) (n' := 0) dX1_restore_14 lkX1_25 ⟨by decide, by decide⟩ (Nat.le_of_ble_eq_true rfl) rfl rfl ⟨by decide, by decide⟩ (by assumption) (c_X1_latest (a := a) (n := n) l1 z3 z4 z1 (by omega) ?_)
    dsimp only [gRt]
    refine G_aaldSJ (pc := 17) (j := ((a + n) % 4)) dX1_restore_17 (by assumption) rfl (Nat.mod_lt _ (by decide)) (by decide) (hl4 _ (Nat.mod_lt _ (by decide))).1 ?_
    refine gV1 (pc := 18) (k' := 0) (n' := 0) dX1_restore_18 lkX1_29 ⟨by decide, by decide⟩ (Nat.le_of_ble_eq_true rfl) rfl rfl ⟨by decide, by decide⟩ hB.1 (c_X6_copyFrom hB (hl4 _ (Nat.mod_lt _ (by decide))).2 hA2 (by omega) (z5 n (by omega)) ?_)
    intro i2 hf hs2
    dsimp only [gRt]
    refine G_aload_n (pc := 21) 0 dX1_restore_21 rfl ?_
    refine G_dup (pc := 22) dX1_restore_22 rfl ?_
    refine G_getI (pc := 23) dX1_restore_23 fX1_18 (by assumption) ?_
    rw [hf h (by omega), z4]
    refine G_iconst (pc := 26) (v := 1) dX1_restore_26 rfl ?_
    refine G_isub (pc := 27) dX1_restore_27 ?_
    rw [nI_pred]
    refine G_putI (pc := 28) dX1_restore_28 fX1_18 (by assumption) rfl rfl (by first | assumption | omega) ?_
    refine G_vret (pc := 31) dX1_restore_31 rfl ⟨by decide, by decide⟩ ?_
    refine hQ _ (fun c c1 c2 => by rw [up2_ne c1]; exact hf c c2) ⟨z1, by omega, ?_, up2_self _ _ _ _, fun j hj => ?_⟩ ?_
    · rw [up2_row (by decide), hf h (by omega)]; exact z3
    · exact (z5 j (by omega)).kept (hl4 _ (Nat.mod_lt _ (by decide))).2 (fun c c1 c2 => by rw [up2_ne (by omega)]; exact hf c (by omega))
    · exact hs2.kept hB (fun c c1 c2 => by rw [up2_ne (by omega)])
  · exact absurd (by rw [z4]; exact nI_lt (a := 0) (by omega) (by omega)) h4
