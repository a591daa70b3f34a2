/-! the reference's steps -/
/-- it stands: it may not step -/
abbrev gStop (s : Nat → Int32) (w : Nat) : Prop := s (w + 3) = 1 ∨ s w = 40
/-- at most d steps of the walk at w: the flat state, the places that came -/
def wkR (w : Nat) : Nat → (Nat → Int32) → (Nat → Int32) × Nat
  | 0, s => (s, 0)
  | d + 1, s => if gStop s w then (s, 0) else if (stR s w).2 = true then ((wkR w d (stR s w).1).1, (wkR w d (stR s w).1).2 + 1) else ((stR s w).1, 0)
theorem gStop_z {s : Nat → Int32} {w z : Nat} (hv : vW s w z) (h : ¬ gStop s w) : z + 1 < 40 := by
  obtain ⟨v1, v2, _⟩ := hv
  rcases Nat.lt_or_ge (z + 1) 40 with h1 | h1
  · exact h1
  · exact absurd (Or.inr (by rw [v1, show z + 1 = 40 by omega]; rfl)) h
theorem gStop_0 {s : Nat → Int32} {w : Nat} (h : ¬ gStop s w) : (if s (w + 3) = 1 then (1 : Int32) else if s w = 40 then 2 else 0) = 0 := by
  rw [if_neg (fun z => h (Or.inl z)), if_neg (fun z => h (Or.inr z))]
theorem gStop_1 {s : Nat → Int32} {w : Nat} (h : gStop s w) : ¬ (if s (w + 3) = 1 then (1 : Int32) else if s w = 40 then 2 else 0) = 0 := by
  rcases h with h | h
  · rw [if_pos h]; decide
  · rw [if_pos h]; split <;> decide
theorem stR_h {s : Nat → Int32} {w z j : Nat} (hv : vW s w z) (hz : z + 1 < 40) (hw : 23 ≤ w) (hj : j < 23) : (stR s w).1 j = s j := stR_o hv hz (by omega)
theorem stR_T {s : Nat → Int32} {w z : Nat} (hv : vW s w z) (hz : z + 1 < 40) (hw : 23 ≤ w) (hT : vT s) (hE : vSe s) : vT (stR s w).1 ∧ vSe (stR s w).1 :=
  ⟨hT.eq (fun j h _ => stR_h hv hz hw h), hE.eq (stR_h hv hz hw (by decide)) (stR_h hv hz hw (by decide)) (stR_h hv hz hw (by decide))⟩
set_option maxHeartbeats 4000000 in
theorem c_goR {Γ : gG} {T : gTy} {r : gR} {l : gLg} {i : gI} {Q : gQ} {m k z : Nat} {S : Nat → Int32}
  (hM : lyM T r m) (hA : gN Γ ≤ m) (hk : k < 5) (he : i (m + 1) = S) (hT : vT S) (hE : vSe S) (hv : vW S (23 + 166 * k) z) (hz : z + 1 < 40)
  (hQ : ∀ i', frN m i i' (stR S (23 + 166 * k)).1 → Q (some (.int (gB ((stR S (23 + 166 * k)).2 = true)))) T r l i') : gC Γ MX12_goes [.ref m, .int (nI k)] T r l i Q := by
  subst he
  obtain ⟨v1, v2, v3, ⟨k0, k1, k2⟩, v5, v6⟩ := id hv
  obtain ⟨_, _, m1, m2, m3⟩ := id hE
  have hn : (i (m + 1) (23 + 166 * k)).toNatClampNeg = z + 1 := by rw [v1, nI_clamp (by omega)]
  have hp : (i (m + 1) (23 + 166 * k + 2)).toNatClampNeg = k0 := by rw [k2, nI_clamp (by omega)]
  refine c_X12_goes (n1 := tN (i (m + 1))) (f := tF (i (m + 1))) (p := tP (i (m + 1))) (q := tQ (i (m + 1))) (mm := tM (i (m + 1))) (z := z) (k0 := k0) hM hA hT.1 m3 (by omega) hk (gRk_of hT.1.1 hT.2) v1 hz (v6 z (Nat.le_refl _)).1 (v6 z (Nat.le_refl _)).2.1 k2 (by omega) ?_ ?_
  · intro hN i' hi
    have hst : stR (i (m + 1)) (23 + 166 * k) = (upd (upd (i (m + 1)) (23 + 166 * k + 2) 0) (23 + 166 * k + 3) 1, false) := by unfold stR; rw [hn, hp, Nat.add_sub_cancel, hN]
    rw [hst] at hQ
    exact hQ i' hi
  · intro kk c hS i' hi
    have hst : stR (i (m + 1)) (23 + 166 * k) = (goF (tF (i (m + 1))) (tP (i (m + 1))) (tQ (i (m + 1))) (tN (i (m + 1))) (i (m + 1)) (23 + 166 * k) (z + 1) (i (m + 1) (23 + 166 * k + 6 + 4 * z + 0)) (i (m + 1) (23 + 166 * k + 6 + 4 * z + 1)) kk c, true) := by unfold stR; rw [hn, hp, Nat.add_sub_cancel, hS]
    rw [hst] at hQ
    exact hQ i' hi
set_option maxRecDepth 100000 in
set_option maxHeartbeats 4000000 in
theorem ex_X12_walks {Γ : gG} {T : gTy} {r : gR} {l : gLg} {i : gI} {Q : gQ} {m k M c : Nat} (hM : lyM T r m) (hk : k < 5) (hs : M = c ∨ gStop (i (m + 1)) (23 + 166 * k)) (hQ : Q (some (.int (nI c))) T r l i) : G Γ MX12_walks 0 0 13 [(0, .ref m), (1, .int (nI k)), (2, .int (nI M)), (3, .int (nI c))] [] T r l i Q := by
  have hM2 := hM
  obtain ⟨m0, m1, m2, m3, m4, m5, m6, m7, m8, m9, m10⟩ := hM
  refine G_iload_n (pc := 13) 3 dX12_walks_13 rfl ?_
  refine G_iload_n (pc := 14) 2 dX12_walks_14 rfl ?_
  refine G_icmp_ge (pc := 15) (tgt := 45) dX12_walks_15 (by decide) (fun h15 => ?_) (fun h15 => ?_)
  · refine G_iload_n (pc := 45) 3 dX12_walks_45 rfl ?_
    refine G_iret (pc := 46) dX12_walks_46 ⟨_, rfl, rfl⟩ ⟨by decide, by decide⟩ ?_
    exact hQ
  · refine G_aload_n (pc := 18) 0 dX12_walks_18 rfl ?_
    refine G_iload_n (pc := 19) 1 dX12_walks_19 rfl ?_
    refine gV1 (pc := 20) (k' := 0) (n' := 0) dX12_walks_20 lkX12_113 ⟨by decide, by decide⟩ (Nat.le_of_ble_eq_true rfl) rfl rfl ⟨by decide, by decide⟩ (by assumption) (c_X12_stateOf hM2 hk ?_)
    dsimp only [gRt]
    refine G_if_ne (pc := 23) (tgt := 45) dX12_walks_23 (by decide) (fun h23 => ?_) (fun h23 => ?_)
    · refine G_iload_n (pc := 45) 3 dX12_walks_45 rfl ?_
      refine G_iret (pc := 46) dX12_walks_46 ⟨_, rfl, rfl⟩ ⟨by decide, by decide⟩ ?_
      exact hQ
    · exact absurd h23 (by rcases hs with z | z
                           · exact absurd h15 (by rw [z]; exact fun w => w (Int32.le_refl _))
                           · exact gStop_1 z)

set_option maxRecDepth 100000 in
set_option maxHeartbeats 4000000 in
theorem lp_X12_walks {Γ : gG} {T : gTy} {r : gR} {l : gLg} {i : gI} {Q : gQ} {m k M : Nat} {S : Nat → Int32} (hM : lyM T r m) (hA : gN Γ ≤ m) (hk : k < 5) (hm40 : M ≤ 40) (hQ : ∀ i', frN m i i' (wkR (23 + 166 * k) M S).1 → Q (some (.int (nI (wkR (23 + 166 * k) M S).2))) T r l i') : ∀ d c F i1, c + d = M → frN m i i1 F → vT F → vSe F → ∀ z, vW F (23 + 166 * k) z → (wkR (23 + 166 * k) d F).1 = (wkR (23 + 166 * k) M S).1 → c + (wkR (23 + 166 * k) d F).2 = (wkR (23 + 166 * k) M S).2 → G Γ MX12_walks 0 0 13 [(0, .ref m), (1, .int (nI k)), (2, .int (nI M)), (3, .int (nI c))] [] T r l i1 Q := by
  have hM2 := hM
  obtain ⟨m0, m1, m2, m3, m4, m5, m6, m7, m8, m9, m10⟩ := hM
  intro d
  induction d with
  | zero =>
    intro c F i1 hk1 hi hT hE z hv e1 e2
    refine ex_X12_walks hM2 hk (Or.inl (by omega)) ?_
    rw [show c = (wkR (23 + 166 * k) M S).2 by rw [← e2]; rfl]
    exact hQ _ (by rw [← e1]; exact hi)
  | succ d ih =>
    intro c F i1 hk1 hi hT hE z hv e1 e2
    have ef : i1 (m + 1) = F := hi.2.2
    by_cases hs : gStop F (23 + 166 * k)
    · refine ex_X12_walks hM2 hk (Or.inr (by rw [ef]; exact hs)) ?_
      rw [wkR, if_pos hs] at e1 e2
      rw [show c = (wkR (23 + 166 * k) M S).2 by rw [← e2]; rfl]
      exact hQ _ (by rw [← e1]; exact hi)
    · have hz := gStop_z hv hs
      have hst := gStop_0 hs
      have hT2 := stR_T hv hz (by omega) hT hE
      have hv2 := stR_v hE (by omega) hv hz
      rw [wkR, if_neg hs] at e1 e2
      refine G_iload_n (pc := 13) 3 dX12_walks_13 rfl ?_
      refine G_iload_n (pc := 14) 2 dX12_walks_14 rfl ?_
      refine G_icmp_ge (pc := 15) (tgt := 45) dX12_walks_15 (by decide) (fun h15 => ?_) (fun h15 => ?_)
      · exact absurd h15 (nI_ge (by omega) (by omega))
      · refine G_aload_n (pc := 18) 0 dX12_walks_18 rfl ?_
        refine G_iload_n (pc := 19) 1 dX12_walks_19 rfl ?_
        refine gV1 (pc := 20) (k' := 0) (n' := 0) dX12_walks_20 lkX12_113 ⟨by decide, by decide⟩ (Nat.le_of_ble_eq_true rfl) rfl rfl ⟨by decide, by decide⟩ (by assumption) (c_X12_stateOf hM2 hk ?_)
        dsimp only [gRt]
        rw [ef, hst]
        refine G_if_ne (pc := 23) (tgt := 45) dX12_walks_23 (by decide) (fun h23 => ?_) (fun h23 => ?_)
        · exact absurd rfl h23
        · refine G_iload_n (pc := 26) 3 dX12_walks_26 rfl ?_
          refine G_aload_n (pc := 27) 0 dX12_walks_27 rfl ?_
          refine G_iload_n (pc := 28) 1 dX12_walks_28 rfl ?_
          refine gV1 (pc := 29) (k' := 0) (n' := 0) dX12_walks_29 lkX12_117 ⟨by decide, by decide⟩ (Nat.le_of_ble_eq_true rfl) rfl rfl ⟨by decide, by decide⟩ (by assumption) (c_goR hM2 hA hk ef hT hE hv hz ?_)
          intro i2 hi2
          dsimp only [gRt]
          have hi3 : frN m i i2 (stR F (23 + 166 * k)).1 := hi.tr hi2
          refine G_if_eq (pc := 32) (tgt := 39) dX12_walks_32 (by decide) (fun h32 => ?_) (fun h32 => ?_)
          · have hb := gB_eq.mp h32
            refine G_iconst (pc := 39) (v := 0) dX12_walks_39 rfl ?_
            refine G_iadd (pc := 40) dX12_walks_40 ?_
            refine G_st3 (pc := 41) (gSt_in dX12_walks_41 rfl (by decide)) rfl ?_
            refine G_goto (pc := 42) (tgt := 13) dX12_walks_42 (by decide) ?_
            rw [if_neg hb] at e1 e2
            rw [show nI c + 0 = nI c from Int32.add_zero _]
            refine ex_X12_walks hM2 hk (Or.inr ?_) ?_
            · rw [hi3.2.2]; refine Or.inl ?_; rw [stR_3 hv hz, if_neg hb]
            · rw [show c = (wkR (23 + 166 * k) M S).2 by rw [← e2]; rfl]
              exact hQ _ (by rw [← e1]; exact hi3)
          · have hb := gB_ne.mp h32
            refine G_iconst (pc := 35) (v := 1) dX12_walks_35 rfl ?_
            refine G_goto (pc := 36) (tgt := 40) dX12_walks_36 (by decide) ?_
            refine G_iadd (pc := 40) dX12_walks_40 ?_
            refine G_st3 (pc := 41) (gSt_in dX12_walks_41 rfl (by decide)) rfl ?_
            refine G_goto (pc := 42) (tgt := 13) dX12_walks_42 (by decide) ?_
            rw [if_pos hb] at e1 e2
            rw [if_pos hb] at hv2
            rw [nI_1]
            exact ih (c + 1) _ i2 (by omega) hi3 hT2.1 hT2.2 (z + 1) hv2 e1 (by rw [← e2]; show c + 1 + _ = c + (_ + 1); omega)

set_option maxRecDepth 100000 in
set_option maxHeartbeats 4000000 in
theorem c_X12_walks {Γ : gG} {T : gTy} {r : gR} {l : gLg} {i : gI} {Q : gQ} {m k M : Nat} {S : Nat → Int32} {z : Nat} (hM : lyM T r m) (hA : gN Γ ≤ m) (hk : k < 5) (hm40 : M ≤ 40) (he : i (m + 1) = S) (hT : vT S) (hE : vSe S) (hv : vW S (23 + 166 * k) z) (h0 : gStop S (23 + 166 * k) → Q (some (.int (-1000002))) T r l i) (h1 : ¬ gStop S (23 + 166 * k) → ∀ i', frN m i i' (wkR (23 + 166 * k) M S).1 → Q (some (.int (nI (wkR (23 + 166 * k) M S).2))) T r l i') : gC Γ MX12_walks [.ref m, .int (nI k), .int (nI M)] T r l i Q := by
  have hM2 := hM
  obtain ⟨m0, m1, m2, m3, m4, m5, m6, m7, m8, m9, m10⟩ := hM
  refine gC_of rfl (Nat.le_of_ble_eq_true rfl) (L := [(0, .ref m), (1, .int (nI k)), (2, .int (nI M))]) rfl ?_
  refine G_aload_n (pc := 0) 0 dX12_walks_0 rfl ?_
  refine G_iload_n (pc := 1) 1 dX12_walks_1 rfl ?_
  refine gV1 (pc := 2) (k' := 0) (n' := 0) dX12_walks_2 lkX12_113 ⟨by decide, by decide⟩ (Nat.le_of_ble_eq_true rfl) rfl rfl ⟨by decide, by decide⟩ (by assumption) (c_X12_stateOf hM2 hk ?_)
  dsimp only [gRt]
  rw [he]
  refine G_if_eq (pc := 5) (tgt := 11) dX12_walks_5 (by decide) (fun h5 => ?_) (fun h5 => ?_)
  · have hs : ¬ gStop S (23 + 166 * k) := fun z => gStop_1 z h5
    refine G_iconst (pc := 11) (v := 0) dX12_walks_11 rfl ?_
    refine G_sn3 (pc := 12) (gSt_in dX12_walks_12 rfl (by decide)) rfl ?_
    exact lp_X12_walks hM2 hA hk hm40 (h1 hs) M 0 S i (Nat.zero_add M) (he ▸ frN.rf) hT hE z hv rfl (Nat.zero_add _)
  · have hs : gStop S (23 + 166 * k) := Classical.byContradiction (fun z => h5 (gStop_0 z))
    refine G_ldc (pc := 8) dX12_walks_8 kcX12_116 ?_
    refine G_iret (pc := 10) dX12_walks_10 ⟨_, rfl, rfl⟩ ⟨by decide, by decide⟩ ?_
    exact h0 hs

