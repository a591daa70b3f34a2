/-! the reference answers -/
def aTermOf (S : Nat → Int32) (k w : Int32) : Int32 := if ¬ k < 0 ∧ inI w 0 2 then (if k < nI (tN S) then S (5 + 3 * k.toNatClampNeg + w.toNatClampNeg) else -1000004) else -1000001
abbrev okC (x y w : Int32) : Prop := inI x (-1024) 1024 ∧ inI y (-1024) 1024 ∧ inI w 0 2
def aValue (S : Nat → Int32) (x y w : Int32) : Int64 := if okC x y w then gSum (tF S) (tP S) (tQ S) x.toInt64 y.toInt64 w.toNatClampNeg (tN S) + 1000000000000 else -1000001
def aCor (w : Int32) : Option (Int64 × Int64 × Nat) → Int32
  | none => -1000004
  | some c => if w = 0 then c.1.toInt32 else if w = 1 then c.2.1.toInt32 else nI c.2.2
def aCorr (S : Nat → Int32) (x y w : Int32) : Int32 := if okC x y w then aCor w (gCor (tF S) (tP S) (tQ S) (tN S) (tM S) 0 x.toInt64 y.toInt64) else -1000001
def aPlaceOf (S : Nat → Int32) (w p c : Int32) : Int32 := if inI w 0 (S 1 - 1) ∧ ¬ p < 0 ∧ inI c 0 3 then (if p < S (23 + 166 * w.toNatClampNeg) then S (23 + 166 * w.toNatClampNeg + 6 + 4 * p.toNatClampNeg + c.toNatClampNeg) else -1000004) else -1000001
/-- the kinds of a walk's places -/
def kdS (s : Nat → Int32) (w p : Nat) : Int32 := s (w + 6 + 4 * p + 3)
def cBg (pr : Nat → Int32) (w : Nat) : Nat → Nat
  | 0 => 0
  | j + 1 => cBg pr w j + (if j ≠ w ∧ fam pr w j = true then 1 else 0)
set_option maxRecDepth 100000 in
set_option maxHeartbeats 4000000 in
theorem c_X12_termOf {Γ : gG} {T : gTy} {r : gR} {l : gLg} {i : gI} {Q : gQ} {m : Nat} {S : Nat → Int32} {k w : Int32} (hM : lyM T r m) (he : i (m + 1) = S) (hS : vS S) (hQ : Q (some (.int (aTermOf S k w))) T r l i) : gC Γ MX12_termOf [.ref m, .int k, .int w] T r l i Q := by
  have hM2 := hM
  obtain ⟨m0, m1, m2, m3, m4, m5, m6, m7, m8, m9, m10⟩ := hM
  subst he
  have hT := hS.1
  have hE := hS.2.1
  have hn6 := hT.1.1
  have hn0 := hT.1.2.1
  obtain ⟨w5, w1, wk⟩ := nW_of hS
  refine gC_of rfl (Nat.le_of_ble_eq_true rfl) (L := [(0, .ref m), (1, .int k), (2, .int w)]) rfl ?_
  refine G_iload_n (pc := 0) 1 dX12_termOf_0 rfl ?_
  refine G_if_lt (pc := 1) (tgt := 13) dX12_termOf_1 (by decide) (fun h1 => ?_) (fun h1 => ?_)
  · refine G_ldc (pc := 13) dX12_termOf_13 kcX12_29 ?_
    refine G_iret (pc := 15) dX12_termOf_15 ⟨_, rfl, rfl⟩ ⟨by decide, by decide⟩ ?_
    rw [show aTermOf (i (m + 1)) k w = -1000001 from if_neg (fun z => z.1 h1)] at hQ
    exact hQ
  · refine G_iload_n (pc := 4) 2 dX12_termOf_4 rfl ?_
    refine G_iconst (pc := 5) (v := 0) dX12_termOf_5 rfl ?_
    refine G_iconst (pc := 6) (v := 2) dX12_termOf_6 rfl ?_
    refine gS3 (pc := 7) (k' := 0) (n' := 0) dX12_termOf_7 lkX12_25 ⟨by decide, by decide⟩ (Nat.le_of_ble_eq_true rfl) rfl rfl ⟨by decide, by decide⟩ (c_X12_in ?_)
    dsimp only [gRt]
    refine G_if_ne (pc := 10) (tgt := 16) dX12_termOf_10 (by decide) (fun h10 => ?_) (fun h10 => ?_)
    · refine G_iload_n (pc := 16) 1 dX12_termOf_16 rfl ?_
      refine G_aload_n (pc := 17) 0 dX12_termOf_17 rfl ?_
      refine G_getR (pc := 18) dX12_termOf_18 fX12_7 (by assumption) (by assumption) ?_
      refine G_iconst (pc := 21) (v := 0) dX12_termOf_21 rfl ?_
      refine G_ialdJ (pc := 22) (j := 0) dX12_termOf_22 (by assumption) gl0 (by first | assumption | omega) (by decide) ?_
      rw [hn0]
      refine G_icmp_ge (pc := 23) (tgt := 35) dX12_termOf_23 (by decide) (fun h23 => ?_) (fun h23 => ?_)
      · have h23 := h23
        refine G_ldc (pc := 35) dX12_termOf_35 kcX12_161 ?_
        refine G_iret (pc := 37) dX12_termOf_37 ⟨_, rfl, rfl⟩ ⟨by decide, by decide⟩ ?_
        rw [show aTermOf (i (m + 1)) k w = -1000004 by unfold aTermOf; rw [if_pos ⟨h1, gB_ne.mp h10⟩, if_neg (Int32.not_lt.mpr h23)]] at hQ
        exact hQ
      · have h23 := Int32.not_le.mp h23
        refine G_aload_n (pc := 26) 0 dX12_termOf_26 rfl ?_
        refine G_iload_n (pc := 27) 1 dX12_termOf_27 rfl ?_
        refine G_iload_n (pc := 28) 2 dX12_termOf_28 rfl ?_
        obtain ⟨j, hj, rfl⟩ : ∃ j, j < tN (i (m + 1)) ∧ k = nI j := by
          rcases pk_ix k (n := tN (i (m + 1))) (by omega) with z | z | z
          · exact absurd z h1
          · exact absurd h23 (Int32.not_lt.mpr z)
          · exact z
        obtain ⟨c, _, c2, rfl⟩ := inI_nat (a := 0) (b := 2) (by decide) (by decide) (gB_ne.mp h10)
        rw [show aTermOf (i (m + 1)) (nI j) (nI c) = i (m + 1) (5 + 3 * j + c) by unfold aTermOf; rw [if_pos ⟨h1, gB_ne.mp h10⟩, if_pos (nI_lt hj (by omega)), nI_clamp (by omega), nI_clamp (by omega)]] at hQ
        refine gV2 (pc := 29) (k' := 0) (n' := 0) dX12_termOf_29 lkX12_37 ⟨by decide, by decide⟩ (Nat.le_of_ble_eq_true rfl) rfl rfl ⟨by decide, by decide⟩ (by assumption) (c_X12_termPart (w := c) hM2 (by omega) ?_)
        dsimp only [gRt]
        refine G_goto (pc := 32) (tgt := 37) dX12_termOf_32 (by decide) ?_
        refine G_iret (pc := 37) dX12_termOf_37 ⟨_, rfl, rfl⟩ ⟨by decide, by decide⟩ ?_
        exact hQ
    · refine G_ldc (pc := 13) dX12_termOf_13 kcX12_29 ?_
      refine G_iret (pc := 15) dX12_termOf_15 ⟨_, rfl, rfl⟩ ⟨by decide, by decide⟩ ?_
      rw [show aTermOf (i (m + 1)) k w = -1000001 from if_neg (fun z => gB_eq.mp h10 z.2)] at hQ
      exact hQ

set_option maxRecDepth 100000 in
set_option maxHeartbeats 4000000 in
theorem c_X12_value {Γ : gG} {T : gTy} {r : gR} {l : gLg} {i : gI} {Q : gQ} {m : Nat} {S : Nat → Int32} {x y w : Int32} (hM : lyM T r m) (he : i (m + 1) = S) (hS : vS S) (hQ : Q (some (.long (aValue S x y w))) T r l i) : gC Γ MX12_value [.ref m, .int x, .int y, .int w] T r l i Q := by
  have hM2 := hM
  obtain ⟨m0, m1, m2, m3, m4, m5, m6, m7, m8, m9, m10⟩ := hM
  subst he
  have hT := hS.1
  have hE := hS.2.1
  have hn6 := hT.1.1
  have hn0 := hT.1.2.1
  obtain ⟨w5, w1, wk⟩ := nW_of hS
  refine gC_of rfl (Nat.le_of_ble_eq_true rfl) (L := [(0, .ref m), (1, .int x), (2, .int y), (3, .int w)]) rfl ?_
  refine G_iload_n (pc := 0) 1 dX12_value_0 rfl ?_
  refine gS1 (pc := 1) (k' := 0) (n' := 0) dX12_value_1 lkX12_140 ⟨by decide, by decide⟩ (Nat.le_of_ble_eq_true rfl) rfl rfl ⟨by decide, by decide⟩ (c_X12_isIn ?_)
  dsimp only [gRt]
  refine G_if_eq (pc := 4) (tgt := 37) dX12_value_4 (by decide) (fun h4 => ?_) (fun h4 => ?_)
  · refine G_ldc2 (pc := 37) dX12_value_37 kcX12_164 ?_
    refine G_lret (pc := 40) dX12_value_40 rfl ⟨by decide, by decide⟩ ?_
    rw [show aValue (i (m + 1)) x y w = -1000001 from if_neg (fun z => gB_eq.mp h4 z.1)] at hQ
    exact hQ
  · refine G_iload_n (pc := 7) 2 dX12_value_7 rfl ?_
    refine gS1 (pc := 8) (k' := 0) (n' := 0) dX12_value_8 lkX12_140 ⟨by decide, by decide⟩ (Nat.le_of_ble_eq_true rfl) rfl rfl ⟨by decide, by decide⟩ (c_X12_isIn ?_)
    dsimp only [gRt]
    refine G_if_eq (pc := 11) (tgt := 37) dX12_value_11 (by decide) (fun h11 => ?_) (fun h11 => ?_)
    · refine G_ldc2 (pc := 37) dX12_value_37 kcX12_164 ?_
      refine G_lret (pc := 40) dX12_value_40 rfl ⟨by decide, by decide⟩ ?_
      rw [show aValue (i (m + 1)) x y w = -1000001 from if_neg (fun z => gB_eq.mp h11 z.2.1)] at hQ
      exact hQ
    · refine G_iload_n (pc := 14) 3 dX12_value_14 rfl ?_
      refine G_iconst (pc := 15) (v := 0) dX12_value_15 rfl ?_
      refine G_iconst (pc := 16) (v := 2) dX12_value_16 rfl ?_
      refine gS3 (pc := 17) (k' := 0) (n' := 0) dX12_value_17 lkX12_25 ⟨by decide, by decide⟩ (Nat.le_of_ble_eq_true rfl) rfl rfl ⟨by decide, by decide⟩ (c_X12_in ?_)
      dsimp only [gRt]
      refine G_if_eq (pc := 20) (tgt := 37) dX12_value_20 (by decide) (fun h20 => ?_) (fun h20 => ?_)
      · refine G_ldc2 (pc := 37) dX12_value_37 kcX12_164 ?_
        refine G_lret (pc := 40) dX12_value_40 rfl ⟨by decide, by decide⟩ ?_
        rw [show aValue (i (m + 1)) x y w = -1000001 from if_neg (fun z => gB_eq.mp h20 z.2.2)] at hQ
        exact hQ
      · refine G_aload_n (pc := 23) 0 dX12_value_23 rfl ?_
        refine G_iload_n (pc := 24) 1 dX12_value_24 rfl ?_
        refine G_iload_n (pc := 25) 2 dX12_value_25 rfl ?_
        refine G_iload_n (pc := 26) 3 dX12_value_26 rfl ?_
        have hok : okC x y w := ⟨gB_ne.mp h4, gB_ne.mp h11, gB_ne.mp h20⟩
        obtain ⟨c, _, c2, rfl⟩ := inI_nat (a := 0) (b := 2) (by decide) (by decide) hok.2.2
        rw [show aValue (i (m + 1)) x y (nI c) = gSum (tF (i (m + 1))) (tP (i (m + 1))) (tQ (i (m + 1))) x.toInt64 y.toInt64 c (tN (i (m + 1))) + 1000000000000 by unfold aValue; rw [if_pos hok, nI_clamp (by omega)]] at hQ
        refine gV3 (pc := 27) (k' := 0) (n' := 0) dX12_value_27 lkX12_61 ⟨by decide, by decide⟩ (Nat.le_of_ble_eq_true rfl) rfl rfl ⟨by decide, by decide⟩ (by assumption) (c_X12_sum (w := c) hM2 hT.1 c2 ?_)
        dsimp only [gRt]
        refine G_ldc2 (pc := 30) dX12_value_30 kcX12_162 ?_
        refine G_ladd (pc := 33) dX12_value_33 ?_
        refine G_goto (pc := 34) (tgt := 40) dX12_value_34 (by decide) ?_
        refine G_lret (pc := 40) dX12_value_40 rfl ⟨by decide, by decide⟩ ?_
        exact hQ

set_option maxRecDepth 100000 in
set_option maxHeartbeats 4000000 in
theorem c_X12_corrected {Γ : gG} {T : gTy} {r : gR} {l : gLg} {i : gI} {Q : gQ} {m : Nat} {S : Nat → Int32} {x y w : Int32} (hM : lyM T r m) (he : i (m + 1) = S) (hS : vS S) (hA : gN Γ ≤ m) (hQ : ∀ i', frM m i i' → Q (some (.int (aCorr S x y w))) T r l i') : gC Γ MX12_corrected [.ref m, .int x, .int y, .int w] T r l i Q := by
  have hM2 := hM
  obtain ⟨m0, m1, m2, m3, m4, m5, m6, m7, m8, m9, m10⟩ := hM
  subst he
  have hT := hS.1
  have hE := hS.2.1
  have hn6 := hT.1.1
  have hn0 := hT.1.2.1
  obtain ⟨w5, w1, wk⟩ := nW_of hS
  refine gC_of rfl (Nat.le_of_ble_eq_true rfl) (L := [(0, .ref m), (1, .int x), (2, .int y), (3, .int w)]) rfl ?_
  refine G_iload_n (pc := 0) 1 dX12_corrected_0 rfl ?_
  refine gS1 (pc := 1) (k' := 0) (n' := 0) dX12_corrected_1 lkX12_140 ⟨by decide, by decide⟩ (Nat.le_of_ble_eq_true rfl) rfl rfl ⟨by decide, by decide⟩ (c_X12_isIn ?_)
  dsimp only [gRt]
  refine G_if_eq (pc := 4) (tgt := 23) dX12_corrected_4 (by decide) (fun h4 => ?_) (fun h4 => ?_)
  · refine G_ldc (pc := 23) dX12_corrected_23 kcX12_29 ?_
    refine G_iret (pc := 25) dX12_corrected_25 ⟨_, rfl, rfl⟩ ⟨by decide, by decide⟩ ?_
    replace hQ := hQ i frM.rfl'
    rw [show aCorr (i (m + 1)) x y w = -1000001 from if_neg (fun z => gB_eq.mp h4 z.1)] at hQ
    exact hQ
  · refine G_iload_n (pc := 7) 2 dX12_corrected_7 rfl ?_
    refine gS1 (pc := 8) (k' := 0) (n' := 0) dX12_corrected_8 lkX12_140 ⟨by decide, by decide⟩ (Nat.le_of_ble_eq_true rfl) rfl rfl ⟨by decide, by decide⟩ (c_X12_isIn ?_)
    dsimp only [gRt]
    refine G_if_eq (pc := 11) (tgt := 23) dX12_corrected_11 (by decide) (fun h11 => ?_) (fun h11 => ?_)
    · refine G_ldc (pc := 23) dX12_corrected_23 kcX12_29 ?_
      refine G_iret (pc := 25) dX12_corrected_25 ⟨_, rfl, rfl⟩ ⟨by decide, by decide⟩ ?_
      replace hQ := hQ i frM.rfl'
      rw [show aCorr (i (m + 1)) x y w = -1000001 from if_neg (fun z => gB_eq.mp h11 z.2.1)] at hQ
      exact hQ
    · refine G_iload_n (pc := 14) 3 dX12_corrected_14 rfl ?_
      refine G_iconst (pc := 15) (v := 0) dX12_corrected_15 rfl ?_
      refine G_iconst (pc := 16) (v := 2) dX12_corrected_16 rfl ?_
      refine gS3 (pc := 17) (k' := 0) (n' := 0) dX12_corrected_17 lkX12_25 ⟨by decide, by decide⟩ (Nat.le_of_ble_eq_true rfl) rfl rfl ⟨by decide, by decide⟩ (c_X12_in ?_)
      dsimp only [gRt]
      refine G_if_ne (pc := 20) (tgt := 26) dX12_corrected_20 (by decide) (fun h20 => ?_) (fun h20 => ?_)
      · refine G_aload_n (pc := 26) 0 dX12_corrected_26 rfl ?_
        refine G_iload_n (pc := 27) 1 dX12_corrected_27 rfl ?_
        refine G_i2l (pc := 28) dX12_corrected_28 ?_
        refine G_iload_n (pc := 29) 2 dX12_corrected_29 rfl ?_
        refine G_i2l (pc := 30) dX12_corrected_30 ?_
        have hok : okC x y w := ⟨gB_ne.mp h4, gB_ne.mp h11, gB_ne.mp h20⟩
        rw [show aCorr (i (m + 1)) x y w = aCor w (gCor (tF (i (m + 1))) (tP (i (m + 1))) (tQ (i (m + 1))) (tN (i (m + 1))) (tM (i (m + 1))) 0 x.toInt64 y.toInt64) from if_pos hok] at hQ
        refine gV2 (pc := 31) (k' := 0) (n' := 0) dX12_corrected_31 lkX12_99 ⟨by decide, by decide⟩ (Nat.le_of_ble_eq_true rfl) rfl rfl ⟨by decide, by decide⟩ (by assumption) (c_X12_corrects hM2 hA hT.1 hE.2.2.2.2 (by have := hE.2.2.2.1; omega) ?_ ?_)
        · intro hc i2 hi2
          rw [hc] at hQ
          dsimp only [gRt]
          refine G_if_ne (pc := 34) (tgt := 42) dX12_corrected_34 (by decide) (fun h34 => ?_) (fun h34 => ?_)
          · exact absurd rfl h34
          · refine G_ldc (pc := 37) dX12_corrected_37 kcX12_161 ?_
            refine G_goto (pc := 39) (tgt := 69) dX12_corrected_39 (by decide) ?_
            refine G_iret (pc := 69) dX12_corrected_69 ⟨_, rfl, rfl⟩ ⟨by decide, by decide⟩ ?_
            exact hQ i2 hi2
        · intro X Y rd hc i2 hi2 e6 e7 e8
          rw [hc] at hQ
          dsimp only [gRt]
          refine G_if_ne (pc := 34) (tgt := 42) dX12_corrected_34 (by decide) (fun h34 => ?_) (fun h34 => ?_)
          · refine G_iload_n (pc := 42) 3 dX12_corrected_42 rfl ?_
            refine G_if_ne (pc := 43) (tgt := 53) dX12_corrected_43 (by decide) (fun h43 => ?_) (fun h43 => ?_)
            · refine G_iload_n (pc := 53) 3 dX12_corrected_53 rfl ?_
              refine G_iconst (pc := 54) (v := 1) dX12_corrected_54 rfl ?_
              refine G_icmp_ne (pc := 55) (tgt := 65) dX12_corrected_55 (by decide) (fun h55 => ?_) (fun h55 => ?_)
              · refine G_aload_n (pc := 65) 0 dX12_corrected_65 rfl ?_
                refine G_getI (pc := 66) dX12_corrected_66 fX12_65 (by assumption) ?_
                rw [e8]
                refine G_iret (pc := 69) dX12_corrected_69 ⟨_, rfl, rfl⟩ ⟨by decide, by decide⟩ ?_
                replace hQ := hQ i2 hi2
                rw [show aCor w (some (X, Y, rd)) = nI rd from (if_neg h43).trans (if_neg h55)] at hQ
                exact hQ
              · refine G_aload_n (pc := 58) 0 dX12_corrected_58 rfl ?_
                refine G_getI (pc := 59) dX12_corrected_59 fX12_58 (by assumption) ?_
                rw [e7]
                refine G_goto (pc := 62) (tgt := 69) dX12_corrected_62 (by decide) ?_
                refine G_iret (pc := 69) dX12_corrected_69 ⟨_, rfl, rfl⟩ ⟨by decide, by decide⟩ ?_
                replace hQ := hQ i2 hi2
                rw [show aCor w (some (X, Y, rd)) = Y.toInt32 from (if_neg h43).trans (if_pos h55)] at hQ
                exact hQ
            · refine G_aload_n (pc := 46) 0 dX12_corrected_46 rfl ?_
              refine G_getI (pc := 47) dX12_corrected_47 fX12_55 (by assumption) ?_
              rw [e6]
              refine G_goto (pc := 50) (tgt := 69) dX12_corrected_50 (by decide) ?_
              refine G_iret (pc := 69) dX12_corrected_69 ⟨_, rfl, rfl⟩ ⟨by decide, by decide⟩ ?_
              replace hQ := hQ i2 hi2
              rw [show aCor w (some (X, Y, rd)) = X.toInt32 from if_pos h43] at hQ
              exact hQ
          · exact absurd h34 (by decide)
      · refine G_ldc (pc := 23) dX12_corrected_23 kcX12_29 ?_
        refine G_iret (pc := 25) dX12_corrected_25 ⟨_, rfl, rfl⟩ ⟨by decide, by decide⟩ ?_
        replace hQ := hQ i frM.rfl'
        rw [show aCorr (i (m + 1)) x y w = -1000001 from if_neg (fun z => gB_eq.mp h20 z.2.2)] at hQ
        exact hQ

set_option maxRecDepth 100000 in
set_option maxHeartbeats 4000000 in
theorem c_X12_placeOf {Γ : gG} {T : gTy} {r : gR} {l : gLg} {i : gI} {Q : gQ} {m : Nat} {S : Nat → Int32} {w p c : Int32} (hM : lyM T r m) (he : i (m + 1) = S) (hS : vS S) (hQ : Q (some (.int (aPlaceOf S w p c))) T r l i) : gC Γ MX12_placeOf [.ref m, .int w, .int p, .int c] T r l i Q := by
  have hM2 := hM
  obtain ⟨m0, m1, m2, m3, m4, m5, m6, m7, m8, m9, m10⟩ := hM
  subst he
  have hT := hS.1
  have hE := hS.2.1
  have hn6 := hT.1.1
  have hn0 := hT.1.2.1
  obtain ⟨w5, w1, wk⟩ := nW_of hS
  refine gC_of rfl (Nat.le_of_ble_eq_true rfl) (L := [(0, .ref m), (1, .int w), (2, .int p), (3, .int c)]) rfl ?_
  refine G_aload_n (pc := 0) 0 dX12_placeOf_0 rfl ?_
  refine G_iload_n (pc := 1) 1 dX12_placeOf_1 rfl ?_
  refine gV1 (pc := 2) (k' := 0) (n' := 0) dX12_placeOf_2 lkX12_146 ⟨by decide, by decide⟩ (Nat.le_of_ble_eq_true rfl) rfl rfl ⟨by decide, by decide⟩ (by assumption) (c_X12_isWalk hM2 ?_)
  dsimp only [gRt]
  refine G_if_eq (pc := 5) (tgt := 21) dX12_placeOf_5 (by decide) (fun h5 => ?_) (fun h5 => ?_)
  · refine G_ldc (pc := 21) dX12_placeOf_21 kcX12_29 ?_
    refine G_iret (pc := 23) dX12_placeOf_23 ⟨_, rfl, rfl⟩ ⟨by decide, by decide⟩ ?_
    rw [show aPlaceOf (i (m + 1)) w p c = -1000001 from if_neg (fun z => gB_eq.mp h5 z.1)] at hQ
    exact hQ
  · obtain ⟨a, ha, rfl⟩ := (isW (by omega)).mp (w1 ▸ gB_ne.mp h5)
    obtain ⟨⟨z, hv⟩, _⟩ := wk a ha
    have hz40 := hv.2.1
    refine G_iload_n (pc := 8) 2 dX12_placeOf_8 rfl ?_
    refine G_if_lt (pc := 9) (tgt := 21) dX12_placeOf_9 (by decide) (fun h9 => ?_) (fun h9 => ?_)
    · refine G_ldc (pc := 21) dX12_placeOf_21 kcX12_29 ?_
      refine G_iret (pc := 23) dX12_placeOf_23 ⟨_, rfl, rfl⟩ ⟨by decide, by decide⟩ ?_
      rw [show aPlaceOf (i (m + 1)) (nI a) p c = -1000001 from if_neg (fun z => z.2.1 h9)] at hQ
      exact hQ
    · refine G_iload_n (pc := 12) 3 dX12_placeOf_12 rfl ?_
      refine G_iconst (pc := 13) (v := 0) dX12_placeOf_13 rfl ?_
      refine G_iconst (pc := 14) (v := 3) dX12_placeOf_14 rfl ?_
      refine gS3 (pc := 15) (k' := 0) (n' := 0) dX12_placeOf_15 lkX12_25 ⟨by decide, by decide⟩ (Nat.le_of_ble_eq_true rfl) rfl rfl ⟨by decide, by decide⟩ (c_X12_in ?_)
      dsimp only [gRt]
      refine G_if_ne (pc := 18) (tgt := 24) dX12_placeOf_18 (by decide) (fun h18 => ?_) (fun h18 => ?_)
      · refine G_iload_n (pc := 24) 2 dX12_placeOf_24 rfl ?_
        refine G_aload_n (pc := 25) 0 dX12_placeOf_25 rfl ?_
        refine G_iload_n (pc := 26) 1 dX12_placeOf_26 rfl ?_
        refine gV1 (pc := 27) (k' := 0) (n' := 0) dX12_placeOf_27 lkX12_80 ⟨by decide, by decide⟩ (Nat.le_of_ble_eq_true rfl) rfl rfl ⟨by decide, by decide⟩ (by assumption) (c_X12_places (k := a) hM2 (by omega) ?_)
        dsimp only [gRt]
        rw [hv.1]
        refine G_icmp_ge (pc := 30) (tgt := 43) dX12_placeOf_30 (by decide) (fun h30 => ?_) (fun h30 => ?_)
        · have h30 := h30
          refine G_ldc (pc := 43) dX12_placeOf_43 kcX12_161 ?_
          refine G_iret (pc := 45) dX12_placeOf_45 ⟨_, rfl, rfl⟩ ⟨by decide, by decide⟩ ?_
          rw [show aPlaceOf (i (m + 1)) (nI a) p c = -1000004 by unfold aPlaceOf; rw [if_pos ⟨gB_ne.mp h5, h9, gB_ne.mp h18⟩, nI_clamp (by omega), hv.1, if_neg (Int32.not_lt.mpr h30)]] at hQ
          exact hQ
        · have h30 := Int32.not_le.mp h30
          refine G_aload_n (pc := 33) 0 dX12_placeOf_33 rfl ?_
          refine G_iload_n (pc := 34) 1 dX12_placeOf_34 rfl ?_
          refine G_iload_n (pc := 35) 2 dX12_placeOf_35 rfl ?_
          refine G_iload_n (pc := 36) 3 dX12_placeOf_36 rfl ?_
          obtain ⟨j, hj, rfl⟩ : ∃ j, j < z + 1 ∧ p = nI j := by
            rcases pk_ix p (n := z + 1) (by omega) with u | u | u
            · exact absurd u h9
            · exact absurd h30 (Int32.not_lt.mpr u)
            · exact u
          obtain ⟨e, _, e3, rfl⟩ := inI_nat (a := 0) (b := 3) (by decide) (by decide) (gB_ne.mp h18)
          rw [show aPlaceOf (i (m + 1)) (nI a) (nI j) (nI e) = i (m + 1) (23 + 166 * a + 6 + 4 * j + e) by unfold aPlaceOf; rw [if_pos ⟨gB_ne.mp h5, h9, gB_ne.mp h18⟩, nI_clamp (by omega), hv.1, if_pos (nI_lt hj (by omega)), nI_clamp (by omega), nI_clamp (by omega)]] at hQ
          refine gV3 (pc := 37) (k' := 0) (n' := 0) dX12_placeOf_37 lkX12_103 ⟨by decide, by decide⟩ (Nat.le_of_ble_eq_true rfl) rfl rfl ⟨by decide, by decide⟩ (by assumption) (c_X12_placePart (c := e) hM2 (by omega) ?_)
          dsimp only [gRt]
          refine G_goto (pc := 40) (tgt := 45) dX12_placeOf_40 (by decide) ?_
          refine G_iret (pc := 45) dX12_placeOf_45 ⟨_, rfl, rfl⟩ ⟨by decide, by decide⟩ ?_
          exact hQ
      · refine G_ldc (pc := 21) dX12_placeOf_21 kcX12_29 ?_
        refine G_iret (pc := 23) dX12_placeOf_23 ⟨_, rfl, rfl⟩ ⟨by decide, by decide⟩ ?_
        rw [show aPlaceOf (i (m + 1)) (nI a) p c = -1000001 from if_neg (fun z => gB_eq.mp h18 z.2.2)] at hQ
        exact hQ

set_option maxRecDepth 100000 in
set_option maxHeartbeats 4000000 in
theorem lp_X12_ofKind {Γ : gG} {T : gTy} {r : gR} {l : gLg} {i : gI} {Q : gQ} {m k n : Nat} {v : Int32} (hM : lyM T r m) (hk : k < 5) (hn : i (m + 1) (23 + 166 * k) = nI n) (hn4 : n ≤ 40) (hQ : Q (some (.int (nI (cntK (kdS (i (m + 1)) (23 + 166 * k)) v n)))) T r l i) : ∀ d p, p + d = n → G Γ MX12_ofKind 0 0 5 [(0, .ref m), (1, .int (nI k)), (2, .int v), (3, .int (nI (cntK (kdS (i (m + 1)) (23 + 166 * k)) v p))), (4, .int (nI p))] [] T r l i Q := by
  have hM2 := hM
  obtain ⟨m0, m1, m2, m3, m4, m5, m6, m7, m8, m9, m10⟩ := hM
  intro d
  induction d with
  | zero =>
    intro p hp
    obtain rfl : p = n := by omega
    refine G_iload (pc := 5) 4 dX12_ofKind_5 rfl ?_
    refine G_aload_n (pc := 7) 0 dX12_ofKind_7 rfl ?_
    refine G_iload_n (pc := 8) 1 dX12_ofKind_8 rfl ?_
    refine gV1 (pc := 9) (k' := 0) (n' := 0) dX12_ofKind_9 lkX12_80 ⟨by decide, by decide⟩ (Nat.le_of_ble_eq_true rfl) rfl rfl ⟨by decide, by decide⟩ (by assumption) (c_X12_places hM2 (by omega) ?_)
    dsimp only [gRt]
    rw [hn]
    refine G_icmp_ge (pc := 12) (tgt := 41) dX12_ofKind_12 (by decide) (fun h12 => ?_) (fun h12 => ?_)
    · refine G_iload_n (pc := 41) 3 dX12_ofKind_41 rfl ?_
      refine G_iret (pc := 42) dX12_ofKind_42 ⟨_, rfl, rfl⟩ ⟨by decide, by decide⟩ ?_
      exact hQ
    · exact absurd (Int32.le_refl _) h12
  | succ d ih =>
    intro p hp
    refine G_iload (pc := 5) 4 dX12_ofKind_5 rfl ?_
    refine G_aload_n (pc := 7) 0 dX12_ofKind_7 rfl ?_
    refine G_iload_n (pc := 8) 1 dX12_ofKind_8 rfl ?_
    refine gV1 (pc := 9) (k' := 0) (n' := 0) dX12_ofKind_9 lkX12_80 ⟨by decide, by decide⟩ (Nat.le_of_ble_eq_true rfl) rfl rfl ⟨by decide, by decide⟩ (by assumption) (c_X12_places hM2 (by omega) ?_)
    dsimp only [gRt]
    rw [hn]
    refine G_icmp_ge (pc := 12) (tgt := 41) dX12_ofKind_12 (by decide) (fun h12 => ?_) (fun h12 => ?_)
    · exact absurd h12 (nI_ge (by omega) (by omega))
    · refine G_iload_n (pc := 15) 3 dX12_ofKind_15 rfl ?_
      refine G_aload_n (pc := 16) 0 dX12_ofKind_16 rfl ?_
      refine G_iload_n (pc := 17) 1 dX12_ofKind_17 rfl ?_
      refine G_iload (pc := 18) 4 dX12_ofKind_18 rfl ?_
      refine G_iconst (pc := 20) (v := 3) dX12_ofKind_20 rfl ?_
      refine gV3 (pc := 21) (k' := 0) (n' := 0) dX12_ofKind_21 lkX12_103 ⟨by decide, by decide⟩ (Nat.le_of_ble_eq_true rfl) rfl rfl ⟨by decide, by decide⟩ (by assumption) (c_X12_placePart (c := 3) hM2 (by omega) ?_)
      dsimp only [gRt]
      refine G_iload_n (pc := 24) 2 dX12_ofKind_24 rfl ?_
      refine G_icmp_ne (pc := 25) (tgt := 32) dX12_ofKind_25 (by decide) (fun h25 => ?_) (fun h25 => ?_)
      · refine G_iconst (pc := 32) (v := 0) dX12_ofKind_32 rfl ?_
        refine G_iadd (pc := 33) dX12_ofKind_33 ?_
        refine G_st3 (pc := 34) (gSt_in dX12_ofKind_34 rfl (by decide)) rfl ?_
        refine G_inc4 (pc := 35) (v := 1) dX12_ofKind_35 rfl (by decide) rfl ?_
        refine G_goto (pc := 38) (tgt := 5) dX12_ofKind_38 (by decide) ?_
        rw [show nI (cntK (kdS (i (m + 1)) (23 + 166 * k)) v p) + 0 = nI (cntK (kdS (i (m + 1)) (23 + 166 * k)) v p) from Int32.add_zero _, nI_1]
        have e : cntK (kdS (i (m + 1)) (23 + 166 * k)) v (p + 1) = cntK (kdS (i (m + 1)) (23 + 166 * k)) v p := by simp [cntK, kdS, h25]
        rw [← e]
        exact ih (p + 1) (by omega)
      · refine G_iconst (pc := 28) (v := 1) dX12_ofKind_28 rfl ?_
        refine G_goto (pc := 29) (tgt := 33) dX12_ofKind_29 (by decide) ?_
        refine G_iadd (pc := 33) dX12_ofKind_33 ?_
        refine G_st3 (pc := 34) (gSt_in dX12_ofKind_34 rfl (by decide)) rfl ?_
        refine G_inc4 (pc := 35) (v := 1) dX12_ofKind_35 rfl (by decide) rfl ?_
        refine G_goto (pc := 38) (tgt := 5) dX12_ofKind_38 (by decide) ?_
        rw [nI_1, nI_1]
        have e : cntK (kdS (i (m + 1)) (23 + 166 * k)) v (p + 1) = cntK (kdS (i (m + 1)) (23 + 166 * k)) v p + 1 := by simp [cntK, kdS, h25]
        rw [← e]
        exact ih (p + 1) (by omega)

set_option maxRecDepth 100000 in
set_option maxHeartbeats 4000000 in
theorem c_X12_ofKind {Γ : gG} {T : gTy} {r : gR} {l : gLg} {i : gI} {Q : gQ} {m k n : Nat} {v : Int32} (hM : lyM T r m) (hk : k < 5) (hn : i (m + 1) (23 + 166 * k) = nI n) (hn4 : n ≤ 40) (hQ : Q (some (.int (nI (cntK (kdS (i (m + 1)) (23 + 166 * k)) v n)))) T r l i) : gC Γ MX12_ofKind [.ref m, .int (nI k), .int v] T r l i Q := by
  refine gC_of rfl (Nat.le_of_ble_eq_true rfl) (L := [(0, .ref m), (1, .int (nI k)), (2, .int v)]) rfl ?_
  refine G_iconst (pc := 0) (v := 0) dX12_ofKind_0 rfl ?_
  refine G_sn3 (pc := 1) (gSt_in dX12_ofKind_1 rfl (by decide)) rfl ?_
  refine G_iconst (pc := 2) (v := 0) dX12_ofKind_2 rfl ?_
  refine G_sn4 (pc := 3) (gSt_i dX12_ofKind_3 (by decide)) rfl ?_
  exact lp_X12_ofKind hM hk hn hn4 hQ n 0 (Nat.zero_add n)

set_option maxRecDepth 100000 in
set_option maxHeartbeats 4000000 in
theorem lp_X12_begunFrom {Γ : gG} {T : gTy} {r : gR} {l : gLg} {i : gI} {Q : gQ} {m n w : Nat} (hM : lyM T r m) (h1 : i (m + 1) 1 = nI n) (hn : n ≤ 5) (hw : w < 5) (hp : vP (gPr4 (i (m + 1))) n) (hQ : Q (some (.int (nI (cBg (gPr4 (i (m + 1))) w n)))) T r l i) : ∀ d k, k + d = n → G Γ MX12_begunFrom 0 0 4 [(0, .ref m), (1, .int (nI w)), (2, .int (nI (cBg (gPr4 (i (m + 1))) w k))), (3, .int (nI k))] [] T r l i Q := by
  have hM2 := hM
  obtain ⟨m0, m1, m2, m3, m4, m5, m6, m7, m8, m9, m10⟩ := hM
  intro d
  induction d with
  | zero =>
    intro k hk
    obtain rfl : k = n := by omega
    refine G_iload_n (pc := 4) 3 dX12_begunFrom_4 rfl ?_
    refine G_aload_n (pc := 5) 0 dX12_begunFrom_5 rfl ?_
    refine G_getR (pc := 6) dX12_begunFrom_6 fX12_7 (by assumption) (by assumption) ?_
    refine G_iconst (pc := 9) (v := 1) dX12_begunFrom_9 rfl ?_
    refine G_ialdJ (pc := 10) (j := 1) dX12_begunFrom_10 (by assumption) gl1 (by first | assumption | omega) (by decide) ?_
    rw [h1]
    refine G_icmp_ge (pc := 11) (tgt := 42) dX12_begunFrom_11 (by decide) (fun h11 => ?_) (fun h11 => ?_)
    · refine G_iload_n (pc := 42) 2 dX12_begunFrom_42 rfl ?_
      refine G_iret (pc := 43) dX12_begunFrom_43 ⟨_, rfl, rfl⟩ ⟨by decide, by decide⟩ ?_
      exact hQ
    · exact absurd (Int32.le_refl _) h11
  | succ d ih =>
    intro k hk
    refine G_iload_n (pc := 4) 3 dX12_begunFrom_4 rfl ?_
    refine G_aload_n (pc := 5) 0 dX12_begunFrom_5 rfl ?_
    refine G_getR (pc := 6) dX12_begunFrom_6 fX12_7 (by assumption) (by assumption) ?_
    refine G_iconst (pc := 9) (v := 1) dX12_begunFrom_9 rfl ?_
    refine G_ialdJ (pc := 10) (j := 1) dX12_begunFrom_10 (by assumption) gl1 (by first | assumption | omega) (by decide) ?_
    rw [h1]
    refine G_icmp_ge (pc := 11) (tgt := 42) dX12_begunFrom_11 (by decide) (fun h11 => ?_) (fun h11 => ?_)
    · exact absurd h11 (nI_ge (by omega) (by omega))
    · refine G_iload_n (pc := 14) 2 dX12_begunFrom_14 rfl ?_
      refine G_iload_n (pc := 15) 3 dX12_begunFrom_15 rfl ?_
      refine G_iload_n (pc := 16) 1 dX12_begunFrom_16 rfl ?_
      refine G_icmp_eq (pc := 17) (tgt := 33) dX12_begunFrom_17 (by decide) (fun h17 => ?_) (fun h17 => ?_)
      · refine G_iconst (pc := 33) (v := 0) dX12_begunFrom_33 rfl ?_
        refine G_iadd (pc := 34) dX12_begunFrom_34 ?_
        refine G_st2 (pc := 35) (gSt_in dX12_begunFrom_35 rfl (by decide)) rfl ?_
        refine G_inc3 (pc := 36) (v := 1) dX12_begunFrom_36 rfl (by decide) rfl ?_
        refine G_goto (pc := 39) (tgt := 4) dX12_begunFrom_39 (by decide) ?_
        rw [show nI (cBg (gPr4 (i (m + 1))) w k) + 0 = nI (cBg (gPr4 (i (m + 1))) w k) from Int32.add_zero _, nI_1]
        have e : cBg (gPr4 (i (m + 1))) w (k + 1) = cBg (gPr4 (i (m + 1))) w k := by rw [cBg, if_neg (fun z => z.1 ((nI_eq (by omega) (by omega)).mp h17))]; rfl
        rw [← e]
        exact ih (k + 1) (by omega)
      · refine G_aload_n (pc := 20) 0 dX12_begunFrom_20 rfl ?_
        refine G_iload_n (pc := 21) 3 dX12_begunFrom_21 rfl ?_
        refine G_iload_n (pc := 22) 1 dX12_begunFrom_22 rfl ?_
        refine gV2 (pc := 23) (k' := 0) (n' := 0) dX12_begunFrom_23 lkX12_124 ⟨by decide, by decide⟩ (Nat.le_of_ble_eq_true rfl) rfl rfl ⟨by decide, by decide⟩ (by assumption) (c_X12_isFrom (n := n) hM2 (by omega) hn hw hp ?_)
        dsimp only [gRt]
        refine G_if_eq (pc := 26) (tgt := 33) dX12_begunFrom_26 (by decide) (fun h26 => ?_) (fun h26 => ?_)
        · refine G_iconst (pc := 33) (v := 0) dX12_begunFrom_33 rfl ?_
          refine G_iadd (pc := 34) dX12_begunFrom_34 ?_
          refine G_st2 (pc := 35) (gSt_in dX12_begunFrom_35 rfl (by decide)) rfl ?_
          refine G_inc3 (pc := 36) (v := 1) dX12_begunFrom_36 rfl (by decide) rfl ?_
          refine G_goto (pc := 39) (tgt := 4) dX12_begunFrom_39 (by decide) ?_
          rw [show nI (cBg (gPr4 (i (m + 1))) w k) + 0 = nI (cBg (gPr4 (i (m + 1))) w k) from Int32.add_zero _, nI_1]
          have e : cBg (gPr4 (i (m + 1))) w (k + 1) = cBg (gPr4 (i (m + 1))) w k := by rw [cBg, if_neg (fun z => gB_eq.mp h26 z.2)]; rfl
          rw [← e]
          exact ih (k + 1) (by omega)
        · refine G_iconst (pc := 29) (v := 1) dX12_begunFrom_29 rfl ?_
          refine G_goto (pc := 30) (tgt := 34) dX12_begunFrom_30 (by decide) ?_
          refine G_iadd (pc := 34) dX12_begunFrom_34 ?_
          refine G_st2 (pc := 35) (gSt_in dX12_begunFrom_35 rfl (by decide)) rfl ?_
          refine G_inc3 (pc := 36) (v := 1) dX12_begunFrom_36 rfl (by decide) rfl ?_
          refine G_goto (pc := 39) (tgt := 4) dX12_begunFrom_39 (by decide) ?_
          rw [nI_1, nI_1]
          have e : cBg (gPr4 (i (m + 1))) w (k + 1) = cBg (gPr4 (i (m + 1))) w k + 1 := by rw [cBg, if_pos ⟨fun z => h17 (by rw [z]), gB_ne.mp h26⟩]
          rw [← e]
          exact ih (k + 1) (by omega)

set_option maxRecDepth 100000 in
set_option maxHeartbeats 4000000 in
theorem c_X12_begunFrom {Γ : gG} {T : gTy} {r : gR} {l : gLg} {i : gI} {Q : gQ} {m n w : Nat} (hM : lyM T r m) (h1 : i (m + 1) 1 = nI n) (hn : n ≤ 5) (hw : w < 5) (hp : vP (gPr4 (i (m + 1))) n) (hQ : Q (some (.int (nI (cBg (gPr4 (i (m + 1))) w n)))) T r l i) : gC Γ MX12_begunFrom [.ref m, .int (nI w)] T r l i Q := by
  refine gC_of rfl (Nat.le_of_ble_eq_true rfl) (L := [(0, .ref m), (1, .int (nI w))]) rfl ?_
  refine G_iconst (pc := 0) (v := 0) dX12_begunFrom_0 rfl ?_
  refine G_sn2 (pc := 1) (gSt_in dX12_begunFrom_1 rfl (by decide)) rfl ?_
  refine G_iconst (pc := 2) (v := 0) dX12_begunFrom_2 rfl ?_
  refine G_sn3 (pc := 3) (gSt_in dX12_begunFrom_3 rfl (by decide)) rfl ?_
  exact lp_X12_begunFrom hM h1 hn hw hp hQ n 0 (Nat.zero_add n)

set_option maxRecDepth 100000 in
set_option maxHeartbeats 4000000 in
theorem lp_X12_ofWalks {Γ : gG} {T : gTy} {r : gR} {l : gLg} {i : gI} {Q : gQ} {m n : Nat} {v : Int32} (hM : lyM T r m) (h1 : i (m + 1) 1 = nI n) (hn : n ≤ 5) (hz : ∀ k, k < n → ∃ z, z ≤ 40 ∧ i (m + 1) (23 + 166 * k) = nI z) (hQ : Q (some (.int (gSumI (fun k => if v = 0 then i (m + 1) (23 + 166 * k) else nI (cntK (kdS (i (m + 1)) (23 + 166 * k)) v (i (m + 1) (23 + 166 * k)).toNatClampNeg)) n))) T r l i) : ∀ d k, k + d = n → G Γ MX12_ofWalks 0 0 4 [(0, .ref m), (1, .int v), (2, .int (gSumI (fun k => if v = 0 then i (m + 1) (23 + 166 * k) else nI (cntK (kdS (i (m + 1)) (23 + 166 * k)) v (i (m + 1) (23 + 166 * k)).toNatClampNeg)) k)), (3, .int (nI k))] [] T r l i Q := by
  have hM2 := hM
  obtain ⟨m0, m1, m2, m3, m4, m5, m6, m7, m8, m9, m10⟩ := hM
  intro d
  induction d with
  | zero =>
    intro k hk
    obtain rfl : k = n := by omega
    refine G_iload_n (pc := 4) 3 dX12_ofWalks_4 rfl ?_
    refine G_aload_n (pc := 5) 0 dX12_ofWalks_5 rfl ?_
    refine G_getR (pc := 6) dX12_ofWalks_6 fX12_7 (by assumption) (by assumption) ?_
    refine G_iconst (pc := 9) (v := 1) dX12_ofWalks_9 rfl ?_
    refine G_ialdJ (pc := 10) (j := 1) dX12_ofWalks_10 (by assumption) gl1 (by first | assumption | omega) (by decide) ?_
    rw [h1]
    refine G_icmp_ge (pc := 11) (tgt := 41) dX12_ofWalks_11 (by decide) (fun h11 => ?_) (fun h11 => ?_)
    · refine G_iload_n (pc := 41) 2 dX12_ofWalks_41 rfl ?_
      refine G_iret (pc := 42) dX12_ofWalks_42 ⟨_, rfl, rfl⟩ ⟨by decide, by decide⟩ ?_
      exact hQ
    · exact absurd (Int32.le_refl _) h11
  | succ d ih =>
    intro k hk
    obtain ⟨z, hz4, hz1⟩ := hz k (by omega)
    refine G_iload_n (pc := 4) 3 dX12_ofWalks_4 rfl ?_
    refine G_aload_n (pc := 5) 0 dX12_ofWalks_5 rfl ?_
    refine G_getR (pc := 6) dX12_ofWalks_6 fX12_7 (by assumption) (by assumption) ?_
    refine G_iconst (pc := 9) (v := 1) dX12_ofWalks_9 rfl ?_
    refine G_ialdJ (pc := 10) (j := 1) dX12_ofWalks_10 (by assumption) gl1 (by first | assumption | omega) (by decide) ?_
    rw [h1]
    refine G_icmp_ge (pc := 11) (tgt := 41) dX12_ofWalks_11 (by decide) (fun h11 => ?_) (fun h11 => ?_)
    · exact absurd h11 (nI_ge (by omega) (by omega))
    · refine G_iload_n (pc := 14) 2 dX12_ofWalks_14 rfl ?_
      refine G_iload_n (pc := 15) 1 dX12_ofWalks_15 rfl ?_
      refine G_if_ne (pc := 16) (tgt := 27) dX12_ofWalks_16 (by decide) (fun h16 => ?_) (fun h16 => ?_)
      · refine G_aload_n (pc := 27) 0 dX12_ofWalks_27 rfl ?_
        refine G_iload_n (pc := 28) 3 dX12_ofWalks_28 rfl ?_
        refine G_iload_n (pc := 29) 1 dX12_ofWalks_29 rfl ?_
        refine gV2 (pc := 30) (k' := 0) (n' := 0) dX12_ofWalks_30 lkX12_166 ⟨by decide, by decide⟩ (Nat.le_of_ble_eq_true rfl) rfl rfl ⟨by decide, by decide⟩ (by assumption) (c_X12_ofKind (n := z) hM2 (by omega) hz1 hz4 ?_)
        dsimp only [gRt]
        refine G_iadd (pc := 33) dX12_ofWalks_33 ?_
        refine G_st2 (pc := 34) (gSt_in dX12_ofWalks_34 rfl (by decide)) rfl ?_
        refine G_inc3 (pc := 35) (v := 1) dX12_ofWalks_35 rfl (by decide) rfl ?_
        refine G_goto (pc := 38) (tgt := 4) dX12_ofWalks_38 (by decide) ?_
        rw [nI_1]
        have e : gSumI (fun k => if v = 0 then i (m + 1) (23 + 166 * k) else nI (cntK (kdS (i (m + 1)) (23 + 166 * k)) v (i (m + 1) (23 + 166 * k)).toNatClampNeg)) (k + 1) = gSumI (fun k => if v = 0 then i (m + 1) (23 + 166 * k) else nI (cntK (kdS (i (m + 1)) (23 + 166 * k)) v (i (m + 1) (23 + 166 * k)).toNatClampNeg)) k + nI (cntK (kdS (i (m + 1)) (23 + 166 * k)) v z) := by rw [gSumI]; rw [if_neg h16, hz1, nI_clamp (by omega)]
        rw [← e]
        exact ih (k + 1) (by omega)
      · refine G_aload_n (pc := 19) 0 dX12_ofWalks_19 rfl ?_
        refine G_iload_n (pc := 20) 3 dX12_ofWalks_20 rfl ?_
        refine gV1 (pc := 21) (k' := 0) (n' := 0) dX12_ofWalks_21 lkX12_80 ⟨by decide, by decide⟩ (Nat.le_of_ble_eq_true rfl) rfl rfl ⟨by decide, by decide⟩ (by assumption) (c_X12_places hM2 (by omega) ?_)
        dsimp only [gRt]
        refine G_goto (pc := 24) (tgt := 33) dX12_ofWalks_24 (by decide) ?_
        refine G_iadd (pc := 33) dX12_ofWalks_33 ?_
        refine G_st2 (pc := 34) (gSt_in dX12_ofWalks_34 rfl (by decide)) rfl ?_
        refine G_inc3 (pc := 35) (v := 1) dX12_ofWalks_35 rfl (by decide) rfl ?_
        refine G_goto (pc := 38) (tgt := 4) dX12_ofWalks_38 (by decide) ?_
        rw [nI_1]
        have e : gSumI (fun k => if v = 0 then i (m + 1) (23 + 166 * k) else nI (cntK (kdS (i (m + 1)) (23 + 166 * k)) v (i (m + 1) (23 + 166 * k)).toNatClampNeg)) (k + 1) = gSumI (fun k => if v = 0 then i (m + 1) (23 + 166 * k) else nI (cntK (kdS (i (m + 1)) (23 + 166 * k)) v (i (m + 1) (23 + 166 * k)).toNatClampNeg)) k + i (m + 1) (23 + 166 * k) := by rw [gSumI]; rw [if_pos h16]
        rw [← e]
        exact ih (k + 1) (by omega)

set_option maxRecDepth 100000 in
set_option maxHeartbeats 4000000 in
theorem c_X12_ofWalks {Γ : gG} {T : gTy} {r : gR} {l : gLg} {i : gI} {Q : gQ} {m n : Nat} {v : Int32} (hM : lyM T r m) (h1 : i (m + 1) 1 = nI n) (hn : n ≤ 5) (hz : ∀ k, k < n → ∃ z, z ≤ 40 ∧ i (m + 1) (23 + 166 * k) = nI z) (hQ : Q (some (.int (gSumI (fun k => if v = 0 then i (m + 1) (23 + 166 * k) else nI (cntK (kdS (i (m + 1)) (23 + 166 * k)) v (i (m + 1) (23 + 166 * k)).toNatClampNeg)) n))) T r l i) : gC Γ MX12_ofWalks [.ref m, .int v] T r l i Q := by
  refine gC_of rfl (Nat.le_of_ble_eq_true rfl) (L := [(0, .ref m), (1, .int v)]) rfl ?_
  refine G_iconst (pc := 0) (v := 0) dX12_ofWalks_0 rfl ?_
  refine G_sn2 (pc := 1) (gSt_in dX12_ofWalks_1 rfl (by decide)) rfl ?_
  refine G_iconst (pc := 2) (v := 0) dX12_ofWalks_2 rfl ?_
  refine G_sn3 (pc := 3) (gSt_in dX12_ofWalks_3 rfl (by decide)) rfl ?_
  exact lp_X12_ofWalks hM h1 hn hz hQ n 0 (Nat.zero_add n)

