/-! the class: what it holds, what it answers -/
def lyX (T : gTy) (r : gR) (x : Nat) (ws : Nat → Nat) (hs : Nat → Nat → Nat) : Prop := (T.2 x).1 = 11 ∧ r x 0 = some (x + 1) ∧ r x 1 = some (x + 37) ∧ r x 2 = some (x + 183) ∧ r x 3 = some (x + 187) ∧ r x 4 = some (x + 189) ∧ lySt T r (x + 1) ws ∧ lyH T r (x + 37) hs ∧ lyMo T r (x + 183) ∧ lyTx T r (x + 187) ∧ lyRd T r (x + 189)
/-- it stands for the flat state S and the past P of n -/
def rX (i : gI) (x : Nat) (ws : Nat → Nat) (hs : Nat → Nat → Nat) (S : Nat → Int32) (P : Nat → Nat → Int32) (n : Nat) : Prop := rpSt i (x + 1) ws S ∧ ∃ o, rpH i (x + 37) hs P o n
theorem stF {i : gI} {b : Nat} {ws : Nat → Nat} {S : Nat → Int32} (h : rpSt i b ws S) (hS : vS S) : rpT i (b + 1) S (tN S) ∧ rpWs i ws S (b + 5) (nW S) ∧ rpS i (b + 34) S ∧ tv i (b + 1) (tN S) (tF S) (tP S) (tQ S) := by
  obtain ⟨n, m, h1, h2, h3⟩ := h
  have en : tN S = n := by unfold tN; rw [h1.2.2.1, nI_clamp (by have := h1.1; omega)]
  have em : nW S = m := by unfold nW; rw [h2.2.2.1, nI_clamp (by have := h2.1; omega)]
  rw [en, em]
  refine ⟨h1, h2, h3, h1.1, h1.2.1, fun k hk => ?_⟩
  obtain ⟨v1, v2, v3, v4⟩ := hS.1.1.2.2 k (by rw [en]; exact hk)
  exact ⟨(h1.2.2.2 k hk 0 (by decide)).trans v1, (h1.2.2.2 k hk 1 (by decide)).trans v2, (h1.2.2.2 k hk 2 (by decide)).trans v3, v4⟩
theorem wsF {i : gI} {b m k : Nat} {ws : Nat → Nat} {S : Nat → Int32} (h : rpWs i ws S b m) (hk : k < m) {z : Nat} (hv : vW S (23 + 166 * k) z) : rpW i (ws k) S (23 + 166 * k) (z + 1) := by
  obtain ⟨n, g⟩ := h.2.2.2 k hk
  have e : n = z + 1 := (nI_eq (by have := g.1; omega) (by have := hv.2.1; omega)).mp ((g.2.1.symm.trans (g.2.2.1 0 (by decide))).trans hv.1)
  rw [← e]; exact g
theorem wi {x a b : Int32} : (¬ x.toInt64 < a.toInt64 ∧ ¬ b.toInt64 < x.toInt64) ↔ inI x a b := by
  unfold inI
  rw [Int64.lt_iff_toInt_lt, Int64.lt_iff_toInt_lt, Int32.lt_iff_toInt_lt, Int32.lt_iff_toInt_lt, Int32.toInt_toInt64, Int32.toInt_toInt64, Int32.toInt_toInt64]
theorem wi02 {x : Int32} : (¬ x.toInt64 < 0 ∧ ¬ 2 < x.toInt64) ↔ inI x 0 2 := wi (a := 0) (b := 2)
theorem wi03 {x : Int32} : (¬ x.toInt64 < 0 ∧ ¬ 3 < x.toInt64) ↔ inI x 0 3 := wi (a := 0) (b := 3)
set_option maxRecDepth 100000 in
set_option maxHeartbeats 4000000 in
theorem c_X11_termOf {Γ : gG} {T : gTy} {r : gR} {l : gLg} {i : gI} {Q : gQ} {x : Nat} {ws : Nat → Nat} {hs : Nat → Nat → Nat} {S : Nat → Int32} {k w : Int32} (hX : lyX T r x ws hs) (hA : gN Γ ≤ x) (hR : rpSt i (x + 1) ws S) (hS : vS S) (hQ : Q (some (.int (aTermOf S k w))) T r l i) : gC Γ MX11_termOf [.ref x, .int k, .int w] T r l i Q := by
  obtain ⟨x0, x1, x2, x3, x4, x5, x6, x7, x8, x9, x10⟩ := hX
  obtain ⟨s0, s1, s2, s3, s4, s5, s6⟩ := id x6
  obtain ⟨t0, t1, t2, t3, t4, t5, t6⟩ := id s4
  obtain ⟨f1, f2, f3, f4⟩ := stF hR hS
  have hT := hS.1
  have hE := hS.2.1
  have hn6 := hT.1.1
  have hn3 := f1.2.1
  obtain ⟨w5, w1, wk⟩ := nW_of hS
  refine gC_of rfl (Nat.le_of_ble_eq_true rfl) (L := [(0, .ref x), (1, .int k), (2, .int w)]) rfl ?_
  refine G_iload_n (pc := 0) 1 dX11_termOf_0 rfl ?_
  refine G_if_lt (pc := 1) (tgt := 16) dX11_termOf_1 (by decide) (fun h1 => ?_) (fun h1 => ?_)
  · refine G_ldc (pc := 16) dX11_termOf_16 kcX11_52 ?_
    refine G_iret (pc := 18) dX11_termOf_18 ⟨_, rfl, rfl⟩ ⟨by decide, by decide⟩ ?_
    rw [show aTermOf S k w = -1000001 from if_neg (fun z => z.1 h1)] at hQ
    exact hQ
  · refine G_iload_n (pc := 4) 2 dX11_termOf_4 rfl ?_
    refine G_i2l (pc := 5) dX11_termOf_5 ?_
    refine G_lconst (pc := 6) (v := 0) dX11_termOf_6 rfl ?_
    refine G_ldc2 (pc := 7) dX11_termOf_7 kcX11_96 ?_
    refine gS3 (pc := 10) (k' := 0) (n' := 0) dX11_termOf_10 lkX11_48 ⟨by decide, by decide⟩ (Nat.le_of_ble_eq_true rfl) rfl rfl ⟨by decide, by decide⟩ (c_X11_isWithin ?_)
    dsimp only [gRt]
    refine G_if_ne (pc := 13) (tgt := 19) dX11_termOf_13 (by decide) (fun h13 => ?_) (fun h13 => ?_)
    · refine G_aload_n (pc := 19) 0 dX11_termOf_19 rfl ?_
      refine G_getR (pc := 20) dX11_termOf_20 fX11_10 (by assumption) (by assumption) ?_
      refine G_getR (pc := 23) dX11_termOf_23 fX11_55 (by assumption) (by assumption) ?_
      refine G_iload_n (pc := 26) 1 dX11_termOf_26 rfl ?_
      refine gV1 (pc := 27) (k' := 0) (n' := 0) dX11_termOf_27 lkX11_87 ⟨by decide, by decide⟩ (Nat.le_of_ble_eq_true rfl) rfl rfl ⟨by decide, by decide⟩ (by assumption) (c_X7_has s4.1 ?_)
      dsimp only [gRt]
      refine G_if_ne (pc := 30) (tgt := 36) dX11_termOf_30 (by decide) (fun h30 => ?_) (fun h30 => ?_)
      · refine G_iload_n (pc := 36) 2 dX11_termOf_36 rfl ?_
        have hkn : k < nI (tN S) := by
          have := (gB_ne.mp h30).2
          rw [hn3] at this
          exact Int32.not_le.mp this
        obtain ⟨j, hj, rfl⟩ : ∃ j, j < tN S ∧ k = nI j := by
          rcases pk_ix k (n := tN S) (by omega) with z | z | z
          · exact absurd z h1
          · exact absurd hkn (Int32.not_lt.mpr z)
          · exact z
        obtain ⟨c, _, c2, rfl⟩ := inI_nat (a := 0) (b := 2) (by decide) (by decide) (wi02.mp (gB_ne.mp h13))
        rw [show aTermOf S (nI j) (nI c) = S (5 + 3 * j + c) by unfold aTermOf; rw [if_pos ⟨h1, wi02.mp (gB_ne.mp h13)⟩, if_pos hkn, nI_clamp (by omega), nI_clamp (by omega)]] at hQ
        have hrow := f1.2.2.2 j hj
        rcases (show c = 0 ∨ c = 1 ∨ c = 2 by omega) with rfl | rfl | rfl
        · refine G_lookup (pc := 37) (tgt := 64) dX11_termOf_37 (by decide) rfl (by decide) ?_
          refine G_aload_n (pc := 64) 0 dX11_termOf_64 rfl ?_
          refine G_getR (pc := 65) dX11_termOf_65 fX11_10 (by assumption) (by assumption) ?_
          refine G_getR (pc := 68) dX11_termOf_68 fX11_55 (by assumption) (by assumption) ?_
          refine G_getR (pc := 71) dX11_termOf_71 fX11_99 (by assumption) (by assumption) ?_
          refine G_iload_n (pc := 74) 1 dX11_termOf_74 rfl ?_
          refine G_ialdJ (pc := 75) (j := j) dX11_termOf_75 (by assumption) rfl (by first | assumption | omega) (by decide) ?_
          rw [show i (x + 1 + 1 + 1) j = S (5 + 3 * j + 0) from hrow 0 (by decide)]
          refine G_iret (pc := 76) dX11_termOf_76 ⟨_, rfl, rfl⟩ ⟨by decide, by decide⟩ ?_
          exact hQ
        · refine G_lookup (pc := 37) (tgt := 77) dX11_termOf_37 (by decide) rfl (by decide) ?_
          refine G_aload_n (pc := 77) 0 dX11_termOf_77 rfl ?_
          refine G_getR (pc := 78) dX11_termOf_78 fX11_10 (by assumption) (by assumption) ?_
          refine G_getR (pc := 81) dX11_termOf_81 fX11_55 (by assumption) (by assumption) ?_
          refine G_getR (pc := 84) dX11_termOf_84 fX11_103 (by assumption) (by assumption) ?_
          refine G_iload_n (pc := 87) 1 dX11_termOf_87 rfl ?_
          refine G_ialdJ (pc := 88) (j := j) dX11_termOf_88 (by assumption) rfl (by first | assumption | omega) (by decide) ?_
          rw [show i (x + 1 + 1 + 2) j = S (5 + 3 * j + 1) from hrow 1 (by decide)]
          refine G_iret (pc := 89) dX11_termOf_89 ⟨_, rfl, rfl⟩ ⟨by decide, by decide⟩ ?_
          exact hQ
        · refine G_lookup (pc := 37) (tgt := 90) dX11_termOf_37 (by decide) rfl (by decide) ?_
          refine G_aload_n (pc := 90) 0 dX11_termOf_90 rfl ?_
          refine G_getR (pc := 91) dX11_termOf_91 fX11_10 (by assumption) (by assumption) ?_
          refine G_getR (pc := 94) dX11_termOf_94 fX11_55 (by assumption) (by assumption) ?_
          refine G_getR (pc := 97) dX11_termOf_97 fX11_106 (by assumption) (by assumption) ?_
          refine G_iload_n (pc := 100) 1 dX11_termOf_100 rfl ?_
          refine G_ialdJ (pc := 101) (j := j) dX11_termOf_101 (by assumption) rfl (by first | assumption | omega) (by decide) ?_
          rw [show i (x + 1 + 1 + 3) j = S (5 + 3 * j + 2) from hrow 2 (by decide)]
          refine G_iret (pc := 102) dX11_termOf_102 ⟨_, rfl, rfl⟩ ⟨by decide, by decide⟩ ?_
          exact hQ
      · refine G_ldc (pc := 33) dX11_termOf_33 kcX11_98 ?_
        refine G_iret (pc := 35) dX11_termOf_35 ⟨_, rfl, rfl⟩ ⟨by decide, by decide⟩ ?_
        have hj : ¬ k < nI (tN S) := fun z => gB_eq.mp h30 ⟨h1, by rw [hn3]; exact Int32.not_le.mpr z⟩
        rw [show aTermOf S k w = -1000004 by unfold aTermOf; rw [if_pos ⟨h1, wi02.mp (gB_ne.mp h13)⟩, if_neg hj]] at hQ
        exact hQ
    · refine G_ldc (pc := 16) dX11_termOf_16 kcX11_52 ?_
      refine G_iret (pc := 18) dX11_termOf_18 ⟨_, rfl, rfl⟩ ⟨by decide, by decide⟩ ?_
      rw [show aTermOf S k w = -1000001 from if_neg (fun z => gB_eq.mp h13 (wi02.mpr z.2))] at hQ
      exact hQ
