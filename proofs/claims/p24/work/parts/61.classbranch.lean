set_option maxRecDepth 100000 in
set_option maxHeartbeats 4000000 in
theorem c_X11_branch {Γ : gG} {T : gTy} {r : gR} {l : gLg} {i : gI} {Q : gQ} {x n : Nat} {ws : Nat → Nat} {hs : Nat → Nat → Nat} {S : Nat → Int32} {P : Nat → Nat → Int32} {w p sd : Int32} (hX : lyX T r x ws hs) (hA : gN Γ ≤ x) (hRX : rX i x ws hs S P n) (hS : vS S) (hQ : ∀ l' i', frC x i i' → rX i' x ws hs (nxS S (aBranch S w p sd).2) (nxP n P S (aBranch S w p sd).2) (nxN n (aBranch S w p sd).2) → Q (some (.int (aBranch S w p sd).1)) T r l' i') : gC Γ MX11_branch [.ref x, .int w, .int p, .int sd] T r l i Q := by
  have hX2 := hX
  have hR := hRX.1
  obtain ⟨x0, x1, x2, x3, x4, x5, x6, x7, x8, x9, x10⟩ := hX
  obtain ⟨s0, s1, s2, s3, s4, s5, s6⟩ := id x6
  obtain ⟨t0, t1, t2, t3, t4, t5, t6⟩ := id s4
  obtain ⟨f1, f2, f3, f4⟩ := stF hR hS
  have hT := hS.1
  have hE := hS.2.1
  have hn6 := hT.1.1
  have hn3 := f1.2.1
  obtain ⟨w5, w1, wk⟩ := nW_of hS
  have x7k := x7.1
  have s5k := s5.1
  obtain ⟨v0, v1, v2, v3, v4⟩ := id x8
  have v1 : r (x + 183) 0 = some (x + 184) := v1
  have v3k : (T.2 (x + 184)).1 = 0 := v3.1
  have s6k := s6.1
  have v3 : lyCo T r (x + 184) := v3
  have hB : lyC T r (x + 1) := ⟨s0, s1, s3, s4, s6⟩
  have g4 : i (x + 1 + 35) 2 = nI (tM S) := (f3 2 (by decide)).trans hE.2.2.2.2
  have m20 := hE.2.2.2.1
  have x8k := x8.1
  refine gC_of rfl (Nat.le_of_ble_eq_true rfl) (L := [(0, .ref x), (1, .int w), (2, .int p), (3, .int sd)]) rfl ?_
  refine G_aload_n (pc := 0) 0 dX11_branch_0 rfl ?_
  refine G_getR (pc := 1) dX11_branch_1 fX11_10 (by assumption) (by assumption) ?_
  refine G_getR (pc := 4) dX11_branch_4 fX11_70 (by assumption) (by assumption) ?_
  refine G_iload_n (pc := 7) 1 dX11_branch_7 rfl ?_
  refine gV1 (pc := 8) (k' := 0) (n' := 0) dX11_branch_8 lkX11_163 ⟨by decide, by decide⟩ (Nat.le_of_ble_eq_true rfl) rfl rfl ⟨by decide, by decide⟩ s5.1 (c_X10_at s5 f2.2.1 w5 ?_ ?_)
  · intro a ha haw
    subst haw
    obtain ⟨⟨z, hv⟩, hpar⟩ := wk a ha
    have hz40 := hv.2.1
    have hw := wsF f2 ha hv
    obtain ⟨wr, hW, wlo, whi⟩ := s5.2.2.2.2.2.2.2.1 a (by omega)
    have hW0 := hW.1
    have hw4 := hw.2.1
    obtain ⟨q0, q1, q2, q3, q4, q5, q6, q7, q8⟩ := id hW
    have rows := hw.2.2.2.1
    dsimp only [gRt]
    refine G_sn4 (pc := 11) (gSt_a dX11_branch_11 (by decide)) rfl ?_
    refine G_aload (pc := 13) 4 dX11_branch_13 rfl ?_
    refine G_ifnull (pc := 15) dX11_branch_15 ?_
    refine G_aload (pc := 18) 4 dX11_branch_18 rfl ?_
    refine G_iload_n (pc := 20) 2 dX11_branch_20 rfl ?_
    refine gV1 (pc := 21) (k' := 0) (n' := 0) dX11_branch_21 lkX11_167 ⟨by decide, by decide⟩ (Nat.le_of_ble_eq_true rfl) rfl rfl ⟨by decide, by decide⟩ hW0 (c_X9_has hW0 ?_)
    dsimp only [gRt]
    refine G_if_eq (pc := 24) (tgt := 34) dX11_branch_24 (by decide) (fun h24 => ?_) (fun h24 => ?_)
    · refine G_ldc (pc := 34) dX11_branch_34 kcX11_52 ?_
      refine G_iret (pc := 36) dX11_branch_36 ⟨_, rfl, rfl⟩ ⟨by decide, by decide⟩ ?_
      replace hQ := aDoneX hQ (show aBranch S (nI a) p sd = (-1000001, none) from if_neg (fun z9 => by
        obtain ⟨j, hj, rfl⟩ := (isW (m := z + 1) (by omega)).mp (by have z8 := z9.2.1; rw [nI_clamp (by omega), hv.1] at z8; exact z8)
        exact gB_eq.mp h24 ⟨nI_pos (by omega), by rw [hw4]; exact nI_ge hj (by omega)⟩))
      exact hQ l i frC.rf hRX
    · refine G_iload_n (pc := 27) 3 dX11_branch_27 rfl ?_
      refine gS1 (pc := 28) (k' := 0) (n' := 0) dX11_branch_28 lkX11_156 ⟨by decide, by decide⟩ (Nat.le_of_ble_eq_true rfl) rfl rfl ⟨by decide, by decide⟩ (c_X11_isSign ?_)
      dsimp only [gRt]
      refine G_if_ne (pc := 31) (tgt := 37) dX11_branch_31 (by decide) (fun h31 => ?_) (fun h31 => ?_)
      · refine G_aload (pc := 37) 4 dX11_branch_37 rfl ?_
        refine G_getR (pc := 39) dX11_branch_39 fX11_170 (by assumption) (by assumption) ?_
        refine G_iload_n (pc := 42) 2 dX11_branch_42 rfl ?_
        have gA : inI (nI a) 0 (S 1 - 1) := by rw [w1]; exact (isW (by omega)).mpr ⟨a, ha, rfl⟩
        have hin := gB_ne.mp h24
        rw [hw4] at hin
        obtain ⟨j, hj, rfl⟩ : ∃ j, j < z + 1 ∧ p = nI j := by
          rcases pk_ix p (n := z + 1) (by omega) with u | u | u
          · exact absurd u hin.1
          · exact absurd u hin.2
          · exact u
        have hpj : inI (nI j) 0 (S (23 + 166 * a) - 1) := by rw [hv.1]; exact (isW (m := z + 1) (by omega)).mpr ⟨j, hj, rfl⟩
        replace hQ := aDoneX hQ (show aBranch S (nI a) (nI j) sd = (if S (23 + 166 * a + 6 + 4 * j + 3) = 2 then aBrn S (nI a) (nI j) sd (j - 1) (brC S (23 + 166 * a) (j - 1) sd) else (-1000002, none)) by
          unfold aBranch
          rw [nI_clamp (by omega), nI_clamp (by omega), if_pos ⟨gA, hpj, gB_ne.mp h31⟩])
        refine G_ialdJ (pc := 43) (j := j) dX11_branch_43 (by assumption) rfl (by first | assumption | omega) (by decide) ?_
        rw [show i (ws a + 4) j = S (23 + 166 * a + 6 + 4 * j + 3) from rows j hj 3 (by decide)]
        refine G_iconst (pc := 44) (v := 2) dX11_branch_44 rfl ?_
        refine G_icmp_ne (pc := 45) (tgt := 66) dX11_branch_45 (by decide) (fun h45 => ?_) (fun h45 => ?_)
        · refine G_ldc (pc := 66) dX11_branch_66 kcX11_91 ?_
          refine G_iret (pc := 68) dX11_branch_68 ⟨_, rfl, rfl⟩ ⟨by decide, by decide⟩ ?_
          rw [if_neg h45] at hQ
          exact hQ l i frC.rf hRX
        · refine G_aload_n (pc := 48) 0 dX11_branch_48 rfl ?_
          refine G_getR (pc := 49) dX11_branch_49 fX11_26 (by assumption) (by assumption) ?_
          refine G_aload_n (pc := 52) 0 dX11_branch_52 rfl ?_
          refine G_getR (pc := 53) dX11_branch_53 fX11_10 (by assumption) (by assumption) ?_
          refine G_aload (pc := 56) 4 dX11_branch_56 rfl ?_
          refine G_iload_n (pc := 58) 2 dX11_branch_58 rfl ?_
          refine G_iload_n (pc := 59) 3 dX11_branch_59 rfl ?_
          obtain ⟨b, rfl, _⟩ := (hv.2.2.2.2.2 j (by omega)).2.2 h45
          rw [if_pos h45, Nat.add_sub_cancel] at hQ
          have q0_ : i (ws a + 1) (b + 1) = S (23 + 166 * a + 6 + 4 * (b + 1) + 0) := rows (b + 1) (by omega) 0 (by decide)
          have q1_ : i (ws a + 1) b = S (23 + 166 * a + 6 + 4 * b + 0) := rows b (by omega) 0 (by decide)
          have q2_ : i (ws a + 2) (b + 1) = S (23 + 166 * a + 6 + 4 * (b + 1) + 1) := rows (b + 1) (by omega) 1 (by decide)
          have q3_ : i (ws a + 2) b = S (23 + 166 * a + 6 + 4 * b + 1) := rows b (by omega) 1 (by decide)
          have q4_ : i (x + 1 + 35) 0 = S 2 := f3 0 (by decide)
          have hge := brR_ge hv (b := b) (by omega) h45
          obtain ⟨rt, rt1, rt2, rt3⟩ := gRoot_of hge
          have eA : (S (23 + 166 * a + 6 + 4 * (b + 1) + 0) - S (23 + 166 * a + 6 + 4 * b + 0)).toInt64 = brA S (23 + 166 * a) b := rfl
          have eB : (S (23 + 166 * a + 6 + 4 * (b + 1) + 1) - S (23 + 166 * a + 6 + 4 * b + 1)).toInt64 = brB S (23 + 166 * a) b := rfl
          have bB : bd (brB S (23 + 166 * a) b) 2048 := sub_bd (hv.2.2.2.2.2 (b + 1) (by omega)).2.1 (hv.2.2.2.2.2 b (by omega)).2.1
          have bS : bd ((S 2).toInt64 * sd.toInt64) (64 * 1) := by
            obtain ⟨⟨w9, w8, w7, w6⟩, _⟩ := hE
            refine bd_mul (a := 64) (b := 1) ?_ (bd_sg (gB_ne.mp h31)) (by decide)
            rw [w6]; exact bd_mono (bd_nI (by omega)) w7
          have hbr : brC S (23 + 166 * a) b sd = gCor (tF S) (tP S) (tQ S) (tN S) (tM S) 0 ((S (23 + 166 * a + 6 + 4 * (b + 1) + 0)).toInt64 + (S 2).toInt64 * sd.toInt64 * (-brB S (23 + 166 * a) b) / gRoot (brA S (23 + 166 * a) b * brA S (23 + 166 * a) b + brB S (23 + 166 * a) b * brB S (23 + 166 * a) b)) ((S (23 + 166 * a + 6 + 4 * (b + 1) + 1)).toInt64 + (S 2).toInt64 * sd.toInt64 * brA S (23 + 166 * a) b / gRoot (brA S (23 + 166 * a) b * brA S (23 + 166 * a) b + brB S (23 + 166 * a) b * brB S (23 + 166 * a) b)) := by
            unfold brC
            rw [rt3, Int64.mul_neg, add_negdiv (bd_mul bS bB (by decide)) (by decide) rt2]
          refine gV4 (pc := 60) (k' := 0) (n' := 0) dX11_branch_60 lkX11_173 ⟨by decide, by decide⟩ (Nat.le_of_ble_eq_true rfl) rfl rfl ⟨by decide, by decide⟩ x8.1 (c_X2_leavesCrossing (f := tF S) (p := tP S) (q := tQ S) (n := tN S) (m := tM S) (y := z + 1) (k := b) x8 (by omega) hB hW f4 g4 (by omega) hw4 hz40 (by omega) (by rw [q0_, q1_, q2_, q3_, eA, eB]; exact gRoot_n0 hge) ?_ ?_)
          · intro hc l1 hl1
            rw [q0_, q1_, q2_, q3_, q4_, eA, eB, ← hbr] at hc
            rw [hc] at hQ
            replace hQ := aDoneX hQ (show aBrn S (nI a) (nI (b + 1)) sd b none = (-1000002, none) from rfl)
            dsimp only [gRt]
            refine G_if_ne (pc := 63) (tgt := 69) dX11_branch_63 (by decide) (fun h63 => ?_) (fun h63 => ?_)
            · exact absurd rfl h63
            · refine G_ldc (pc := 66) dX11_branch_66 kcX11_91 ?_
              refine G_iret (pc := 68) dX11_branch_68 ⟨_, rfl, rfl⟩ ⟨by decide, by decide⟩ ?_
              exact hQ l1 i frC.rf hRX
          · intro c hc l1 hl1 m1 m2
            rw [q0_, q1_, q2_, q3_, q4_, eA, eB, ← hbr] at hc
            rw [hc] at hQ
            replace hQ := aDoneX hQ (show aBrn S (nI a) (nI (b + 1)) sd b (some c) = aOpen S (brS S (23 + 166 * a) b sd c) (nI a) (nI (b + 1)) (some c) by unfold aBrn; rw [nI_clamp (by omega)])
            have es : (if (gSum (tF S) (tP S) (tQ S) c.1 c.2.1 1 (tN S) * (i (ws a + 1) (b + 1) - i (ws a + 1) b).toInt64 + gSum (tF S) (tP S) (tQ S) c.1 c.2.1 2 (tN S) * (i (ws a + 2) (b + 1) - i (ws a + 2) b).toInt64) * sd.toInt64 < 0 then (-1 : Int32) else 1) = brS S (23 + 166 * a) b sd c := by rw [q0_, q1_, q2_, q3_]; rfl
            have ec : ∀ d, d ≠ x + 184 → cr3 i (x + 184) c.1.toInt32 c.2.1.toInt32 (nI c.2.2) d = i d := fun d hd => by unfold cr3; simp (disch := omega) only [up2_ne]
            have c1 : cr3 i (x + 184) c.1.toInt32 c.2.1.toInt32 (nI c.2.2) (x + 184) 1 = c.1.toInt32 := by unfold cr3; simp (disch := omega) only [up2_row, up2_self]
            have c2 : cr3 i (x + 184) c.1.toInt32 c.2.1.toInt32 (nI c.2.2) (x + 184) 2 = c.2.1.toInt32 := by unfold cr3; simp (disch := omega) only [up2_row, up2_self]
            have c3 : cr3 i (x + 184) c.1.toInt32 c.2.1.toInt32 (nI c.2.2) (x + 184) 3 = nI c.2.2 := by unfold cr3; simp (disch := omega) only [up2_self]
            generalize cr3 i (x + 184) c.1.toInt32 c.2.1.toInt32 (nI c.2.2) = i2 at ec c1 c2 c3 ⊢
            have fr2 : frC x i i2 := fun d hd => ec d (by omega)
            have hr2 : rX i2 x ws hs S P n := hRX.hist hX2 (fun d d1 d2 => ec d (by omega)) (hRX.1.kept x6 (fun d d1 d2 => ec d (by omega)))
            dsimp only [gRt]
            refine G_if_ne (pc := 63) (tgt := 69) dX11_branch_63 (by decide) (fun h63 => ?_) (fun h63 => ?_)
            · refine G_aload_n (pc := 69) 0 dX11_branch_69 rfl ?_
              refine G_aload_n (pc := 70) 0 dX11_branch_70 rfl ?_
              refine G_getR (pc := 71) dX11_branch_71 fX11_26 (by assumption) (by assumption) ?_
              refine G_aload (pc := 74) 4 dX11_branch_74 rfl ?_
              refine G_iload_n (pc := 76) 2 dX11_branch_76 rfl ?_
              refine G_iload_n (pc := 77) 3 dX11_branch_77 rfl ?_
              refine gV3 (pc := 78) (k' := 0) (n' := 0) dX11_branch_78 lkX11_177 ⟨by decide, by decide⟩ (Nat.le_of_ble_eq_true rfl) rfl rfl ⟨by decide, by decide⟩ x8.1 (c_X2_signBeside (y := z + 1) (k := b) x8 hW (by rw [ec (ws a) (by omega)]; exact hw4) hz40 (by omega) ?_)
              dsimp only [gRt]
              rw [ec (ws a + 1) (by omega), ec (ws a + 2) (by omega), m1, m2, es]
              refine G_iload_n (pc := 81) 1 dX11_branch_81 rfl ?_
              refine G_iload_n (pc := 82) 2 dX11_branch_82 rfl ?_
              refine gV3 (pc := 83) (k' := 0) (n' := 0) dX11_branch_83 lkX11_159 ⟨by decide, by decide⟩ (Nat.le_of_ble_eq_true rfl) rfl rfl ⟨by decide, by decide⟩ (by assumption) (c_X11_startWalk (c := c) hX2 hA hr2 hS c1 c2 c3 ?_)
              intro l' i' g1 g2
              dsimp only [gRt]
              refine G_iret (pc := 86) dX11_branch_86 ⟨_, rfl, rfl⟩ ⟨by decide, by decide⟩ ?_
              exact hQ l' i' (fr2.tr g1) g2
            · exact absurd h63 (by decide)
      · refine G_ldc (pc := 34) dX11_branch_34 kcX11_52 ?_
        refine G_iret (pc := 36) dX11_branch_36 ⟨_, rfl, rfl⟩ ⟨by decide, by decide⟩ ?_
        replace hQ := aDoneX hQ (show aBranch S (nI a) p sd = (-1000001, none) from if_neg (fun z9 => gB_eq.mp h31 z9.2.2))
        exact hQ l i frC.rf hRX
  · intro hno
    have hnw : ¬ inI w 0 (S 1 - 1) := fun u => by
      obtain ⟨k9, k1, k2⟩ := (isW (m := nW S) (by omega)).mp (w1 ▸ u)
      exact hno k9 k1 k2
    dsimp only [gRt]
    refine G_sn4 (pc := 11) (gSt_aN dX11_branch_11 (by decide)) rfl ?_
    refine G_aloadN (pc := 13) 4 dX11_branch_13 rfl ?_
    refine G_ifnullN (pc := 15) (tgt := 34) dX11_branch_15 (by decide) ?_
    refine G_ldc (pc := 34) dX11_branch_34 kcX11_52 ?_
    refine G_iret (pc := 36) dX11_branch_36 ⟨_, rfl, rfl⟩ ⟨by decide, by decide⟩ ?_
    replace hQ := aDoneX hQ (show aBranch S w p sd = (-1000001, none) from if_neg (fun z => hnw z.1))
    exact hQ l i frC.rf hRX
