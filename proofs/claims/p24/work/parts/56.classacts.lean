/-! the class acts -/
/-- all but what it works with stays -/
def frC (x : Nat) (i i' : gI) : Prop := ∀ c, c < x + 1 ∨ c = x + 187 ∨ c = x + 188 ∨ x + 194 ≤ c → i' c = i c
theorem frC.of {x lo hi : Nat} {i i' : gI} (h : frR lo hi i i') (h1 : x + 1 ≤ lo) (h2 : hi ≤ x + 187) : frC x i i' := fun c hc => h c (by omega)
theorem frC.tr {x : Nat} {i j k : gI} (h : frC x i j) (g : frC x j k) : frC x i k := fun c hc => (g c hc).trans (h c hc)
theorem frC.rf {x : Nat} {i : gI} : frC x i i := fun _ _ => rfl
theorem frC.put {x a j : Nat} {i i' : gI} {v : Int32} (h : frC x i i') (h1 : x + 1 ≤ a) (h2 : a < x + 187) : frC x i (up2 i' a j v) := fun c hc => by rw [up2_ne (by omega)]; exact h c hc
theorem c_keepX {Γ : gG} {T : gTy} {r : gR} {l : gLg} {i : gI} {Q : gQ} {x n : Nat} {ws : Nat → Nat} {hs : Nat → Nat → Nat} {S : Nat → Int32} {P : Nat → Nat → Int32} (hX : lyX T r x ws hs) (hA : gN Γ ≤ x) (hR : rX i x ws hs S P n)
  (hQ : ∀ i', frR (x + 37) (x + 183) i i' → rX i' x ws hs S (psP n P S) (psN n) → Q none T r l i') : gC Γ MX1_keep [.ref (x + 37), .ref (x + 1)] T r l i Q := by
  obtain ⟨h1, o, h2⟩ := hR
  have n4 := h2.2.1
  refine c_X1_keep hX.2.2.2.2.2.2.2.1 hX.2.2.2.2.2.2.1 (by omega) (by omega) h2 h1 ?_
  intro i' a' n' hs' g1 g2 g3 g4
  refine hQ i' (fun c hc => g1 c (by omega)) ⟨h1.kept hX.2.2.2.2.2.2.1 (fun c c1 c2 => g1 c (by omega)), a', ?_⟩
  by_cases hn : n < 4
  · obtain ⟨e1, e2⟩ := g3 hn
    rw [psP, psN, if_pos hn, if_pos hn, ← e1, ← e2]; exact g2
  · obtain ⟨e1, e2⟩ := g4 (by omega)
    rw [psP, psN, if_neg hn, if_neg hn, ← e2, ← e1]; exact g2
theorem rX.hist {T : gTy} {r : gR} {i i' : gI} {x n : Nat} {ws : Nat → Nat} {hs : Nat → Nat → Nat} {S S' : Nat → Int32} {P : Nat → Nat → Int32} (h : rX i x ws hs S P n) (hX : lyX T r x ws hs) (hf : ∀ c, x + 37 ≤ c → c < x + 183 → i' c = i c) (hn : rpSt i' (x + 1) ws S') : rX i' x ws hs S' P n := by
  obtain ⟨_, o, h2⟩ := h
  exact ⟨hn, o, h2.kept hX.2.2.2.2.2.2.2.1 (fun c c1 c2 => hf c (by omega) (by omega))⟩
theorem aDoneX {S : Nat → Int32} {P : Nat → Nat → Int32} {n x : Nat} {ws : Nat → Nat} {hs : Nat → Nat → Nat} {i : gI} {Q : gQ} {T : gTy} {r : gR} {A B : aRes} (hQ : ∀ l' i', frC x i i' → rX i' x ws hs (nxS S A.2) (nxP n P S A.2) (nxN n A.2) → Q (some (.int A.1)) T r l' i') (h : A = B) : ∀ l' i', frC x i i' → rX i' x ws hs (nxS S B.2) (nxP n P S B.2) (nxN n B.2) → Q (some (.int B.1)) T r l' i' := by
  subst h; exact hQ
theorem wi55 {x : Int32} : (¬ x.toInt64 < -5 ∧ ¬ 5 < x.toInt64) ↔ inI x (-5) 5 := by
  have h := wi (x := x) (a := -5) (b := 5)
  rw [show (-5 : Int32).toInt64 = -5 by decide +kernel, show (5 : Int32).toInt64 = 5 by decide +kernel] at h
  exact h
theorem wi40 {x : Int32} : (¬ x.toInt64 < 1 ∧ ¬ 40 < x.toInt64) ↔ inI x 1 40 := wi (a := 1) (b := 40)
/-- a term more -/
theorem adX_rp {i : gI} {b n : Nat} {ws : Nat → Nat} {S : Nat → Int32} {f u v : Int32} (h1 : rpT i (b + 1) S n) (h3 : rpS i (b + 34) S) (hn : n < 6) : rpSt (adT (up2 i (b + 5) 3 0) (b + 1) n f u v) b ws (adF S n f u v) := by
  refine ⟨n + 1, 0, ⟨by omega, ?_, adF_0, fun k hk c hc => ?_⟩, ⟨by decide, ?_, ?_, fun k hk => absurd hk (Nat.not_lt_zero k)⟩, fun c hc => ?_⟩
  · unfold adT; rw [up2_self]
  · unfold adT adF
    by_cases hkn : k = n
    · subst hkn
      rcases (show c = 0 ∨ c = 1 ∨ c = 2 by omega) with rfl | rfl | rfl <;> simp (disch := omega) only [up2_ne, up2_self, upd_o, upd_s, Nat.add_zero]
    · have g := h1.2.2.2 k (by omega) c hc
      rcases (show c = 0 ∨ c = 1 ∨ c = 2 by omega) with rfl | rfl | rfl <;> simp (disch := omega) only [up2_ne, up2_row, upd_o, Nat.add_zero] at g ⊢ <;> exact g
  · unfold adT; simp (disch := omega) only [up2_ne, up2_self]; rfl
  · unfold adF; rw [upd_s]; rfl
  · have g := h3 c hc
    unfold adT adF
    simp (disch := omega) only [up2_ne, upd_o]
    exact g
set_option maxRecDepth 100000 in
set_option maxHeartbeats 4000000 in
theorem c_X11_term {Γ : gG} {T : gTy} {r : gR} {l : gLg} {i : gI} {Q : gQ} {x n : Nat} {ws : Nat → Nat} {hs : Nat → Nat → Nat} {S : Nat → Int32} {P : Nat → Nat → Int32} {f u v : Int32} (hX : lyX T r x ws hs) (hA : gN Γ ≤ x) (hRX : rX i x ws hs S P n) (hS : vS S) (hQ : ∀ l' i', frC x i i' → rX i' x ws hs (nxS S (aTerm S f u v).2) (nxP n P S (aTerm S f u v).2) (nxN n (aTerm S f u v).2) → Q (some (.int (aTerm S f u v).1)) T r l' i') : gC Γ MX11_term [.ref x, .int f, .int u, .int v] T r l i Q := by
  have hX2 := hX
  have hR := hRX.1
  obtain ⟨x0, x1, x2, x3, x4, x5, x6, x7, x8, x9, x10⟩ := hX
  obtain ⟨s0, s1, s2, s3, s4, s5, s6⟩ := id x6
  obtain ⟨t0, t1, t2, t3, t4, t5, t6⟩ := id s4
  obtain ⟨f1, f2, f3, f4⟩ := stF hR hS
  have hT := hS.1
  have hE := hS.2.1
  have hn6 := hT.1.1
  have hn3 := f1.2.1
  obtain ⟨w5, w1, wk⟩ := nW_of hS
  have x7k := x7.1
  have s5k := s5.1
  refine gC_of rfl (Nat.le_of_ble_eq_true rfl) (L := [(0, .ref x), (1, .int f), (2, .int u), (3, .int v)]) rfl ?_
  refine G_iload_n (pc := 0) 1 dX11_term_0 rfl ?_
  refine G_if_eq (pc := 1) (tgt := 18) dX11_term_1 (by decide) (fun h1 => ?_) (fun h1 => ?_)
  · refine G_ldc (pc := 18) dX11_term_18 kcX11_52 ?_
    refine G_iret (pc := 20) dX11_term_20 ⟨_, rfl, rfl⟩ ⟨by decide, by decide⟩ ?_
    replace hQ := aDoneX hQ (show aTerm S f u v = (-1000001, none) from if_neg (fun z => z.2.1 h1))
    exact hQ l i frC.rf hRX
  · refine G_iload_n (pc := 4) 1 dX11_term_4 rfl ?_
    refine G_i2l (pc := 5) dX11_term_5 ?_
    refine G_ldc2 (pc := 6) dX11_term_6 kcX11_44 ?_
    refine G_ldc2 (pc := 9) dX11_term_9 kcX11_46 ?_
    refine gS3 (pc := 12) (k' := 0) (n' := 0) dX11_term_12 lkX11_48 ⟨by decide, by decide⟩ (Nat.le_of_ble_eq_true rfl) rfl rfl ⟨by decide, by decide⟩ (c_X11_isWithin ?_)
    dsimp only [gRt]
    refine G_if_ne (pc := 15) (tgt := 21) dX11_term_15 (by decide) (fun h15 => ?_) (fun h15 => ?_)
    · refine G_iload_n (pc := 21) 2 dX11_term_21 rfl ?_
      refine G_i2l (pc := 22) dX11_term_22 ?_
      refine G_lconst (pc := 23) (v := 0) dX11_term_23 rfl ?_
      refine G_ldc2 (pc := 24) dX11_term_24 kcX11_53 ?_
      refine gS3 (pc := 27) (k' := 0) (n' := 0) dX11_term_27 lkX11_48 ⟨by decide, by decide⟩ (Nat.le_of_ble_eq_true rfl) rfl rfl ⟨by decide, by decide⟩ (c_X11_isWithin ?_)
      dsimp only [gRt]
      refine G_if_eq (pc := 30) (tgt := 52) dX11_term_30 (by decide) (fun h30 => ?_) (fun h30 => ?_)
      · refine G_ldc (pc := 52) dX11_term_52 kcX11_52 ?_
        refine G_iret (pc := 54) dX11_term_54 ⟨_, rfl, rfl⟩ ⟨by decide, by decide⟩ ?_
        replace hQ := aDoneX hQ (show aTerm S f u v = (-1000001, none) from if_neg (fun z => gB_eq.mp h30 (wi03.mpr z.2.2.1)))
        exact hQ l i frC.rf hRX
      · refine G_iload_n (pc := 33) 3 dX11_term_33 rfl ?_
        refine G_i2l (pc := 34) dX11_term_34 ?_
        refine G_lconst (pc := 35) (v := 0) dX11_term_35 rfl ?_
        refine G_ldc2 (pc := 36) dX11_term_36 kcX11_53 ?_
        refine gS3 (pc := 39) (k' := 0) (n' := 0) dX11_term_39 lkX11_48 ⟨by decide, by decide⟩ (Nat.le_of_ble_eq_true rfl) rfl rfl ⟨by decide, by decide⟩ (c_X11_isWithin ?_)
        dsimp only [gRt]
        refine G_if_eq (pc := 42) (tgt := 52) dX11_term_42 (by decide) (fun h42 => ?_) (fun h42 => ?_)
        · refine G_ldc (pc := 52) dX11_term_52 kcX11_52 ?_
          refine G_iret (pc := 54) dX11_term_54 ⟨_, rfl, rfl⟩ ⟨by decide, by decide⟩ ?_
          replace hQ := aDoneX hQ (show aTerm S f u v = (-1000001, none) from if_neg (fun z => gB_eq.mp h42 (wi03.mpr z.2.2.2.1)))
          exact hQ l i frC.rf hRX
        · refine G_iload_n (pc := 45) 2 dX11_term_45 rfl ?_
          refine G_iload_n (pc := 46) 3 dX11_term_46 rfl ?_
          refine G_iadd (pc := 47) dX11_term_47 ?_
          refine G_iconst (pc := 48) (v := 3) dX11_term_48 rfl ?_
          refine G_icmp_le (pc := 49) (tgt := 55) dX11_term_49 (by decide) (fun h49 => ?_) (fun h49 => ?_)
          · refine G_aload_n (pc := 55) 0 dX11_term_55 rfl ?_
            refine G_getR (pc := 56) dX11_term_56 fX11_10 (by assumption) (by assumption) ?_
            refine G_getR (pc := 59) dX11_term_59 fX11_55 (by assumption) (by assumption) ?_
            refine gV0 (pc := 62) (k' := 0) (n' := 0) dX11_term_62 lkX11_59 ⟨by decide, by decide⟩ (Nat.le_of_ble_eq_true rfl) rfl rfl ⟨by decide, by decide⟩ s4.1 (c_X7_isFull s4.1 ?_)
            dsimp only [gRt]
            refine G_if_eq (pc := 65) (tgt := 71) dX11_term_65 (by decide) (fun h65 => ?_) (fun h65 => ?_)
            · refine G_aload_n (pc := 71) 0 dX11_term_71 rfl ?_
              refine G_getR (pc := 72) dX11_term_72 fX11_19 (by assumption) (by assumption) ?_
              refine G_aload_n (pc := 75) 0 dX11_term_75 rfl ?_
              refine G_getR (pc := 76) dX11_term_76 fX11_10 (by assumption) (by assumption) ?_
              refine gV1 (pc := 79) (k' := 0) (n' := 0) dX11_term_79 lkX11_66 ⟨by decide, by decide⟩ (Nat.le_of_ble_eq_true rfl) rfl rfl ⟨by decide, by decide⟩ x7k (c_keepX hX2 hA hRX ?_)
              intro i1 k1 k2
              dsimp only [gRt]
              refine G_aload_n (pc := 82) 0 dX11_term_82 rfl ?_
              refine G_getR (pc := 83) dX11_term_83 fX11_10 (by assumption) (by assumption) ?_
              refine G_getR (pc := 86) dX11_term_86 fX11_70 (by assumption) (by assumption) ?_
              refine gV0 (pc := 89) (k' := 0) (n' := 0) dX11_term_89 lkX11_74 ⟨by decide, by decide⟩ (Nat.le_of_ble_eq_true rfl) rfl rfl ⟨by decide, by decide⟩ s5k (c_X10_clear s5.1 (by omega) ?_)
              dsimp only [gRt]
              refine G_aload_n (pc := 92) 0 dX11_term_92 rfl ?_
              refine G_getR (pc := 93) dX11_term_93 fX11_10 (by assumption) (by assumption) ?_
              refine G_getR (pc := 96) dX11_term_96 fX11_55 (by assumption) (by assumption) ?_
              refine G_iload_n (pc := 99) 1 dX11_term_99 rfl ?_
              refine G_iload_n (pc := 100) 2 dX11_term_100 rfl ?_
              refine G_iload_n (pc := 101) 3 dX11_term_101 rfl ?_
              have h6 : tN S < 6 := by
                have := gB_eq.mp h65
                rw [hn3] at this
                rcases Nat.lt_or_ge (tN S) 6 with z | z
                · exact z
                · exact absurd this (fun w => w (by rw [show tN S = 6 by omega]; decide))
              obtain ⟨j1, j2, j3, j4⟩ := stF k2.1 hS
              refine gV3 (pc := 102) (k' := 0) (n' := 0) dX11_term_102 lkX11_79 ⟨by decide, by decide⟩ (Nat.le_of_ble_eq_true rfl) rfl rfl ⟨by decide, by decide⟩ s4.1 (c_X7_add (n := tN S) s4 (by omega) (by rw [up2_ne (by omega)]; exact j1.2.1) h6 ?_)
              dsimp only [gRt]
              refine G_aload_n (pc := 105) 0 dX11_term_105 rfl ?_
              refine G_getR (pc := 106) dX11_term_106 fX11_10 (by assumption) (by assumption) ?_
              refine G_getR (pc := 109) dX11_term_109 fX11_55 (by assumption) (by assumption) ?_
              refine G_getI (pc := 112) dX11_term_112 fX11_83 (by assumption) ?_
              rw [show adT (up2 i1 (x + 1 + 5) 3 0) (x + 1 + 1) (tN S) f u v (x + 1 + 1) 3 = nI (tN S + 1) by unfold adT; exact up2_self _ _ _ _]
              refine G_iret (pc := 115) dX11_term_115 ⟨_, rfl, rfl⟩ ⟨by decide, by decide⟩ ?_
              have hok : okT f u v := ⟨wi55.mp (gB_ne.mp h15), h1, wi03.mp (gB_ne.mp h30), wi03.mp (gB_ne.mp h42), h49⟩
              replace hQ := aDoneX hQ (show aTerm S f u v = (nI (tN S + 1), some (adF S (tN S) f u v)) by unfold aTerm; rw [if_pos hok, if_neg (by omega)])
              have hf : ∀ c, c ≠ x + 1 + 1 → c ≠ x + 1 + 1 + 1 → c ≠ x + 1 + 1 + 2 → c ≠ x + 1 + 1 + 3 → c ≠ x + 1 + 5 → adT (up2 i1 (x + 1 + 5) 3 0) (x + 1 + 1) (tN S) f u v c = i1 c := fun c c1 c2 c3 c4 c5 => by unfold adT; simp (disch := omega) only [up2_ne]
              exact hQ l _ ((frC.of k1 (by omega) (by omega)).tr (fun c hc => hf c (by omega) (by omega) (by omega) (by omega) (by omega))) (k2.hist hX2 (fun c c1 c2 => hf c (by omega) (by omega) (by omega) (by omega) (by omega)) (adX_rp j1 j3 h6))
            · refine G_ldc (pc := 68) dX11_term_68 kcX11_65 ?_
              refine G_iret (pc := 70) dX11_term_70 ⟨_, rfl, rfl⟩ ⟨by decide, by decide⟩ ?_
              have hok : okT f u v := ⟨wi55.mp (gB_ne.mp h15), h1, wi03.mp (gB_ne.mp h30), wi03.mp (gB_ne.mp h42), h49⟩
              have h6 : tN S = 6 := by
                have := gB_ne.mp h65
                rw [hn3] at this
                rcases Nat.lt_or_ge (tN S) 6 with z | z
                · exact absurd (nI_lt (b := 6) z (by decide)) this
                · omega
              replace hQ := aDoneX hQ (show aTerm S f u v = (-1000003, none) by unfold aTerm; rw [if_pos hok, if_pos h6])
              exact hQ l i frC.rf hRX
          · refine G_ldc (pc := 52) dX11_term_52 kcX11_52 ?_
            refine G_iret (pc := 54) dX11_term_54 ⟨_, rfl, rfl⟩ ⟨by decide, by decide⟩ ?_
            replace hQ := aDoneX hQ (show aTerm S f u v = (-1000001, none) from if_neg (fun z => h49 z.2.2.2.2))
            exact hQ l i frC.rf hRX
    · refine G_ldc (pc := 18) dX11_term_18 kcX11_52 ?_
      refine G_iret (pc := 20) dX11_term_20 ⟨_, rfl, rfl⟩ ⟨by decide, by decide⟩ ?_
      replace hQ := aDoneX hQ (show aTerm S f u v = (-1000001, none) from if_neg (fun z => gB_eq.mp h15 (wi55.mpr z.1)))
      exact hQ l i frC.rf hRX
