/-! a family goes: those that stay close up, in their order -/
theorem lyW.kept {T : gTy} {r r' : gR} {a : Nat} (h : lyW T r a) (hr : r' a = r a) : lyW T r' a := by
  obtain ⟨h0, h1, h2, h3, h4, h5⟩ := h
  exact ⟨h0, by rw [hr]; exact h1, by rw [hr]; exact h2, by rw [hr]; exact h3, by rw [hr]; exact h4, h5⟩
theorem lyWs.swap {T : gTy} {r : gR} {a p q : Nat} {w : Nat → Nat} (h : lyWs T r a w) (hp : p < 5) (hq : q < 5) : lyWs T (up2 (up2 r (a + 1) p (some (w q))) (a + 1) q (some (w p))) a (fun j => if j = q then w p else if j = p then w q else w j) := by
  obtain ⟨s0, s1, s2, s3, s4, s5, s6, s7, s8⟩ := h
  have hne : ∀ c, c ≠ a + 1 → up2 (up2 r (a + 1) p (some (w q))) (a + 1) q (some (w p)) c = r c := fun c hc => by rw [up2_ne hc, up2_ne hc]
  refine ⟨s0, by rw [hne a (by omega)]; exact s1, by rw [hne a (by omega)]; exact s2, by rw [hne a (by omega)]; exact s3, s4, s5, s6, fun j hj => ?_, fun j1 j2 h1 h2 h12 => ?_⟩
  · by_cases e1 : j = q
    · subst e1
      obtain ⟨-, g2, g3, g4⟩ := s7 p hp
      simp only [if_true]
      exact ⟨up2_self _ _ _ _, g2.kept (hne _ (by omega)), g3, g4⟩
    · by_cases e2 : j = p
      · subst e2
        obtain ⟨-, g2, g3, g4⟩ := s7 q hq
        simp only [if_neg e1, if_true]
        exact ⟨by rw [up2_row e1, up2_self], g2.kept (hne _ (by omega)), g3, g4⟩
      · obtain ⟨g1, g2, g3, g4⟩ := s7 j hj
        simp only [if_neg e1, if_neg e2]
        exact ⟨by rw [up2_row e1, up2_row e2]; exact g1, g2.kept (hne _ (by omega)), g3, g4⟩
  · by_cases a1 : j1 = q <;> by_cases a2 : j2 = q
    · exact absurd (a1.trans a2.symm) h12
    · subst a1; simp only [if_true, if_neg a2]
      by_cases b2 : j2 = p
      · simp only [b2, if_true]; exact s8 p j1 hp hq (fun z => a2 (b2.trans z))
      · simp only [if_neg b2]; exact s8 p j2 hp h2 (fun z => b2 z.symm)
    · subst a2; simp only [if_true, if_neg a1]
      by_cases b1 : j1 = p
      · simp only [b1, if_true]; exact s8 j2 p hq hp (fun z => a1 (b1.trans z.symm))
      · simp only [if_neg b1]; exact s8 j1 p h1 hp b1
    · simp only [if_neg a1, if_neg a2]
      by_cases b1 : j1 = p <;> by_cases b2 : j2 = p
      · exact absurd (b1.trans b2.symm) h12
      · simp only [b1, if_true, if_neg b2]; exact s8 q j2 hq h2 (fun z => a2 z.symm)
      · simp only [b2, if_true, if_neg b1]; exact s8 j1 q h1 hq a1
      · simp only [if_neg b1, if_neg b2]; exact s8 j1 j2 h1 h2 h12
/-- a kept walk's new parent -/
def nPar (pr : Nat → Int32) (k j : Nat) : Int32 := if ¬ pr j < 0 ∧ pr j < nI j then nI (kc pr k (pr j).toNatClampNeg) else pr j
/-- j walks are through: the kept ones stand first, w1 tells where -/
def rmd (T : gTy) (pr : Nat → Int32) (k a j m : Nat) (w w1 : Nat → Nat) (i i' : gI) (r r' : gR) : Prop :=
  (∀ c, c ≠ a + 1 → r' c = r c) ∧ lyWs T r' a w1 ∧ (∀ q, j ≤ q → q < 5 → w1 q = w q) ∧ (∀ p, p < j → ¬ fam pr k p = true → w1 (kc pr k p) = w p) ∧
  (∀ q, q < m → i' (a + 2) q = gB (fam pr k q = true)) ∧ (∀ p, p < j → ¬ fam pr k p = true → i' (a + 3) p = nI (kc pr k p)) ∧
  frR a (a + 29) i i' ∧ i' a 3 = i a 3 ∧ (∀ p, p < m → ∀ c, w p < c → c < w p + 5 → i' c = i c) ∧ (∀ p, p < m → ∀ x, x ≠ 8 → i' (w p) x = i (w p) x) ∧
  (∀ p, j ≤ p → p < m → i' (w p) 8 = i (w p) 8) ∧ ∀ p, p < j → ¬ fam pr k p = true → i' (w p) 8 = nPar pr k p
theorem rmd.skip {T : gTy} {pr : Nat → Int32} {k a j m : Nat} {w w1 : Nat → Nat} {i i' : gI} {r r' : gR} (h : rmd T pr k a j m w w1 i i' r r') (hf : fam pr k j = true) : rmd T pr k a (j + 1) m w w1 i i' r r' := by
  obtain ⟨h1, h2, h3, h4, h5, h6, h7, h8, h9, h10, h11, h12⟩ := h
  exact ⟨h1, h2, fun q hq => h3 q (by omega), fun p hp hn => h4 p (by rcases Nat.lt_or_ge p j with z | z; exact z; exact absurd hf (by rw [show j = p by omega]; exact hn)) hn, h5, fun p hp hn => h6 p (by rcases Nat.lt_or_ge p j with z | z; exact z; exact absurd hf (by rw [show j = p by omega]; exact hn)) hn, h7, h8, h9, h10, fun p hp => h11 p (by omega), fun p hp hn => h12 p (by rcases Nat.lt_or_ge p j with z | z; exact z; exact absurd hf (by rw [show j = p by omega]; exact hn)) hn⟩
theorem rmd.keep {T : gTy} {pr : Nat → Int32} {k a j m : Nat} {w w1 : Nat → Nat} {i i' : gI} {r r0 r' : gR} (h : rmd T pr k a j m w w1 i i' r r') (hl : lyWs T r0 a w) (hm : m ≤ 5) (hj : j < m) (hf : ¬ fam pr k j = true) {i2 : gI} (hi2 : i2 = up2 i' (a + 3) j (nI (kc pr k j)) ∧ nPar pr k j = i (w j) 8 ∨ i2 = up2 (up2 i' (a + 3) j (nI (kc pr k j))) (w j) 8 (nPar pr k j)) :
    rmd T pr k a (j + 1) m w (fun q => if q = kc pr k j then w1 j else if q = j then w1 (kc pr k j) else w1 q) i i2 r (up2 (up2 r' (a + 1) j (some (w1 (kc pr k j)))) (a + 1) (kc pr k j) (some (w1 j))) := by
  obtain ⟨h1, h2, h3, h4, h5, h6, h7, h8, h9, h10, h11, h12⟩ := h
  have hkj := kc_le pr k j
  obtain ⟨-, -, -, -, -, -, -, s7, s8⟩ := hl
  have wj := s7 j (by omega)
  have e3 : ∀ c, c ≠ a + 3 → c ≠ w j → i2 c = i' c := fun c c1 c2 => by rcases hi2 with ⟨z, _⟩ | z <;> rw [z]; rw [up2_ne c1]; rw [up2_ne c2, up2_ne c1]
  have e8 : ∀ x, x ≠ 8 → i2 (w j) x = i' (w j) x := fun x hx => by rcases hi2 with ⟨z, _⟩ | z <;> rw [z]; rw [up2_ne (by omega)]; rw [up2_row hx, up2_ne (by omega)]
  have ea : i2 (a + 3) = fun q => if q = j then nI (kc pr k j) else i' (a + 3) q := by rcases hi2 with ⟨z, _⟩ | z <;> rw [z]; rw [up2_at]; rw [up2_ne (by omega), up2_at]
  have ep : i2 (w j) 8 = nPar pr k j := by
    rcases hi2 with ⟨z, y⟩ | z <;> rw [z]
    · rw [up2_ne (by omega), h11 j (Nat.le_refl j) hj, y]
    · rw [up2_self]
  have wne : ∀ p, p < m → p ≠ j → ∀ c, w p ≤ c → c < w p + 5 → c ≠ w j ∧ c ≠ a + 3 := fun p hp hpj c c1 c2 => by
    have := s8 p j (by omega) (by omega) hpj
    have := (s7 p (by omega)).2.2.1
    omega
  refine ⟨fun c hc => by rw [up2_ne hc, up2_ne hc]; exact h1 c hc, h2.swap (p := j) (q := kc pr k j) (by omega) (by omega), fun q hq q5 => ?_, fun p hp hn => ?_, fun q hq => by rw [e3 (a + 2) (by omega) (by omega)]; exact h5 q hq, fun p hp hn => ?_, fun c hc => by rw [e3 c (by omega) (by omega)]; exact h7 c hc, by rw [e3 a (by omega) (by omega)]; exact h8, fun p hp c c1 c2 => ?_, fun p hp x hx => ?_, fun p hp hpm => ?_, fun p hp hn => ?_⟩
  · show (if q = kc pr k j then w1 j else if q = j then w1 (kc pr k j) else w1 q) = w q
    rw [if_neg (by omega), if_neg (by omega)]; exact h3 q (by omega) q5
  · show (if kc pr k p = kc pr k j then w1 j else if kc pr k p = j then w1 (kc pr k j) else w1 (kc pr k p)) = w p
    by_cases e : p = j
    · subst e; rw [if_pos rfl]; exact h3 p (Nat.le_refl p) (by omega)
    · have := kc_lt (pr := pr) (k := k) (p := p) (j := j) (by omega) hn
      rw [if_neg (by omega), if_neg (by omega)]
      exact h4 p (by omega) hn
  · rw [ea]
    show (if p = j then nI (kc pr k j) else i' (a + 3) p) = _
    by_cases e : p = j
    · subst e; rw [if_pos rfl]
    · rw [if_neg e]; exact h6 p (by omega) hn
  · by_cases e : p = j
    · subst e; rw [e3 c (by omega) (by omega)]; exact h9 p hp c c1 c2
    · have := wne p hp e c (by omega) c2
      rw [e3 c this.2 this.1]; exact h9 p hp c c1 c2
  · by_cases e : p = j
    · subst e; rw [e8 x hx]; exact h10 p hp x hx
    · have := wne p hp e (w p) (by omega) (by omega)
      rw [e3 _ this.2 this.1]; exact h10 p hp x hx
  · have := wne p hpm (by omega) (w p) (by omega) (by omega)
    rw [e3 _ this.2 this.1]; exact h11 p (by omega) hpm
  · by_cases e : p = j
    · subst e; exact ep
    · have := wne p (by omega) e (w p) (by omega) (by omega)
      rw [e3 _ this.2 this.1]; exact h12 p (by omega) hn
set_option maxRecDepth 100000 in
set_option maxHeartbeats 4000000 in
theorem lp_X10_removeFamily {Γ : gG} {T : gTy} {r : gR} {l : gLg} {i : gI} {Q : gQ} {a m k : Nat} {w : Nat → Nat} (hL : lyWs T r a w) (hA : gN Γ ≤ a) (h3 : i a 3 = nI m) (hm : m ≤ 5) (hk : k < m) (hQ : ∀ r' i' w1, rmd T (fun q => i (w q) 8) k a m m w w1 i i' r r' → Q none T r' l (up2 i' a 3 (nI (kc (fun q => i (w q) 8) k m)))) : ∀ d j i1 r1 w1, j + d = m → rmd T (fun q => i (w q) 8) k a j m w w1 i i1 r r1 → G Γ MX10_removeFamily 0 0 10 [(0, .ref a), (1, .int (nI k)), (2, .int (nI (kc (fun q => i (w q) 8) k j))), (3, .int (nI j))] [] T r1 l i1 Q := by
  have hL2 := hL
  obtain ⟨s0, s1, s2, s3, s4, s5, s6, s7, s8⟩ := hL
  intro d
  induction d with
  | zero =>
    intro j i1 r1 w1 hj hi
    have hjm : j = m := by omega
    rw [hjm] at hi ⊢
    obtain ⟨g1, g2, g3, g4, g5, g6, g7, g8, g9, g10, g11, g12⟩ := id hi
    have e3 : i1 a 3 = nI m := g8.trans h3
    obtain ⟨t0, t1, t2, t3, t4, t5, t6, t7, t8⟩ := id g2
    have hkc := kc_le (fun q => i (w q) 8) k m
    refine G_iload_n (pc := 10) 3 dX10_removeFamily_10 rfl ?_
    refine G_aload_n (pc := 11) 0 dX10_removeFamily_11 rfl ?_
    refine G_getI (pc := 12) dX10_removeFamily_12 fX10_26 (by assumption) ?_
    refine G_icmp_ge (pc := 15) (tgt := 106) dX10_removeFamily_15 (by decide) (fun h15 => ?_) (fun h15 => ?_)
    · refine G_aload_n (pc := 106) 0 dX10_removeFamily_106 rfl ?_
      refine G_iload_n (pc := 107) 2 dX10_removeFamily_107 rfl ?_
      refine G_putI (pc := 108) dX10_removeFamily_108 fX10_26 (by assumption) rfl rfl (by first | assumption | omega) ?_
      refine G_vret (pc := 111) dX10_removeFamily_111 rfl ⟨by decide, by decide⟩ ?_
      exact hQ _ _ _ hi
    · exact absurd (by rw [e3]; exact Int32.le_refl _) h15
  | succ d ih =>
    intro j i1 r1 w1 hj hi
    have hjm : j < m := by omega
    obtain ⟨g1, g2, g3, g4, g5, g6, g7, g8, g9, g10, g11, g12⟩ := id hi
    have e3 : i1 a 3 = nI m := g8.trans h3
    obtain ⟨t0, t1, t2, t3, t4, t5, t6, t7, t8⟩ := id g2
    have hkc := kc_le (fun q => i (w q) 8) k j
    refine G_iload_n (pc := 10) 3 dX10_removeFamily_10 rfl ?_
    refine G_aload_n (pc := 11) 0 dX10_removeFamily_11 rfl ?_
    refine G_getI (pc := 12) dX10_removeFamily_12 fX10_26 (by assumption) ?_
    refine G_icmp_ge (pc := 15) (tgt := 106) dX10_removeFamily_15 (by decide) (fun h15 => ?_) (fun h15 => ?_)
    · exact absurd h15 (by rw [e3]; exact nI_ge (by omega) (by omega))
    · refine G_aload_n (pc := 18) 0 dX10_removeFamily_18 rfl ?_
      refine G_getR (pc := 19) dX10_removeFamily_19 fX10_17 (by assumption) (by assumption) ?_
      refine G_iload_n (pc := 22) 3 dX10_removeFamily_22 rfl ?_
      refine G_zaldJ (pc := 23) dX10_removeFamily_23 (by assumption) rfl (by first | assumption | omega) (by decide) ?_
      rw [g5 j hjm]
      refine G_if_eq (pc := 24) (tgt := 30) dX10_removeFamily_24 (by decide) (fun h24 => ?_) (fun h24 => ?_)
      · have hnf := gB_eq.mp h24
        have wj := t7 j (by omega)
        have ewj : w1 j = w j := g3 j (Nat.le_refl j) (by omega)
        rw [ewj] at wj
        have wk := t7 (kc (fun q => i (w q) 8) k j) (by omega)
        have e8 : i1 (w j) 8 = i (w j) 8 := g11 j (Nat.le_refl j) hjm
        refine G_aload_n (pc := 30) 0 dX10_removeFamily_30 rfl ?_
        refine G_getR (pc := 31) dX10_removeFamily_31 fX10_21 (by assumption) (by assumption) ?_
        refine G_iload_n (pc := 34) 3 dX10_removeFamily_34 rfl ?_
        refine G_iload_n (pc := 35) 2 dX10_removeFamily_35 rfl ?_
        refine G_iastJ (pc := 36) dX10_removeFamily_36 (by assumption) rfl (by first | assumption | omega) (by decide) (by first | assumption | omega) ?_
        refine G_aload_n (pc := 37) 0 dX10_removeFamily_37 rfl ?_
        refine G_getR (pc := 38) dX10_removeFamily_38 fX10_11 (by assumption) (by assumption) ?_
        refine G_iload_n (pc := 41) 3 dX10_removeFamily_41 rfl ?_
        refine G_aaldWJ (pc := 42) dX10_removeFamily_42 (by assumption) rfl (by first | assumption | omega) (by decide) wj.1 ?_
        refine G_sn4 (pc := 43) (gSt_a dX10_removeFamily_43 (by decide)) rfl ?_
        refine G_aload (pc := 45) 4 dX10_removeFamily_45 rfl ?_
        refine G_getI (pc := 47) dX10_removeFamily_47 fX10_34 wj.2.1.1 ?_
        rw [up2_ne (by omega), e8]
        refine G_if_lt (pc := 50) (tgt := 77) dX10_removeFamily_50 (by decide) (fun h50 => ?_) (fun h50 => ?_)
        · refine G_aload_n (pc := 77) 0 dX10_removeFamily_77 rfl ?_
          refine G_getR (pc := 78) dX10_removeFamily_78 fX10_11 (by assumption) (by assumption) ?_
          refine G_iload_n (pc := 81) 3 dX10_removeFamily_81 rfl ?_
          refine G_aload_n (pc := 82) 0 dX10_removeFamily_82 rfl ?_
          refine G_getR (pc := 83) dX10_removeFamily_83 fX10_11 (by assumption) (by assumption) ?_
          refine G_iload_n (pc := 86) 2 dX10_removeFamily_86 rfl ?_
          refine G_aaldWJ (pc := 87) dX10_removeFamily_87 (by assumption) rfl (by first | assumption | omega) (by decide) wk.1 ?_
          refine G_aastWJ (pc := 88) dX10_removeFamily_88 (by assumption) rfl (by omega) (by decide) wk.2.1.1 (by first | assumption | omega) ?_
          refine G_aload_n (pc := 89) 0 dX10_removeFamily_89 rfl ?_
          refine G_getR (pc := 90) dX10_removeFamily_90 fX10_11 (by assumption) (by rw [up2_ne (by omega)]; exact t1) ?_
          refine G_iload_n (pc := 93) 2 dX10_removeFamily_93 rfl ?_
          refine G_aload (pc := 94) 4 dX10_removeFamily_94 rfl ?_
          refine G_aastWJ (pc := 96) dX10_removeFamily_96 (by assumption) rfl (by omega) (by decide) wj.2.1.1 (by first | assumption | omega) ?_
          have ew : (some (w j) : Option Nat) = some (w1 j) := by rw [ewj]
          rw [ew]
          refine G_inc2 (pc := 97) (v := 1) dX10_removeFamily_97 rfl (by decide) rfl ?_
          refine G_inc3 (pc := 100) (v := 1) dX10_removeFamily_100 rfl (by decide) rfl ?_
          refine G_goto (pc := 103) (tgt := 10) dX10_removeFamily_103 (by decide) ?_
          refine G_drop4 ?_
          rw [nI_1, nI_1]
          have ec : kc (fun q => i (w q) 8) k (j + 1) = kc (fun q => i (w q) 8) k j + 1 := by rw [kc, if_neg hnf]
          rw [← ec]
          exact ih (j + 1) _ _ _ (by omega) (hi.keep hL2 hm hjm hnf (Or.inl ⟨rfl, if_neg (fun z => z.1 h50)⟩))
        · refine G_aload (pc := 53) 4 dX10_removeFamily_53 rfl ?_
          refine G_getI (pc := 55) dX10_removeFamily_55 fX10_34 wj.2.1.1 ?_
          rw [up2_ne (by omega), e8]
          refine G_iload_n (pc := 58) 3 dX10_removeFamily_58 rfl ?_
          refine G_icmp_ge (pc := 59) (tgt := 77) dX10_removeFamily_59 (by decide) (fun h59 => ?_) (fun h59 => ?_)
          · refine G_aload_n (pc := 77) 0 dX10_removeFamily_77 rfl ?_
            refine G_getR (pc := 78) dX10_removeFamily_78 fX10_11 (by assumption) (by assumption) ?_
            refine G_iload_n (pc := 81) 3 dX10_removeFamily_81 rfl ?_
            refine G_aload_n (pc := 82) 0 dX10_removeFamily_82 rfl ?_
            refine G_getR (pc := 83) dX10_removeFamily_83 fX10_11 (by assumption) (by assumption) ?_
            refine G_iload_n (pc := 86) 2 dX10_removeFamily_86 rfl ?_
            refine G_aaldWJ (pc := 87) dX10_removeFamily_87 (by assumption) rfl (by first | assumption | omega) (by decide) wk.1 ?_
            refine G_aastWJ (pc := 88) dX10_removeFamily_88 (by assumption) rfl (by omega) (by decide) wk.2.1.1 (by first | assumption | omega) ?_
            refine G_aload_n (pc := 89) 0 dX10_removeFamily_89 rfl ?_
            refine G_getR (pc := 90) dX10_removeFamily_90 fX10_11 (by assumption) (by rw [up2_ne (by omega)]; exact t1) ?_
            refine G_iload_n (pc := 93) 2 dX10_removeFamily_93 rfl ?_
            refine G_aload (pc := 94) 4 dX10_removeFamily_94 rfl ?_
            refine G_aastWJ (pc := 96) dX10_removeFamily_96 (by assumption) rfl (by omega) (by decide) wj.2.1.1 (by first | assumption | omega) ?_
            have ew : (some (w j) : Option Nat) = some (w1 j) := by rw [ewj]
            rw [ew]
            refine G_inc2 (pc := 97) (v := 1) dX10_removeFamily_97 rfl (by decide) rfl ?_
            refine G_inc3 (pc := 100) (v := 1) dX10_removeFamily_100 rfl (by decide) rfl ?_
            refine G_goto (pc := 103) (tgt := 10) dX10_removeFamily_103 (by decide) ?_
            refine G_drop4 ?_
            rw [nI_1, nI_1]
            have ec : kc (fun q => i (w q) 8) k (j + 1) = kc (fun q => i (w q) 8) k j + 1 := by rw [kc, if_neg hnf]
            rw [← ec]
            exact ih (j + 1) _ _ _ (by omega) (hi.keep hL2 hm hjm hnf (Or.inl ⟨rfl, if_neg (fun z => (Int32.not_lt.mpr h59) z.2)⟩))
          · obtain ⟨q, hq, hpq⟩ := fam_lt (j := j) (by omega) ⟨h50, Int32.not_le.mp h59⟩
            have hnq : ¬ fam (fun q => i (w q) 8) k q = true := fun z => hnf (by
              by_cases ejk : j = k
              · subst ejk; exact fam_self _ _
              · rw [fam_up ejk hq (by omega) hpq]; exact z)
            have enp : nPar (fun q => i (w q) 8) k j = nI (kc (fun q => i (w q) 8) k q) := by
              unfold nPar
              rw [if_pos ⟨h50, Int32.not_le.mp h59⟩]
              show nI (kc (fun q => i (w q) 8) k (i (w j) 8).toNatClampNeg) = _
              rw [hpq, nI_clamp (by omega)]
            refine G_aload (pc := 62) 4 dX10_removeFamily_62 rfl ?_
            refine G_aload_n (pc := 64) 0 dX10_removeFamily_64 rfl ?_
            refine G_getR (pc := 65) dX10_removeFamily_65 fX10_21 (by assumption) (by assumption) ?_
            refine G_aload (pc := 68) 4 dX10_removeFamily_68 rfl ?_
            refine G_getI (pc := 70) dX10_removeFamily_70 fX10_34 wj.2.1.1 ?_
            rw [up2_ne (by omega), e8]
            refine G_ialdJ (pc := 73) (j := q) dX10_removeFamily_73 (by assumption) hpq (by omega) (by decide) ?_
            rw [up2_row (by omega), g6 q hq hnq, ← enp]
            refine G_putI (pc := 74) dX10_removeFamily_74 fX10_34 wj.2.1.1 rfl rfl (by omega) ?_
            refine G_aload_n (pc := 77) 0 dX10_removeFamily_77 rfl ?_
            refine G_getR (pc := 78) dX10_removeFamily_78 fX10_11 (by assumption) (by assumption) ?_
            refine G_iload_n (pc := 81) 3 dX10_removeFamily_81 rfl ?_
            refine G_aload_n (pc := 82) 0 dX10_removeFamily_82 rfl ?_
            refine G_getR (pc := 83) dX10_removeFamily_83 fX10_11 (by assumption) (by assumption) ?_
            refine G_iload_n (pc := 86) 2 dX10_removeFamily_86 rfl ?_
            refine G_aaldWJ (pc := 87) dX10_removeFamily_87 (by assumption) rfl (by first | assumption | omega) (by decide) wk.1 ?_
            refine G_aastWJ (pc := 88) dX10_removeFamily_88 (by assumption) rfl (by omega) (by decide) wk.2.1.1 (by first | assumption | omega) ?_
            refine G_aload_n (pc := 89) 0 dX10_removeFamily_89 rfl ?_
            refine G_getR (pc := 90) dX10_removeFamily_90 fX10_11 (by assumption) (by rw [up2_ne (by omega)]; exact t1) ?_
            refine G_iload_n (pc := 93) 2 dX10_removeFamily_93 rfl ?_
            refine G_aload (pc := 94) 4 dX10_removeFamily_94 rfl ?_
            refine G_aastWJ (pc := 96) dX10_removeFamily_96 (by assumption) rfl (by omega) (by decide) wj.2.1.1 (by first | assumption | omega) ?_
            have ew : (some (w j) : Option Nat) = some (w1 j) := by rw [ewj]
            rw [ew]
            refine G_inc2 (pc := 97) (v := 1) dX10_removeFamily_97 rfl (by decide) rfl ?_
            refine G_inc3 (pc := 100) (v := 1) dX10_removeFamily_100 rfl (by decide) rfl ?_
            refine G_goto (pc := 103) (tgt := 10) dX10_removeFamily_103 (by decide) ?_
            refine G_drop4 ?_
            rw [nI_1, nI_1]
            have ec : kc (fun q => i (w q) 8) k (j + 1) = kc (fun q => i (w q) 8) k j + 1 := by rw [kc, if_neg hnf]
            rw [← ec]
            exact ih (j + 1) _ _ _ (by omega) (hi.keep hL2 hm hjm hnf (Or.inr rfl))
      · refine G_goto (pc := 27) (tgt := 100) dX10_removeFamily_27 (by decide) ?_
        refine G_inc3 (pc := 100) (v := 1) dX10_removeFamily_100 rfl (by decide) rfl ?_
        refine G_goto (pc := 103) (tgt := 10) dX10_removeFamily_103 (by decide) ?_
        rw [nI_1]
        have ec : kc (fun q => i (w q) 8) k (j + 1) = kc (fun q => i (w q) 8) k j := by rw [kc, if_pos (gB_ne.mp h24)]; rfl
        rw [← ec]
        exact ih (j + 1) _ _ _ (by omega) (hi.skip (gB_ne.mp h24))
set_option maxRecDepth 100000 in
set_option maxHeartbeats 4000000 in
theorem c_X10_removeFamily {Γ : gG} {T : gTy} {r : gR} {l : gLg} {i : gI} {Q : gQ} {a m k : Nat} {w : Nat → Nat} (hL : lyWs T r a w) (hA : gN Γ ≤ a) (h3 : i a 3 = nI m) (hm : m ≤ 5) (hk : k < m) (hQ : ∀ r' i' w1, rmd T (fun q => i (w q) 8) k a m m w w1 i i' r r' → Q none T r' l (up2 i' a 3 (nI (kc (fun q => i (w q) 8) k m)))) : gC Γ MX10_removeFamily [.ref a, .int (nI k)] T r l i Q := by
  have hL2 := hL
  obtain ⟨s0, s1, s2, s3, s4, s5, s6, s7, s8⟩ := hL
  refine gC_of rfl (Nat.le_of_ble_eq_true rfl) (L := [(0, .ref a), (1, .int (nI k))]) rfl ?_
  refine G_aload_n (pc := 0) 0 dX10_removeFamily_0 rfl ?_
  refine G_iload_n (pc := 1) 1 dX10_removeFamily_1 rfl ?_
  refine gV1 (pc := 2) (k' := 0) (n' := 0) dX10_removeFamily_2 lkX10_37 ⟨by decide, by decide⟩ (Nat.le_of_ble_eq_true rfl) rfl rfl ⟨by decide, by decide⟩ s0 (c_X10_markFamily hL2 hA h3 hm hk ?_)
  intro i1 hi
  dsimp only [gRt]
  refine G_pop (pc := 5) dX10_removeFamily_5 rfl ?_
  refine G_iconst (pc := 6) (v := 0) dX10_removeFamily_6 rfl ?_
  refine G_sn2 (pc := 7) (gSt_in dX10_removeFamily_7 rfl (by decide)) rfl ?_
  refine G_iconst (pc := 8) (v := 0) dX10_removeFamily_8 rfl ?_
  refine G_sn3 (pc := 9) (gSt_in dX10_removeFamily_9 rfl (by decide)) rfl ?_
  exact lp_X10_removeFamily hL2 hA h3 hm hk hQ m 0 i1 r w (Nat.zero_add m) ⟨fun _ _ => rfl, hL2, fun _ _ _ => rfl, fun p hp => absurd hp (by omega), hi.2, fun p hp => absurd hp (by omega), fun c hc => hi.1 c (by omega), by rw [hi.1 a (by omega)], fun p hp c c1 c2 => hi.1 c (by have := (s7 p (by omega)).2.2.1; omega), fun p hp x hx => by rw [hi.1 (w p) (by have := (s7 p (by omega)).2.2.1; omega)], fun p _ hp => by rw [hi.1 (w p) (by have := (s7 p (by omega)).2.2.1; omega)], fun p hp => absurd hp (by omega)⟩
