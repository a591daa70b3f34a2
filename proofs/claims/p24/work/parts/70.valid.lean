/-! acts keep the flat state valid -/
theorem vT_mk {s : Nat → Int32} {n : Nat} (h6 : n ≤ 6) (h0 : s 0 = nI n) (h : ∀ k, k < n → ∃ a b, s (5 + 3 * k + 1) = nI a ∧ s (5 + 3 * k + 2) = nI b ∧ a + b ≤ 3 ∧ bd (s (5 + 3 * k + 0)).toInt64 5) : vT s := by
  refine vT.of (n := n) (f := fun k => s (5 + 3 * k + 0)) (p := fun k => (s (5 + 3 * k + 1)).toNatClampNeg) (q := fun k => (s (5 + 3 * k + 2)).toNatClampNeg) ⟨h6, h0, fun k hk => ?_⟩ (fun k hk => ?_)
  · obtain ⟨a, b, e1, e2, e3, _⟩ := h k hk
    dsimp only
    rw [e1, e2, nI_clamp (by omega), nI_clamp (by omega)]
    exact ⟨rfl, rfl, rfl, e3⟩
  · obtain ⟨a, b, e1, e2, e3, e4⟩ := h k hk
    dsimp only
    rw [e1, e2, nI_clamp (by omega), nI_clamp (by omega)]
    exact ⟨e4, e3⟩
theorem vT_el {s : Nat → Int32} (h : vT s) : tN s ≤ 6 ∧ s 0 = nI (tN s) ∧ ∀ k, k < tN s → ∃ a b, s (5 + 3 * k + 1) = nI a ∧ s (5 + 3 * k + 2) = nI b ∧ a + b ≤ 3 ∧ bd (s (5 + 3 * k + 0)).toInt64 5 := by
  obtain ⟨⟨h1, h2, h3⟩, hc⟩ := h
  refine ⟨h1, h2, fun k hk => ?_⟩
  obtain ⟨e1, e2, e3, e4⟩ := h3 k hk
  exact ⟨_, _, e2, e3, e4, by rw [e1]; exact (hc k hk).1⟩
/-- without walks -/
theorem vS_0 {s s' : Nat → Int32} (h : vS s) (ht : vT s') (h1 : s' 1 = 0) (h2 : ∀ k, 2 ≤ k → k < 5 → s' k = s k) : vS s' :=
  ⟨ht, h.2.1.eq (h2 2 (by decide) (by decide)) (h2 3 (by decide) (by decide)) (h2 4 (by decide) (by decide)), 0, by decide, h1, fun k hk => absurd hk (Nat.not_lt_zero k)⟩
theorem bd5 {f : Int32} (h : inI f (-5) 5) : bd f.toInt64 5 := by
  obtain ⟨h1, h2⟩ := h
  rw [Int32.lt_iff_toInt_lt, show (-5 : Int32).toInt = -5 by decide] at h1
  rw [Int32.lt_iff_toInt_lt, show (5 : Int32).toInt = 5 by decide] at h2
  unfold bd
  rw [Int32.toInt_toInt64]
  omega
theorem adF_v {s : Nat → Int32} {n a b : Nat} {f : Int32} (hn : n < 6) (hv : ∀ k, k < n → ∃ a b, s (5 + 3 * k + 1) = nI a ∧ s (5 + 3 * k + 2) = nI b ∧ a + b ≤ 3 ∧ bd (s (5 + 3 * k + 0)).toInt64 5) (hf : bd f.toInt64 5) (hab : a + b ≤ 3) : ∀ k, k < n + 1 → ∃ c d, adF s n f (nI a) (nI b) (5 + 3 * k + 1) = nI c ∧ adF s n f (nI a) (nI b) (5 + 3 * k + 2) = nI d ∧ c + d ≤ 3 ∧ bd (adF s n f (nI a) (nI b) (5 + 3 * k + 0)).toInt64 5 := by
  intro k hk
  unfold adF
  by_cases hkn : k = n
  · subst hkn
    refine ⟨a, b, ?_, ?_, hab, ?_⟩
    · simp (disch := omega) only [upd_o, upd_s]
    · simp (disch := omega) only [upd_o, upd_s]
    · simp (disch := omega) only [upd_o, upd_s, Nat.add_zero]; exact hf
  · obtain ⟨c, d, e1, e2, e3, e4⟩ := hv k (by omega)
    refine ⟨c, d, ?_, ?_, e3, ?_⟩
    · simp (disch := omega) only [upd_o]; exact e1
    · simp (disch := omega) only [upd_o]; exact e2
    · simp (disch := omega) only [upd_o, Nat.add_zero] at e4 ⊢; exact e4
theorem adF_4 {s : Nat → Int32} {n : Nat} {f x y : Int32} : adF s n f x y 1 = 0 ∧ ∀ k, 2 ≤ k → k < 5 → adF s n f x y k = s k := by
  unfold adF
  exact ⟨upd_s, fun k k1 k2 => by simp (disch := omega) only [upd_o]⟩
theorem vS_term {S : Nat → Int32} {f x y : Int32} (h : vS S) : vS (nxS S (aTerm S f x y).2) := by
  unfold aTerm
  split
  · rename_i hok
    obtain ⟨h1, _, h3, h4, h5⟩ := hok
    split
    · exact h
    · rename_i hn
      obtain ⟨t1, t2, t3⟩ := vT_el h.1
      obtain ⟨a, _, a2, rfl⟩ := inI_nat (a := 0) (b := 3) (by decide) (by decide) h3
      obtain ⟨b, _, b2, rfl⟩ := inI_nat (a := 0) (b := 3) (by decide) (by decide) h4
      have hab : a + b ≤ 3 := by
        rw [nI_add] at h5
        exact (nI_leI (by omega) (by decide)).mp (show nI (a + b) ≤ nI 3 from h5)
      exact vS_0 h (vT_mk (n := tN S + 1) (by omega) adF_0 (adF_v (by omega) t3 (bd5 h1) hab)) adF_4.1 adF_4.2
  · exact h
theorem vS_dropT {S : Nat → Int32} {k : Int32} (h : vS S) : vS (nxS S (aDropT S k).2) := by
  unfold aDropT
  split
  · exact h
  · split
    · exact h
    · rename_i h0 h1
      obtain ⟨t1, t2, t3⟩ := vT_el h.1
      obtain ⟨j, hj, rfl⟩ : ∃ j, j < tN S ∧ k = nI j := by
        rcases pk_ix k (n := tN S) (by omega) with z | z | z
        · exact absurd z h0
        · exact absurd z h1
        · exact z
      obtain ⟨b, hb⟩ : ∃ b, tN S = b + 1 := ⟨tN S - 1, by omega⟩
      rw [hb, nI_clamp (by omega)]
      rw [hb] at t1 t3 hj
      show vS (rmF S b j)
      refine vS_0 h (vT_mk (n := b) (by omega) ?_ (fun q hq => ?_)) ?_ (fun q q1 q2 => ?_)
      · unfold rmF; rw [upd_o (by decide), sh3_r (by omega), upd_s]
      · have e : ∀ c, c < 3 → rmF S b j (5 + 3 * q + c) = S (5 + 3 * (if j ≤ q then q + 1 else q) + c) := fun c hc => by
          unfold rmF
          rw [upd_o (by omega)]
          unfold sh3
          by_cases hjq : j ≤ q
          · rw [if_pos hjq, if_pos (by omega), upd_o (by omega), show 5 + 3 * q + c + 3 = 5 + 3 * (q + 1) + c by omega]
          · rw [if_neg hjq, if_neg (by omega), upd_o (by omega)]
        rw [e 0 (by decide), e 1 (by decide), e 2 (by decide)]
        exact t3 _ (by split <;> omega)
      · unfold rmF; rw [upd_s]
      · unfold rmF; rw [upd_o (by omega), sh3_r (by omega), upd_o (by omega)]
theorem vS_open {S : Nat → Int32} {sg p f : Int32} {c : Int64 × Int64 × Nat} (h : vS S) (h5 : nW S < 5) (hs : sg = 1 ∨ sg = -1) (hp : p = -1 ∨ ∃ q, q < nW S ∧ p = nI q) (c1 : inB c.1) (c2 : inB c.2.1) : vS (oF S (nW S) sg p f c) := by
  obtain ⟨w5, w1, wk⟩ := nW_of h
  obtain ⟨o0, o1, o2, o3, o4, o5⟩ := oF_w (S := S) (k := nW S) (sg := sg) (p := p) (f := f) (c := c)
  obtain ⟨p0, p1, p2, p3⟩ := oF_p (S := S) (k := nW S) (sg := sg) (p := p) (f := f) (c := c)
  refine ⟨h.1.eq (fun j j1 j2 => oF_o j2 (by omega)), h.2.1.eq (oF_o (by decide) (by omega)) (oF_o (by decide) (by omega)) (oF_o (by decide) (by omega)), nW S + 1, by omega, oF_1, fun k hk => ?_⟩
  by_cases hkn : k = nW S
  · subst hkn
    refine ⟨⟨0, o0, by decide, by rw [o1]; exact hs, ?_, Or.inl o3, fun q hq => ?_⟩, by rw [o4]; exact hp⟩
    · obtain ⟨⟨a, a1, a2, a3⟩, _⟩ := h.2.1
      exact ⟨a, by omega, o2.trans a3⟩
    · obtain rfl : q = 0 := by omega
      rw [p0, p1, p3, inB_tt c1, inB_tt c2]
      exact ⟨c1, c2, fun z => absurd z (by decide)⟩
  · obtain ⟨⟨z, hz⟩, hq⟩ := wk k (by omega)
    exact ⟨⟨z, hz.eq (fun j hj => oF_o (by omega) (by omega))⟩, by rw [oF_o (by omega) (by omega)]; exact hq⟩
theorem vS_aOpen {S : Nat → Int32} {sg p f : Int32} {m : Nat} {x y : Int64} (h : vS S) (hs : sg = 1 ∨ sg = -1) (hp : p = -1 ∨ ∃ q, q < nW S ∧ p = nI q) : vS (nxS S (aOpen S sg p f (gCor (tF S) (tP S) (tQ S) (tN S) m 0 x y)).2) := by
  cases hc : gCor (tF S) (tP S) (tQ S) (tN S) m 0 x y with
  | none => exact h
  | some c =>
    obtain ⟨c1, c2, _⟩ := gCor_in _ _ _ _ hc
    have := (nW_of h).1
    by_cases h5 : nW S = 5
    · rw [show aOpen S sg p f (some c) = (-1000003, none) from if_pos h5]; exact h
    · rw [show aOpen S sg p f (some c) = (nI (nW S), some (oF S (nW S) sg p f c)) from if_neg h5]
      dsimp only [nxS]
      exact vS_open h (by omega) hs hp c1 c2
theorem vS_begin {S : Nat → Int32} {x y sg : Int32} (h : vS S) : vS (nxS S (aBegin S x y sg).2) := by
  unfold aBegin
  split
  · rename_i hok
    exact vS_aOpen h hok.2.2 (Or.inl rfl)
  · exact h
theorem vS_branch {S : Nat → Int32} {w p sd : Int32} (h : vS S) : vS (nxS S (aBranch S w p sd).2) := by
  unfold aBranch
  split
  · rename_i hok
    split
    · obtain ⟨w5, w1, wk⟩ := nW_of h
      obtain ⟨a, ha, rfl⟩ := (isW (m := nW S) (by omega)).mp (w1 ▸ hok.1)
      have hb : ∀ (b : Nat) (o : Option (Int64 × Int64 × Nat)), (∀ c, o = some c → inB c.1 ∧ inB c.2.1) → vS (nxS S (aBrn S (nI a) p sd b o).2) := fun b o ho => by
        cases o with
        | none => exact h
        | some c =>
          obtain ⟨c1, c2⟩ := ho c rfl
          have e : aBrn S (nI a) p sd b (some c) = aOpen S (brS S (23 + 166 * (nI a).toNatClampNeg) b sd c) (nI a) p (some c) := rfl
          rw [e]
          have hsg : brS S (23 + 166 * (nI a).toNatClampNeg) b sd c = 1 ∨ brS S (23 + 166 * (nI a).toNatClampNeg) b sd c = -1 := by
            unfold brS
            split
            · exact Or.inr rfl
            · exact Or.inl rfl
          generalize brS S (23 + 166 * (nI a).toNatClampNeg) b sd c = sg at hsg
          by_cases h5 : nW S = 5
          · rw [show aOpen S sg (nI a) p (some c) = (-1000003, none) from if_pos h5]; exact h
          · rw [show aOpen S sg (nI a) p (some c) = (nI (nW S), some (oF S (nW S) sg (nI a) p c)) from if_neg h5]
            dsimp only [nxS]
            exact vS_open h (by omega) hsg (Or.inr ⟨a, ha, rfl⟩) c1 c2
      refine hb _ _ (fun c hc => ?_)
      unfold brC at hc
      have := gCor_in _ _ _ _ hc
      exact ⟨this.1, this.2.1⟩
    · exact h
  · exact h
theorem vS_wk {a : Nat} : ∀ d S, vS S → a < nW S → vS (wkR (23 + 166 * a) d S).1
  | 0, _, h, _ => h
  | d + 1, S, h, ha => by
    rw [wkR]
    by_cases hs : gStop S (23 + 166 * a)
    · rw [if_pos hs]; exact h
    · rw [if_neg hs]
      obtain ⟨w5, w1, wk⟩ := nW_of h
      obtain ⟨⟨z, hv⟩, _⟩ := wk a ha
      have h2 := vS_st h ha hv (gStop_z hv hs)
      split
      · exact vS_wk d _ h2.1 (by rw [h2.2]; exact ha)
      · exact h2.1
theorem vS_step {S : Nat → Int32} {w k : Int32} (h : vS S) : vS (nxS S (aStep S w k).2) := by
  unfold aStep
  split
  · rename_i hok
    split
    · exact h
    · obtain ⟨w5, w1, wk⟩ := nW_of h
      obtain ⟨a, ha, rfl⟩ := (isW (m := nW S) (by omega)).mp (w1 ▸ hok.1)
      rw [nI_clamp (by omega)]
      exact vS_wk _ S h ha
  · exact h
theorem vS_set {S : Nat → Int32} {x v : Int32} (h : vS S) : vS (nxS S (aSet S x v).2) := by
  unfold aSet
  split
  · rename_i hok
    obtain ⟨⟨a, a1, a2, a3⟩, ⟨g, g1, g2, g3⟩, m1, m2, m3⟩ := h.2.1
    have hw : ∀ j, j < 3 → vSe (upd S (2 + j) v) → vS (upd S (2 + j) v) := fun j hj hse => by
      obtain ⟨w5, w1, wk⟩ := nW_of h
      refine ⟨?_, hse, nW S, w5, by rw [upd_o (by omega)]; exact w1, fun k hk => ?_⟩
      · obtain ⟨t1, t2, t3⟩ := vT_el h.1
        refine vT_mk (n := tN S) t1 (by rw [upd_o (by omega)]; exact t2) (fun k hk => ?_)
        rw [upd_o (by omega), upd_o (by omega), upd_o (by omega)]
        exact t3 k hk
      · obtain ⟨⟨z, hz⟩, hq⟩ := wk k hk
        exact ⟨⟨z, hz.eq (fun j2 hj2 => upd_o (by omega))⟩, by rw [upd_o (by omega)]; exact hq⟩
    rcases hok with ⟨rfl, hv⟩ | ⟨rfl, hv⟩ | ⟨rfl, hv⟩
    · obtain ⟨b, b1, b2, rfl⟩ := inI_nat (a := 1) (b := 64) (by decide) (by decide) hv
      refine hw 0 (by decide) ⟨⟨b, b1, b2, upd_s⟩, ⟨g, g1, g2, ?_⟩, ?_⟩
      · rw [upd_o (by decide)]; exact g3
      · unfold tM; rw [upd_o (by decide)]; exact ⟨m1, m2, m3⟩
    · obtain ⟨b, b1, b2, rfl⟩ := inI_nat (a := 1) (b := 128) (by decide) (by decide) hv
      refine hw 1 (by decide) ⟨⟨a, a1, a2, ?_⟩, ⟨b, b1, b2, upd_s⟩, ?_⟩
      · rw [upd_o (by decide)]; exact a3
      · unfold tM; rw [upd_o (by decide)]; exact ⟨m1, m2, m3⟩
    · obtain ⟨b, b1, b2, rfl⟩ := inI_nat (a := 2) (b := 20) (by decide) (by decide) hv
      refine hw 2 (by decide) ⟨⟨a, a1, a2, ?_⟩, ⟨g, g1, g2, ?_⟩, ?_⟩
      · rw [upd_o (by decide)]; exact a3
      · rw [upd_o (by decide)]; exact g3
      · unfold tM; rw [show upd S (2 + 2) (nI b) 4 = nI b from upd_s, nI_clamp (by omega)]; exact ⟨b1, b2, rfl⟩
  · exact h
theorem rfA_bd {tx : Nat → Int32} {ln p : Nat} {sg : Int32} (h : sg = 1 ∨ sg = -1) : bd (rfA tx ln p sg).toInt64 5 := by
  unfold rfA
  split
  · rename_i hd
    obtain ⟨b, b1, b2, e⟩ := inI_nat (a := 49) (b := 53) (by decide) (by decide) hd.2
    rw [e, show (48 : Int32) = nI 48 from rfl, pk_sub (by omega)]
    obtain ⟨c, rfl⟩ : ∃ c, b = 48 + c := ⟨b - 48, by omega⟩
    rw [Nat.add_sub_cancel_left]
    have hc : c = 1 ∨ c = 2 ∨ c = 3 ∨ c = 4 ∨ c = 5 := by omega
    rcases h with rfl | rfl <;> rcases hc with rfl | rfl | rfl | rfl | rfl <;> (unfold bd; decide)
  · rcases h with rfl | rfl <;> (unfold bd; decide)
theorem rfG_v {tx : Nat → Int32} {ln : Nat} : ∀ d p n sg F, n + d = 5 → p ≤ ln → (sg = 1 ∨ sg = -1) → (∀ k, k < n → ∃ a b, F (5 + 3 * k + 1) = nI a ∧ F (5 + 3 * k + 2) = nI b ∧ a + b ≤ 3 ∧ bd (F (5 + 3 * k + 0)).toInt64 5) → vT (rfG tx ln (d + 1) p n sg F).2.2.2 := by
  intro d
  induction d with
  | zero =>
    intro p n sg F hn hp hs hv
    have hle := rfT_le (tx := tx) hp
    have hm := vT_mk (n := n + 1) (by omega) (adF_0 (s := F) (n := n) (f := rfA tx ln p sg) (x := nI (rfT tx ln p).2.1) (y := nI (rfT tx ln p).2.2)) (adF_v (by omega) hv (rfA_bd hs) hle.2)
    rw [rfG]
    split
    · rw [if_pos (by omega)]; exact hm
    · exact hm
  | succ d ih =>
    intro p n sg F hn hp hs hv
    have hle := rfT_le (tx := tx) hp
    have ha := adF_v (n := n) (by omega) hv (rfA_bd (tx := tx) (ln := ln) (p := p) hs) hle.2
    have hm := vT_mk (n := n + 1) (by omega) (adF_0 (s := F) (n := n) (f := rfA tx ln p sg) (x := nI (rfT tx ln p).2.1) (y := nI (rfT tx ln p).2.2)) ha
    rw [rfG]
    split
    · rename_i hc
      rw [if_neg (by omega)]
      exact ih _ (n + 1) _ _ (by omega) hc.2.1 (by split; exact Or.inr rfl; exact Or.inl rfl) ha
    · exact hm
theorem vS_read {tx : Nat → Int32} {ln : Nat} {S : Nat → Int32} (h : vS S) : vS (nxS S (aRead tx ln S).2) := by
  unfold aRead
  split
  · refine vS_0 h ?_ rfAll_4.1 rfAll_4.2
    unfold rfAll
    refine rfG_v 5 _ 0 _ _ rfl ?_ (by split; exact Or.inr rfl; exact Or.inl rfl) (fun k hk => absurd hk (Nat.not_lt_zero k))
    split
    · rename_i hm; exact hm.1
    · exact Nat.zero_le _
  · exact h
theorem vW.sh {s s' : Nat → Int32} {w w' z : Nat} (h : vW s w z) (he : ∀ j, j < 166 → j ≠ 4 → s' (w' + j) = s (w + j)) : vW s' w' z := by
  obtain ⟨h1, h2, h3, h4, h5, h6⟩ := h
  have g : ∀ p, p ≤ z → ∀ c, c < 4 → s' (w' + 6 + 4 * p + c) = s (w + 6 + 4 * p + c) := fun p hp c hc => by
    have := he (6 + 4 * p + c) (by omega) (by omega)
    rwa [← Nat.add_assoc, ← Nat.add_assoc, ← Nat.add_assoc, ← Nat.add_assoc] at this
  refine ⟨(he 0 (by decide) (by decide)).trans h1, h2, ?_, ?_, ?_, fun p hp => ?_⟩
  · rw [he 1 (by decide) (by decide)]; exact h3
  · rw [he 2 (by decide) (by decide)]; exact h4
  · rw [he 3 (by decide) (by decide)]; exact h5
  · rw [g p hp 0 (by decide), g p hp 1 (by decide), g p hp 3 (by decide)]
    obtain ⟨a1, a2, a3⟩ := h6 p hp
    refine ⟨a1, a2, fun z2 => ?_⟩
    obtain ⟨b, e, n⟩ := a3 z2
    exact ⟨b, e, by rw [g b (by omega) 0 (by decide), g b (by omega) 1 (by decide)]; exact n⟩
theorem vS_drop {S F : Nat → Int32} {a : Nat} (h : vS S) (hd : drS S F a) : vS F := by
  obtain ⟨w5, w1, wk⟩ := nW_of h
  obtain ⟨d1, d2, d3⟩ := hd
  have hle := kc_le (gPr4 S) a (nW S)
  refine ⟨h.1.eq d2, h.2.1.eq (d2 2 (by decide) (by decide)) (d2 3 (by decide) (by decide)) (d2 4 (by decide) (by decide)), _, by omega, d1, fun q hq => ?_⟩
  obtain ⟨p, hp, hpf, rfl⟩ := kc_sur (nW S) q hq
  obtain ⟨⟨z, hz⟩, hpar⟩ := wk p hp
  refine ⟨⟨z, hz.sh (fun j hj hj4 => ?_)⟩, ?_⟩
  · rw [d3 p hp hpf j hj, if_neg hj4]
  · rw [d3 p hp hpf 4 (by decide), if_pos rfl]
    unfold npR
    rcases hpar with e | ⟨q0, hq0, e⟩
    · left
      rw [if_pos (show gPr4 S p < 0 from by unfold gPr4; rw [e]; decide)]
    · right
      have e2 : gPr4 S p = nI q0 := e
      have hpa : p ≠ a := fun e9 => hpf (by rw [e9]; exact fam_self _ _)
      have hu := fam_up (pr := gPr4 S) (k := a) hpa hq0 (by omega) e2
      rw [hu] at hpf
      rw [e2, if_neg (nI_pos (by omega)), nI_clamp (by omega)]
      unfold nmR
      rw [if_neg hpf]
      exact ⟨_, kc_lt hq0 hpf, rfl⟩
/-- what lies beyond 853 tells nothing -/
theorem vS_ext {S S' : Nat → Int32} (h : vS S) (he : ∀ k, k < 853 → S' k = S k) : vS S' := by
  obtain ⟨h1, h2, n, n5, n1, nk⟩ := h
  refine ⟨h1.eq (fun j j1 _ => he j (by omega)), h2.eq (he 2 (by decide)) (he 3 (by decide)) (he 4 (by decide)), n, n5, by rw [he 1 (by decide)]; exact n1, fun k hk => ?_⟩
  obtain ⟨⟨z, hz⟩, hq⟩ := nk k hk
  exact ⟨⟨z, hz.eq (fun j hj => he _ (by omega))⟩, by rw [he _ (by omega)]; exact hq⟩
theorem rpSt_ext {i : gI} {b : Nat} {ws : Nat → Nat} {S S' : Nat → Int32} (h : rpSt i b ws S) (he : ∀ k, k < 853 → S' k = S k) : rpSt i b ws S' := by
  obtain ⟨n, m, h1, h2, h3⟩ := h
  refine ⟨n, m, h1.flat (he 0 (by decide)) (fun j j1 j2 => he j (by omega)), ⟨h2.1, h2.2.1, by rw [he 1 (by decide)]; exact h2.2.2.1, fun k hk => ?_⟩, fun c hc => by rw [he _ (by omega)]; exact h3 c hc⟩
  obtain ⟨y, hy⟩ := h2.2.2.2 k hk
  have := h2.1
  exact ⟨y, hy.flat (fun j j1 j2 => he j (by omega))⟩
