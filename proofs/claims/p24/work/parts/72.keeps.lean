/-! what holds of every flat state: each place of a walk stands by itself, the stuck ones, the branches -/
/-- corrected again, the place stays -/
def fxC (f : Nat → Int32) (p q : Nat → Nat) (n : Nat) (u v : Int64) : Prop := ¬ gGG f p q n u v = 0 ∧ gSum f p q u v 0 n * gSum f p q u v 1 n / gGG f p q n u v = 0 ∧ gSum f p q u v 0 n * gSum f p q u v 2 n / gGG f p q n u v = 0
def fxP (s : Nat → Int32) (u v : Int64) : Prop := fxC (tF s) (tP s) (tQ s) (tN s) u v
def szW (s : Nat → Int32) (w : Nat) : Nat := (s w).toNatClampNeg
def xW (s : Nat → Int32) (w : Nat) : Prop := (∀ p, p < szW s w → fxP s (s (w + 6 + 4 * p + 0)).toInt64 (s (w + 6 + 4 * p + 1)).toInt64) ∧ s (w + 6 + 4 * 0 + 3) = 0 ∧ (s (w + 3) = 1 ↔ s (w + 2) = 0) ∧ (s (w + 3) = 1 → ¬ s w = 40)
def xP (s : Nat → Int32) (k : Nat) : Prop := s (23 + 166 * k + 4) = -1 ∨ ∃ q f, q < k ∧ s (23 + 166 * k + 4) = nI q ∧ s (23 + 166 * k + 5) = nI f ∧ f < szW s (23 + 166 * q) ∧ s (23 + 166 * q + 6 + 4 * f + 3) = 2
def xS (s : Nat → Int32) : Prop := ∀ k, k < nW s → xW s (23 + 166 * k) ∧ xP s k
theorem gCor_fx {f : Nat → Int32} {p q : Nat → Nat} {n : Nat} {c : Int64 × Int64 × Nat} : ∀ m rd x y, gCor f p q n m rd x y = some c → fxC f p q n c.1 c.2.1
  | 0, _, _, _, h => by rw [gCor] at h; exact absurd h (by simp)
  | m + 1, rd, x, y, h => by
    rw [gCor] at h
    by_cases h1 : inB x ∧ inB y
    · rw [if_pos h1] at h
      by_cases h2 : gGG f p q n x y = 0
      · rw [if_pos h2] at h; exact absurd h (by simp)
      · rw [if_neg h2] at h
        by_cases h3 : gSum f p q x y 0 n * gSum f p q x y 1 n / gGG f p q n x y = 0 ∧ gSum f p q x y 0 n * gSum f p q x y 2 n / gGG f p q n x y = 0
        · rw [if_pos h3] at h
          obtain rfl := Option.some.inj h
          exact ⟨h2, h3.1, h3.2⟩
        · rw [if_neg h3] at h
          exact gCor_fx m _ _ _ h
    · rw [if_neg h1] at h; exact absurd h (by simp)
theorem gCor_again {f : Nat → Int32} {p q : Nat → Nat} {n : Nat} {u v : Int64} {m : Nat} (hu : inB u) (hv : inB v) (h : fxC f p q n u v) (hm : 1 ≤ m) : gCor f p q n m 0 u v = some (u, v, 1) := by
  obtain ⟨k, rfl⟩ : ∃ k, m = k + 1 := ⟨m - 1, by omega⟩
  rw [gCor, if_pos ⟨hu, hv⟩, if_neg h.1, if_pos ⟨h.2.1, h.2.2⟩]
theorem t_eq4 {s s' : Nat → Int32} (h0 : s' 0 = s 0) (h : ∀ j, 5 ≤ j → j < 23 → s' j = s j) : tN s' = tN s ∧ tF s' = tF s ∧ tP s' = tP s ∧ tQ s' = tQ s := by
  refine ⟨?_, ?_, ?_, ?_⟩
  · unfold tN; rw [h0]
  · funext k; unfold tF; by_cases hk : k < 6
    · rw [if_pos hk, if_pos hk, h _ (by omega) (by omega)]
    · rw [if_neg hk, if_neg hk]
  · funext k; unfold tP; by_cases hk : k < 6
    · rw [if_pos hk, if_pos hk, h _ (by omega) (by omega)]
    · rw [if_neg hk, if_neg hk]
  · funext k; unfold tQ; by_cases hk : k < 6
    · rw [if_pos hk, if_pos hk, h _ (by omega) (by omega)]
    · rw [if_neg hk, if_neg hk]
theorem fxP_eq {s s' : Nat → Int32} {u v : Int64} (h0 : s' 0 = s 0) (h : ∀ j, 5 ≤ j → j < 23 → s' j = s j) (hf : fxP s u v) : fxP s' u v := by
  obtain ⟨e1, e2, e3, e4⟩ := t_eq4 h0 h
  unfold fxP
  rw [e1, e2, e3, e4]
  exact hf
theorem szW_v {s : Nat → Int32} {w z : Nat} (h : vW s w z) : szW s w = z + 1 := by unfold szW; rw [h.1, nI_clamp (by have := h.2.1; omega)]
theorem xW.sh {s s' : Nat → Int32} {w w' : Nat} (h : xW s w) (h40 : szW s w ≤ 40) (h0 : s' 0 = s 0) (ht : ∀ j, 5 ≤ j → j < 23 → s' j = s j) (he : ∀ j, j < 166 → j ≠ 4 → s' (w' + j) = s (w + j)) : xW s' w' := by
  obtain ⟨h1, h2, h3, h4⟩ := h
  have ez : szW s' w' = szW s w := by unfold szW; rw [show s' w' = s w from he 0 (by decide) (by decide)]
  have g : ∀ p, p < 40 → ∀ c, c < 4 → s' (w' + 6 + 4 * p + c) = s (w + 6 + 4 * p + c) := fun p hp c hc => by
    have := he (6 + 4 * p + c) (by omega) (by omega)
    rwa [← Nat.add_assoc, ← Nat.add_assoc, ← Nat.add_assoc, ← Nat.add_assoc] at this
  refine ⟨fun p hp => ?_, ?_, ?_, ?_⟩
  · rw [ez] at hp
    rw [g p (by omega) 0 (by decide), g p (by omega) 1 (by decide)]
    exact fxP_eq h0 ht (h1 p hp)
  · rw [g 0 (by decide) 3 (by decide)]; exact h2
  · rw [he 3 (by decide) (by decide), he 2 (by decide) (by decide)]; exact h3
  · rw [he 3 (by decide) (by decide), show s' w' = s w from he 0 (by decide) (by decide)]; exact h4
theorem xP.up {s s' : Nat → Int32} {k : Nat} (h : xP s k) (h4 : s' (23 + 166 * k + 4) = s (23 + 166 * k + 4)) (h5 : s' (23 + 166 * k + 5) = s (23 + 166 * k + 5)) (hq : ∀ q, q < k → ∀ f, f < szW s (23 + 166 * q) → s (23 + 166 * q + 6 + 4 * f + 3) = 2 → f < szW s' (23 + 166 * q) ∧ s' (23 + 166 * q + 6 + 4 * f + 3) = 2) : xP s' k := by
  rcases h with h | ⟨q, f, a1, a2, a3, a4, a5⟩
  · exact Or.inl (h4.trans h)
  · obtain ⟨b1, b2⟩ := hq q a1 f a4 a5
    exact Or.inr ⟨q, f, a1, h4.trans a2, h5.trans a3, b1, b2⟩
/-- without walks -/
theorem xS_0 {s : Nat → Int32} (h : s 1 = 0) : xS s := by
  intro k hk
  exfalso
  unfold nW at hk
  rw [h] at hk
  exact absurd hk (Nat.not_lt_zero k)
theorem sz40 {s : Nat → Int32} (h : vS s) {k : Nat} (hk : k < nW s) : 1 ≤ szW s (23 + 166 * k) ∧ szW s (23 + 166 * k) ≤ 40 := by
  obtain ⟨w5, w1, wk⟩ := nW_of h
  obtain ⟨⟨z, hz⟩, _⟩ := wk k hk
  rw [szW_v hz]
  exact ⟨by omega, hz.2.1⟩
theorem x_open {S : Nat → Int32} {sg p f : Int32} {c : Int64 × Int64 × Nat} (hx : xS S) (h : vS S) (h5 : nW S < 5) (c1 : inB c.1) (c2 : inB c.2.1) (hc : fxP S c.1 c.2.1) (hp : p = -1 ∨ ∃ q g, q < nW S ∧ p = nI q ∧ f = nI g ∧ g < szW S (23 + 166 * q) ∧ S (23 + 166 * q + 6 + 4 * g + 3) = 2) : xS (oF S (nW S) sg p f c) := by
  obtain ⟨w5, w1, wk⟩ := nW_of h
  obtain ⟨o0, o1, o2, o3, o4, o5⟩ := oF_w (S := S) (k := nW S) (sg := sg) (p := p) (f := f) (c := c)
  obtain ⟨p0, p1, p2, p3⟩ := oF_p (S := S) (k := nW S) (sg := sg) (p := p) (f := f) (c := c)
  have en : nW (oF S (nW S) sg p f c) = nW S + 1 := by unfold nW; rw [oF_1, nI_clamp (by show nW S + 1 < 2 ^ 31; omega)]
  have ht : ∀ j, 5 ≤ j → j < 23 → oF S (nW S) sg p f c j = S j := fun j j1 j2 => oF_o (by omega) (by omega)
  have h0 : oF S (nW S) sg p f c 0 = S 0 := oF_o (by decide) (by omega)
  have old : ∀ q, q < nW S → ∀ j, j < 166 → oF S (nW S) sg p f c (23 + 166 * q + j) = S (23 + 166 * q + j) := fun q hq j hj => oF_o (by omega) (by omega)
  have up : ∀ q, q < nW S → ∀ g, g < szW S (23 + 166 * q) → S (23 + 166 * q + 6 + 4 * g + 3) = 2 → g < szW (oF S (nW S) sg p f c) (23 + 166 * q) ∧ oF S (nW S) sg p f c (23 + 166 * q + 6 + 4 * g + 3) = 2 := fun q hq g hg h2 => by
    have h40 := (sz40 h hq).2
    have e := old q hq 0 (by decide)
    refine ⟨by unfold szW at hg ⊢; rw [show oF S (nW S) sg p f c (23 + 166 * q) = S (23 + 166 * q) from e]; exact hg, ?_⟩
    have := old q hq (6 + 4 * g + 3) (by omega)
    rw [← Nat.add_assoc, ← Nat.add_assoc] at this
    rw [this]; exact h2
  intro k hk
  rw [en] at hk
  by_cases hkn : k = nW S
  · subst hkn
    refine ⟨⟨fun j hj => ?_, p3, ?_, ?_⟩, ?_⟩
    · have hj1 : j < 1 := by unfold szW at hj; rw [o0, nI_clamp (by decide)] at hj; exact hj
      obtain rfl : j = 0 := by omega
      rw [p0, p1, inB_tt c1, inB_tt c2]
      exact fxP_eq h0 ht hc
    · rw [o3, o2]
      obtain ⟨⟨a, a1, a2, a3⟩, _⟩ := h.2.1
      rw [a3]
      exact ⟨fun z => absurd z (by decide), fun z => absurd z (nI_ne0 (by omega) (by omega))⟩
    · rw [o3]; exact fun z => absurd z (by decide)
    · rcases hp with hp | ⟨q, g, q1, q2, q3, q4, q5⟩
      · exact Or.inl (o4.trans hp)
      · obtain ⟨u1, u2⟩ := up q q1 g q4 q5
        exact Or.inr ⟨q, g, q1, o4.trans q2, o5.trans q3, u1, u2⟩
  · have hk2 : k < nW S := by omega
    obtain ⟨x1, x2⟩ := hx k hk2
    exact ⟨x1.sh (sz40 h hk2).2 h0 ht (fun j hj _ => old k hk2 j hj), x2.up (old k hk2 4 (by decide)) (old k hk2 5 (by decide)) (fun q hq => up q (by omega))⟩
theorem x_aOpen {S : Nat → Int32} {sg p f : Int32} {c : Int64 × Int64 × Nat} (hx : xS S) (h : vS S) (c1 : inB c.1) (c2 : inB c.2.1) (hc : fxP S c.1 c.2.1) (hp : p = -1 ∨ ∃ q g, q < nW S ∧ p = nI q ∧ f = nI g ∧ g < szW S (23 + 166 * q) ∧ S (23 + 166 * q + 6 + 4 * g + 3) = 2) : xS (nxS S (aOpen S sg p f (some c)).2) := by
  have := (nW_of h).1
  by_cases h5 : nW S = 5
  · rw [show aOpen S sg p f (some c) = (-1000003, none) from if_pos h5]; exact hx
  · rw [show aOpen S sg p f (some c) = (nI (nW S), some (oF S (nW S) sg p f c)) from if_neg h5]
    dsimp only [nxS]
    exact x_open hx h (by omega) c1 c2 hc hp
theorem x_begin {S : Nat → Int32} {x y sg : Int32} (hx : xS S) (h : vS S) : xS (nxS S (aBegin S x y sg).2) := by
  unfold aBegin
  split
  · cases hc : gCor (tF S) (tP S) (tQ S) (tN S) (tM S) 0 x.toInt64 y.toInt64 with
    | none => exact hx
    | some c =>
      obtain ⟨c1, c2, _⟩ := gCor_in _ _ _ _ hc
      exact x_aOpen hx h c1 c2 (gCor_fx _ _ _ _ hc) (Or.inl rfl)
  · exact hx
/-- what a branch is begun from -/
theorem br_of {S : Nat → Int32} {w p : Int32} (h : vS S) (hw : inI w 0 (S 1 - 1)) (hp : inI p 0 (S (23 + 166 * w.toNatClampNeg) - 1)) : ∃ a b, a < nW S ∧ w = nI a ∧ b < szW S (23 + 166 * a) ∧ p = nI b := by
  obtain ⟨w5, w1, wk⟩ := nW_of h
  obtain ⟨a, ha, rfl⟩ := (isW (m := nW S) (by omega)).mp (w1 ▸ hw)
  rw [nI_clamp (by omega)] at hp
  obtain ⟨⟨z, hz⟩, _⟩ := wk a ha
  rw [hz.1] at hp
  obtain ⟨b, hb, rfl⟩ := (isW (m := z + 1) (by have := hz.2.1; omega)).mp hp
  exact ⟨a, b, ha, rfl, by rw [szW_v hz]; exact hb, rfl⟩
theorem x_branch {S : Nat → Int32} {w p sd : Int32} (hx : xS S) (h : vS S) : xS (nxS S (aBranch S w p sd).2) := by
  unfold aBranch
  split
  · rename_i hok
    split
    · rename_i h2
      obtain ⟨a, b, ha, rfl, hb, rfl⟩ := br_of h hok.1 hok.2.1
      have h5 := (nW_of h).1
      have h40 := (sz40 h ha).2
      rw [nI_clamp (by omega), nI_clamp (by omega)] at h2
      cases hc : brC S (23 + 166 * (nI a).toNatClampNeg) ((nI b).toNatClampNeg - 1) sd with
      | none => exact hx
      | some c =>
        obtain ⟨c1, c2, _⟩ := gCor_in _ _ _ _ hc
        have e : ∀ b2, aBrn S (nI a) (nI b) sd b2 (some c) = aOpen S (brS S (23 + 166 * (nI a).toNatClampNeg) b2 sd c) (nI a) (nI b) (some c) := fun _ => rfl
        rw [e]
        exact x_aOpen hx h c1 c2 (gCor_fx _ _ _ _ hc) (Or.inr ⟨a, b, ha, rfl, rfl, hb, h2⟩)
    · exact hx
  · exact hx
theorem gGoP_pos {tr : Int32 → Option (Int64 × Int64 × Nat)} {kk : Nat} {c : Int64 × Int64 × Nat} : ∀ e k, gGoP tr e k = some (kk, c) → 1 ≤ kk
  | 0, _, h => by rw [gGoP] at h; exact absurd h (by simp)
  | e + 1, k, h => by
    rw [gGoP] at h
    by_cases h0 : k = 0
    · rw [if_pos h0] at h; exact absurd h (by simp)
    · rw [if_neg h0] at h
      cases ht : tr (nI k) with
      | some d =>
        rw [ht] at h
        have e1 := Prod.mk.inj (Option.some.inj h)
        omega
      | none =>
        rw [ht] at h
        exact gGoP_pos e (k / 2) h
theorem gTrR_fx {f : Nat → Int32} {p q : Nat → Nat} {n m : Nat} {x y s k : Int32} {c : Int64 × Int64 × Nat} (h : gTrR f p q n m x y s k = some c) : fxC f p q n c.1 c.2.1 := by
  unfold gTrR at h
  split at h
  · exact absurd h (by simp)
  · split at h
    · exact absurd h (by simp)
    · rename_i hc
      split at h
      · exact absurd h (by simp)
      · obtain rfl := Option.some.inj h
        exact gCor_fx _ _ _ _ hc
theorem gPr_ne {rd : Int32} {k g : Nat} (hk : 1 ≤ k) (hk2 : k ≤ 128) (hg : 1 ≤ g) (hg2 : g ≤ 128) : ¬ gPr rd (nI k) (nI g) = 0 := by
  unfold gPr
  split
  · split
    · exact nI_ne0 (by omega) (by omega)
    · split
      · rename_i h; intro z; rw [z] at h; exact absurd h (by decide)
      · decide
  · split
    · rw [show (2 : Int32) = nI 2 from rfl, pk_mul]; exact nI_ne0 (by omega) (by omega)
    · exact nI_ne0 (by omega) (by omega)
theorem x_st {S : Nat → Int32} {a z : Nat} (hx : xS S) (h : vS S) (ha : a < nW S) (hv : vW S (23 + 166 * a) z) (hs : ¬ gStop S (23 + 166 * a)) : xS (stR S (23 + 166 * a)).1 := by
  have hz := gStop_z hv hs
  obtain ⟨w5, w1, wk⟩ := nW_of h
  have en := (vS_st h ha hv hz).2
  have oo : ∀ j, j < 23 + 166 * a ∨ 23 + 166 * a + 166 ≤ j ∨ j = 23 + 166 * a + 4 ∨ j = 23 + 166 * a + 5 → (stR S (23 + 166 * a)).1 j = S j := fun j hj => stR_o hv hz hj
  have h0 : (stR S (23 + 166 * a)).1 0 = S 0 := oo 0 (by omega)
  have ht : ∀ j, 5 ≤ j → j < 23 → (stR S (23 + 166 * a)).1 j = S j := fun j _ j2 => oo j (by omega)
  have key : xW (stR S (23 + 166 * a)).1 (23 + 166 * a) ∧ szW S (23 + 166 * a) ≤ szW (stR S (23 + 166 * a)).1 (23 + 166 * a) ∧ ∀ f, f < szW S (23 + 166 * a) → (stR S (23 + 166 * a)).1 (23 + 166 * a + 6 + 4 * f + 3) = S (23 + 166 * a + 6 + 4 * f + 3) := by
    obtain ⟨x1, x2, x3, x4⟩ := (hx a ha).1
    have esz := szW_v hv
    have hn : (S (23 + 166 * a)).toNatClampNeg = z + 1 := esz
    generalize hw : 23 + 166 * a = w at *
    have hw23 : 23 ≤ w := by omega
    obtain ⟨v1, v2, v3, ⟨k0, k1, k2⟩, v5, v6⟩ := id hv
    have hp : (S (w + 2)).toNatClampNeg = k0 := by rw [k2, nI_clamp (by omega)]
    cases hg : gGoP (gTrR (tF S) (tP S) (tQ S) (tN S) (tM S) (S (w + 6 + 4 * z + 0)) (S (w + 6 + 4 * z + 1)) (S (w + 1))) k0 k0 with
    | none =>
      have hst : stR S w = (upd (upd S (w + 2) 0) (w + 3) 1, false) := by unfold stR; rw [hn, hp, Nat.add_sub_cancel, hg]
      rw [hst] at h0 ht ⊢
      dsimp only at h0 ht ⊢
      have ew : upd (upd S (w + 2) 0) (w + 3) 1 w = S w := by rw [upd_o (by omega), upd_o (by omega)]
      refine ⟨⟨fun p hp2 => ?_, ?_, ?_, ?_⟩, ?_, fun f _ => ?_⟩
      · have hp3 : p < szW S w := by unfold szW at hp2 ⊢; rw [ew] at hp2; exact hp2
        simp (disch := omega) only [upd_o]
        exact fxP_eq h0 ht (x1 p hp3)
      · simp (disch := omega) only [upd_o]; exact x2
      · simp (disch := omega) only [upd_o, upd_s]
      · intro _
        rw [ew, v1]
        exact fun q => absurd ((nI_eq (by omega) (by decide)).mp (show nI (z + 1) = nI 40 from q)) (by omega)
      · unfold szW; rw [ew]; exact Nat.le_refl _
      · simp (disch := omega) only [upd_o]
    | some kc =>
      obtain ⟨kk, c⟩ := kc
      have hst : stR S w = (goF (tF S) (tP S) (tQ S) (tN S) S w (z + 1) (S (w + 6 + 4 * z + 0)) (S (w + 6 + 4 * z + 1)) kk c, true) := by unfold stR; rw [hn, hp, Nat.add_sub_cancel, hg]
      rw [hst] at h0 ht ⊢
      dsimp only at h0 ht ⊢
      obtain ⟨q1, q2⟩ := gGoP_some _ _ hg
      have q3 := gGoP_pos _ _ hg
      obtain ⟨c1, c2, c3, c4⟩ := gTrR_some q2
      have c5 := gTrR_fx q2
      obtain ⟨_, ⟨g, g1, g2, g3⟩, _⟩ := h.2.1
      obtain ⟨p0, p1, p2, p3⟩ := goF_p (f := tF S) (p := tP S) (q := tQ S) (n1 := tN S) (s := S) (w := w) (n := z + 1) (k := kk) (x := S (w + 6 + 4 * z + 0)) (y := S (w + 6 + 4 * z + 1)) (c := c)
      have ew : szW (goF (tF S) (tP S) (tQ S) (tN S) S w (z + 1) (S (w + 6 + 4 * z + 0)) (S (w + 6 + 4 * z + 1)) kk c) w = z + 2 := by unfold szW; rw [goF_w, nI_clamp (by omega)]
      have old : ∀ p, p < z + 1 → ∀ e, e < 4 → goF (tF S) (tP S) (tQ S) (tN S) S w (z + 1) (S (w + 6 + 4 * z + 0)) (S (w + 6 + 4 * z + 1)) kk c (w + 6 + 4 * p + e) = S (w + 6 + 4 * p + e) := fun p hp e he => goF_o (by omega) (by omega) (by omega) (by omega)
      refine ⟨⟨fun p hp2 => ?_, ?_, ?_, ?_⟩, ?_, fun f hf => old f (by omega) 3 (by decide)⟩
      · rw [ew] at hp2
        by_cases hpz : p = z + 1
        · rw [hpz, p0, p1, inB_tt c1, inB_tt c2]
          exact fxP_eq h0 ht c5
        · rw [old p (by omega) 0 (by decide), old p (by omega) 1 (by decide)]
          exact fxP_eq h0 ht (x1 p (by omega))
      · rw [old 0 (by omega) 3 (by decide)]; exact x2
      · rw [goF_2 (by omega), goF_o (by omega) (by omega) (by omega) (by omega), g3]
        exact ⟨fun q => absurd (Or.inl q) hs, fun q => absurd q (gPr_ne q3 (by omega) g1 g2)⟩
      · rw [goF_o (by omega) (by omega) (by omega) (by omega)]
        exact fun q => absurd (Or.inl q) hs
      · rw [ew]; omega
  obtain ⟨k1, k2, k3⟩ := key
  intro k hk
  rw [en] at hk
  obtain ⟨x1, x2⟩ := hx k hk
  refine ⟨?_, x2.up (oo _ (by omega)) (oo _ (by omega)) (fun q hq f hf h2 => ?_)⟩
  · by_cases hka : k = a
    · subst hka; exact k1
    · exact x1.sh (sz40 h hk).2 h0 ht (fun j hj _ => oo _ (by omega))
  · by_cases hqa : q = a
    · subst hqa
      exact ⟨by omega, (k3 f hf).trans h2⟩
    · have h40 := (sz40 h (k := q) (by omega)).2
      refine ⟨?_, by rw [oo _ (by omega)]; exact h2⟩
      unfold szW at hf ⊢
      rw [oo _ (by omega)]
      exact hf
theorem x_wk {a : Nat} : ∀ d S, vS S → xS S → a < nW S → xS (wkR (23 + 166 * a) d S).1
  | 0, _, _, hx, _ => hx
  | d + 1, S, h, hx, ha => by
    rw [wkR]
    by_cases hs : gStop S (23 + 166 * a)
    · rw [if_pos hs]; exact hx
    · rw [if_neg hs]
      obtain ⟨w5, w1, wk⟩ := nW_of h
      obtain ⟨⟨z, hv⟩, _⟩ := wk a ha
      have h2 := vS_st h ha hv (gStop_z hv hs)
      have h3 := x_st hx h ha hv hs
      split
      · exact x_wk d _ h2.1 h3 (by rw [h2.2]; exact ha)
      · exact h3
theorem x_step {S : Nat → Int32} {w k : Int32} (hx : xS S) (h : vS S) : xS (nxS S (aStep S w k).2) := by
  unfold aStep
  split
  · rename_i hok
    split
    · exact hx
    · obtain ⟨w5, w1, wk⟩ := nW_of h
      obtain ⟨a, ha, rfl⟩ := (isW (m := nW S) (by omega)).mp (w1 ▸ hok.1)
      rw [nI_clamp (by omega)]
      exact x_wk _ S h hx ha
  · exact hx
theorem x_set {S : Nat → Int32} {x v : Int32} (hx : xS S) (h : vS S) : xS (nxS S (aSet S x v).2) := by
  unfold aSet
  split
  · rename_i hok
    have hj : ∃ j, j < 3 ∧ x.toNatClampNeg = j := by
      rcases hok with ⟨rfl, _⟩ | ⟨rfl, _⟩ | ⟨rfl, _⟩
      · exact ⟨0, by decide, rfl⟩
      · exact ⟨1, by decide, rfl⟩
      · exact ⟨2, by decide, rfl⟩
    obtain ⟨j, hj, e⟩ := hj
    rw [e]
    dsimp only [nxS]
    have en : nW (upd S (2 + j) v) = nW S := by unfold nW; rw [upd_o (by omega)]
    intro k hk
    rw [en] at hk
    obtain ⟨x1, x2⟩ := hx k hk
    refine ⟨x1.sh (sz40 h hk).2 (upd_o (by omega)) (fun j2 _ _ => upd_o (by omega)) (fun j2 _ _ => upd_o (by omega)), x2.up (upd_o (by omega)) (upd_o (by omega)) (fun q hq f hf h2 => ⟨?_, by rw [upd_o (by omega)]; exact h2⟩)⟩
    unfold szW at hf ⊢
    rw [upd_o (by omega)]
    exact hf
  · exact hx
theorem x_term {S : Nat → Int32} {f x y : Int32} (hx : xS S) : xS (nxS S (aTerm S f x y).2) := by
  unfold aTerm
  split
  · split
    · exact hx
    · exact xS_0 adF_4.1
  · exact hx
theorem x_dropT {S : Nat → Int32} {k : Int32} (hx : xS S) : xS (nxS S (aDropT S k).2) := by
  unfold aDropT
  split
  · exact hx
  · split
    · exact hx
    · refine xS_0 ?_
      unfold rmF
      exact upd_s
theorem x_read {tx : Nat → Int32} {ln : Nat} {S : Nat → Int32} (hx : xS S) : xS (nxS S (aRead tx ln S).2) := by
  unfold aRead
  split
  · exact xS_0 rfAll_4.1
  · exact hx
theorem x_drop {S F : Nat → Int32} {a : Nat} (hx : xS S) (h : vS S) (hd : drS S F a) : xS F := by
  obtain ⟨w5, w1, wk⟩ := nW_of h
  obtain ⟨d1, d2, d3⟩ := hd
  have hle := kc_le (gPr4 S) a (nW S)
  have en : nW F = kc (gPr4 S) a (nW S) := by
    show (F 1).toNatClampNeg = _
    rw [d1, nI_clamp (by omega)]
  intro q hq
  rw [en] at hq
  obtain ⟨p, hp, hpf, rfl⟩ := kc_sur (nW S) q hq
  obtain ⟨x1, x2⟩ := hx p hp
  refine ⟨x1.sh (sz40 h hp).2 (d2 0 (by decide) (by decide)) (fun j _ j2 => d2 j j2 (by omega)) (fun j hj hj4 => by rw [d3 p hp hpf j hj, if_neg hj4]), ?_⟩
  rcases x2 with e | ⟨q0, f, hq0, e, e5, hf, h2⟩
  · left
    rw [d3 p hp hpf 4 (by decide), if_pos rfl]
    unfold npR
    rw [if_pos (show gPr4 S p < 0 from by unfold gPr4; rw [e]; decide)]
  · right
    have e2 : gPr4 S p = nI q0 := e
    have hpa : p ≠ a := fun e9 => hpf (by rw [e9]; exact fam_self _ _)
    have hu := fam_up (pr := gPr4 S) (k := a) hpa hq0 (by omega) e2
    rw [hu] at hpf
    have h40 := (sz40 h (k := q0) (by omega)).2
    have hpf2 : ¬ fam (gPr4 S) a p = true := by rw [hu]; exact hpf
    refine ⟨kc (gPr4 S) a q0, f, kc_lt hq0 hpf, ?_, ?_, ?_, ?_⟩
    · rw [d3 p hp hpf2 4 (by decide), if_pos rfl]
      unfold npR
      rw [e2, if_neg (nI_pos (by omega)), nI_clamp (by omega)]
      unfold nmR
      rw [if_neg hpf]
    · rw [d3 p hp hpf2 5 (by decide), if_neg (by decide)]; exact e5
    · have := d3 q0 (by omega) hpf 0 (by decide)
      rw [if_neg (by decide)] at this
      unfold szW at hf ⊢
      rw [show F (23 + 166 * kc (gPr4 S) a q0) = S (23 + 166 * q0) from this]
      exact hf
    · have := d3 q0 (by omega) hpf (6 + 4 * f + 3) (by omega)
      rw [if_neg (by omega), ← Nat.add_assoc, ← Nat.add_assoc, ← Nat.add_assoc, ← Nat.add_assoc] at this
      rw [this]; exact h2
