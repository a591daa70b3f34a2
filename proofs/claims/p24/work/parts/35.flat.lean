/-! the flat state, valid; a step of it -/
def tN (s : Nat → Int32) : Nat := (s 0).toNatClampNeg
def tF (s : Nat → Int32) (k : Nat) : Int32 := if k < 6 then s (5 + 3 * k + 0) else 0
def tP (s : Nat → Int32) (k : Nat) : Nat := if k < 6 then (s (5 + 3 * k + 1)).toNatClampNeg else 0
def tQ (s : Nat → Int32) (k : Nat) : Nat := if k < 6 then (s (5 + 3 * k + 2)).toNatClampNeg else 0
def tM (s : Nat → Int32) : Nat := (s 4).toNatClampNeg
theorem t_eq {s s' : Nat → Int32} (h : ∀ j, j < 23 → j ≠ 1 → s' j = s j) : tN s' = tN s ∧ tF s' = tF s ∧ tP s' = tP s ∧ tQ s' = tQ s ∧ tM s' = tM s := by
  refine ⟨?_, ?_, ?_, ?_, ?_⟩
  · unfold tN; rw [h 0 (by decide) (by decide)]
  · funext k; unfold tF; by_cases hk : k < 6
    · rw [if_pos hk, if_pos hk, h _ (by omega) (by omega)]
    · rw [if_neg hk, if_neg hk]
  · funext k; unfold tP; by_cases hk : k < 6
    · rw [if_pos hk, if_pos hk, h _ (by omega) (by omega)]
    · rw [if_neg hk, if_neg hk]
  · funext k; unfold tQ; by_cases hk : k < 6
    · rw [if_pos hk, if_pos hk, h _ (by omega) (by omega)]
    · rw [if_neg hk, if_neg hk]
  · unfold tM; rw [h 4 (by decide) (by decide)]
/-- the terms are valid -/
def vT (s : Nat → Int32) : Prop := mv s (tN s) (tF s) (tP s) (tQ s) ∧ cf (tN s) (tF s) (tP s) (tQ s)
theorem vT.of {s : Nat → Int32} {n : Nat} {f : Nat → Int32} {p q : Nat → Nat} (h : mv s n f p q) (hc : cf n f p q) : vT s := by
  obtain ⟨h1, h2, h3⟩ := h
  have hn : tN s = n := by unfold tN; rw [h2, nI_clamp (by omega)]
  have hk : ∀ k, k < n → tF s k = f k ∧ tP s k = p k ∧ tQ s k = q k := fun k hk => by
    obtain ⟨e1, e2, e3, e4⟩ := h3 k hk
    unfold tF tP tQ
    rw [if_pos (by omega), if_pos (by omega), if_pos (by omega), e1, e2, e3, nI_clamp (by omega), nI_clamp (by omega)]
    exact ⟨rfl, rfl, rfl⟩
  unfold vT
  rw [hn]
  refine ⟨⟨h1, h2, fun k q => ?_⟩, fun k q => ?_⟩
  · obtain ⟨e1, e2, e3⟩ := hk k q
    rw [e1, e2, e3]; exact h3 k q
  · obtain ⟨e1, e2, e3⟩ := hk k q
    rw [e1, e2, e3]; exact hc k q
theorem vT.eq {s s' : Nat → Int32} (h : vT s) (he : ∀ j, j < 23 → j ≠ 1 → s' j = s j) : vT s' := by
  obtain ⟨e1, e2, e3, e4, e5⟩ := t_eq he
  unfold vT
  rw [e1, e2, e3, e4]
  exact ⟨h.1.flat (he 0 (by decide) (by decide)) (fun j h1 h2 => he j h2 (by omega)), h.2⟩
/-- the settings are valid -/
def vSe (s : Nat → Int32) : Prop := (∃ a, 1 ≤ a ∧ a ≤ 64 ∧ s 2 = nI a) ∧ (∃ g, 1 ≤ g ∧ g ≤ 128 ∧ s 3 = nI g) ∧ 2 ≤ tM s ∧ tM s ≤ 20 ∧ s 4 = nI (tM s)
theorem vSe.eq {s s' : Nat → Int32} (h : vSe s) (h2 : s' 2 = s 2) (h3 : s' 3 = s 3) (h4 : s' 4 = s 4) : vSe s' := by unfold vSe tM at *; rw [h2, h3, h4]; exact h
/-- a walk at w, of z + 1 places, is valid -/
def vW (s : Nat → Int32) (w z : Nat) : Prop := s w = nI (z + 1) ∧ z + 1 ≤ 40 ∧ (s (w + 1) = 1 ∨ s (w + 1) = -1) ∧ (∃ k, k ≤ 128 ∧ s (w + 2) = nI k) ∧ (s (w + 3) = 0 ∨ s (w + 3) = 1) ∧ ∀ p, p ≤ z → inB (s (w + 6 + 4 * p + 0)).toInt64 ∧ inB (s (w + 6 + 4 * p + 1)).toInt64 ∧ (s (w + 6 + 4 * p + 3) = 2 → ∃ b, p = b + 1 ∧ ¬ (s (w + 6 + 4 * p + 0) = s (w + 6 + 4 * b + 0) ∧ s (w + 6 + 4 * p + 1) = s (w + 6 + 4 * b + 1)))
theorem vW.eq {s s' : Nat → Int32} {w z : Nat} (h : vW s w z) (he : ∀ j, j < 166 → s' (w + j) = s (w + j)) : vW s' w z := by
  obtain ⟨h1, h2, h3, h4, h5, h6⟩ := h
  have g : ∀ p, p ≤ z → ∀ c, c < 4 → s' (w + 6 + 4 * p + c) = s (w + 6 + 4 * p + c) := fun p hp c hc => by
    have := he (6 + 4 * p + c) (by omega)
    rwa [← Nat.add_assoc, ← Nat.add_assoc] at this
  refine ⟨(he 0 (by decide)).trans h1, h2, ?_, ?_, ?_, fun p hp => ?_⟩
  · rw [he 1 (by decide)]; exact h3
  · rw [he 2 (by decide)]; exact h4
  · rw [he 3 (by decide)]; exact h5
  · rw [g p hp 0 (by decide), g p hp 1 (by decide), g p hp 3 (by decide)]
    obtain ⟨a1, a2, a3⟩ := h6 p hp
    refine ⟨a1, a2, fun z2 => ?_⟩
    obtain ⟨b, e, n⟩ := a3 z2
    exact ⟨b, e, by rw [g b (by omega) 0 (by decide), g b (by omega) 1 (by decide)]; exact n⟩
/-- the flat state is valid -/
def vS (s : Nat → Int32) : Prop := vT s ∧ vSe s ∧ ∃ n, n ≤ 5 ∧ s 1 = nI n ∧ ∀ k, k < n → (∃ z, vW s (23 + 166 * k) z) ∧ (s (23 + 166 * k + 4) = -1 ∨ ∃ q, q < k ∧ s (23 + 166 * k + 4) = nI q)
theorem gCor_in {f : Nat → Int32} {p q : Nat → Nat} {n : Nat} {c : Int64 × Int64 × Nat} : ∀ m rd x y, gCor f p q n m rd x y = some c → inB c.1 ∧ inB c.2.1 ∧ c.2.2 ≤ rd + m
  | 0, _, _, _, h => by rw [gCor] at h; exact absurd h (by simp)
  | m + 1, rd, x, y, h => by
    rw [gCor] at h
    by_cases h1 : inB x ∧ inB y
    · rw [if_pos h1] at h
      split at h
      · exact absurd h (by simp)
      · split at h
        · obtain rfl := Option.some.inj h
          exact ⟨h1.1, h1.2, by show rd + 1 ≤ _; omega⟩
        · have := gCor_in m (rd + 1) _ _ h
          exact ⟨this.1, this.2.1, by omega⟩
    · rw [if_neg h1] at h; exact absurd h (by simp)
theorem gGoP_some {tr : Int32 → Option (Int64 × Int64 × Nat)} {kk : Nat} {c : Int64 × Int64 × Nat} : ∀ e k, gGoP tr e k = some (kk, c) → kk ≤ k ∧ tr (nI kk) = some c
  | 0, _, h => by rw [gGoP] at h; exact absurd h (by simp)
  | e + 1, k, h => by
    rw [gGoP] at h
    by_cases h0 : k = 0
    · rw [if_pos h0] at h; exact absurd h (by simp)
    · rw [if_neg h0] at h
      cases ht : tr (nI k) with
      | some d =>
        rw [ht] at h
        have e1 := Prod.mk.inj (Option.some.inj h)
        exact ⟨by omega, by rw [← e1.1, ht, e1.2]⟩
      | none =>
        rw [ht] at h
        have := gGoP_some e (k / 2) h
        exact ⟨by omega, this.2⟩
theorem gGoP_ext {t1 t2 : Int32 → Option (Int64 × Int64 × Nat)} {N : Nat} (h : ∀ k, k ≤ N → t1 (nI k) = t2 (nI k)) : ∀ e k, k ≤ N → gGoP t1 e k = gGoP t2 e k
  | 0, _, _ => rfl
  | e + 1, k, hk => by rw [gGoP, gGoP, h k hk, gGoP_ext h e (k / 2) (by omega)]
theorem gTrR_some {f : Nat → Int32} {p q : Nat → Nat} {n m : Nat} {x y s k : Int32} {c : Int64 × Int64 × Nat} (h : gTrR f p q n m x y s k = some c) : inB c.1 ∧ inB c.2.1 ∧ c.2.2 ≤ m ∧ ¬ (c.1.toInt32 = x ∧ c.2.1.toInt32 = y) := by
  unfold gTrR at h
  split at h
  · exact absurd h (by simp)
  · split at h
    · exact absurd h (by simp)
    · split at h
      · exact absurd h (by simp)
      · rename_i c0 hc hn
        obtain rfl := Option.some.inj h
        have := gCor_in _ _ _ _ hc
        exact ⟨this.1, this.2.1, by omega, hn⟩
theorem gPr_ok {rd : Int32} {k g : Nat} (hk : k ≤ 128) (hg : g ≤ 128) : ∃ a, a ≤ 128 ∧ gPr rd (nI k) (nI g) = nI a := by
  unfold gPr
  split
  · split
    · exact ⟨k, hk, rfl⟩
    · split
      · exact ⟨k / 2, by omega, by rw [gl2, pk_div (by omega) (by decide) (by decide)]⟩
      · exact ⟨1, by decide, rfl⟩
  · split
    · rename_i h
      rw [gl2, pk_mul] at h ⊢
      exact ⟨2 * k, by have := (nI_leI (by omega) (by omega)).mp h; omega, rfl⟩
    · exact ⟨g, hg, rfl⟩
/-- a step of the walk at w: the flat state after it, and whether a place came -/
def stR (s : Nat → Int32) (w : Nat) : (Nat → Int32) × Bool :=
  match gGoP (gTrR (tF s) (tP s) (tQ s) (tN s) (tM s) (s (w + 6 + 4 * ((s w).toNatClampNeg - 1) + 0)) (s (w + 6 + 4 * ((s w).toNatClampNeg - 1) + 1)) (s (w + 1))) (s (w + 2)).toNatClampNeg (s (w + 2)).toNatClampNeg with
  | none => (upd (upd s (w + 2) 0) (w + 3) 1, false)
  | some kc => (goF (tF s) (tP s) (tQ s) (tN s) s w (s w).toNatClampNeg (s (w + 6 + 4 * ((s w).toNatClampNeg - 1) + 0)) (s (w + 6 + 4 * ((s w).toNatClampNeg - 1) + 1)) kc.1 kc.2, true)
theorem goF_o {f : Nat → Int32} {p q : Nat → Nat} {n1 : Nat} {s : Nat → Int32} {w n k j : Nat} {x y : Int32} {c : Int64 × Int64 × Nat} (h : j ≠ w) (h1 : j ≠ w + 1) (h2 : j ≠ w + 2) (h3 : j < w + 6 + 4 * n ∨ w + 6 + 4 * n + 4 ≤ j) : goF f p q n1 s w n x y k c j = s j := by
  unfold goF arF jnF
  simp (disch := omega) only [upd_o]
theorem goF_w {f : Nat → Int32} {p q : Nat → Nat} {n1 : Nat} {s : Nat → Int32} {w n k : Nat} {x y : Int32} {c : Int64 × Int64 × Nat} : goF f p q n1 s w n x y k c w = nI (n + 1) := by
  unfold goF arF jnF
  simp (disch := omega) only [upd_o, upd_s]
theorem goF_1 {f : Nat → Int32} {p q : Nat → Nat} {n1 : Nat} {s : Nat → Int32} {w n k : Nat} {x y : Int32} {c : Int64 × Int64 × Nat} : goF f p q n1 s w n x y k c (w + 1) = if gWr f p q n1 x y (s (w + 1)) c < 0 then -(s (w + 1)) else s (w + 1) := by
  unfold goF arF jnF
  simp (disch := omega) only [upd_o, upd_s]
theorem goF_2 {f : Nat → Int32} {p q : Nat → Nat} {n1 : Nat} {s : Nat → Int32} {w n k : Nat} {x y : Int32} {c : Int64 × Int64 × Nat} (hw : 3 ≤ w) : goF f p q n1 s w n x y k c (w + 2) = gPr (nI c.2.2) (nI k) (s 3) := by
  unfold goF arF jnF
  simp (disch := omega) only [upd_o, upd_s]
theorem goF_p {f : Nat → Int32} {p q : Nat → Nat} {n1 : Nat} {s : Nat → Int32} {w n k : Nat} {x y : Int32} {c : Int64 × Int64 × Nat} : goF f p q n1 s w n x y k c (w + 6 + 4 * n + 0) = c.1.toInt32 ∧ goF f p q n1 s w n x y k c (w + 6 + 4 * n + 1) = c.2.1.toInt32 ∧ goF f p q n1 s w n x y k c (w + 6 + 4 * n + 2) = nI c.2.2 ∧ goF f p q n1 s w n x y k c (w + 6 + 4 * n + 3) = gKr (gWr f p q n1 x y (s (w + 1)) c) (gSum f p q x.toInt64 y.toInt64 2 n1) (gSum f p q c.1.toInt32.toInt64 c.2.1.toInt32.toInt64 2 n1) := by
  unfold goF arF jnF
  refine ⟨?_, ?_, ?_, ?_⟩ <;> simp (disch := omega) only [upd_o, upd_s]
theorem stR_o {s : Nat → Int32} {w j z : Nat} (hv : vW s w z) (hz : z + 1 < 40) (h : j < w ∨ w + 166 ≤ j ∨ j = w + 4 ∨ j = w + 5) : (stR s w).1 j = s j := by
  have hn : (s w).toNatClampNeg = z + 1 := by rw [hv.1, nI_clamp (by omega)]
  unfold stR
  split
  · show upd _ _ _ _ = _; rw [upd_o (by omega), upd_o (by omega)]
  · exact goF_o (by omega) (by omega) (by omega) (by omega)
theorem stR_v {s : Nat → Int32} {w z : Nat} (hs : vSe s) (hw : 23 ≤ w) (hv : vW s w z) (hz : z + 1 < 40) : vW (stR s w).1 w (if (stR s w).2 then z + 1 else z) := by
  obtain ⟨v1, v2, v3, ⟨k0, k1, k2⟩, v5, v6⟩ := id hv
  obtain ⟨_, ⟨g, _, g2, g3⟩, _⟩ := hs
  have hn : (s w).toNatClampNeg = z + 1 := by rw [v1, nI_clamp (by omega)]
  have hp : (s (w + 2)).toNatClampNeg = k0 := by rw [k2, nI_clamp (by omega)]
  unfold stR
  rw [hn, hp, Nat.add_sub_cancel]
  split
  · show vW (upd _ _ _) w z
    refine ⟨?_, v2, ?_, ⟨0, by decide, ?_⟩, Or.inr ?_, fun p hp => ?_⟩
    · rw [upd_o (by omega), upd_o (by omega)]; exact v1
    · rw [upd_o (by omega), upd_o (by omega)]; exact v3
    · rw [upd_o (by omega), upd_s]; rfl
    · rw [upd_s]
    · obtain ⟨a1, a2, a3⟩ := v6 p hp
      simp (disch := omega) only [upd_o]
      refine ⟨a1, a2, fun z2 => ?_⟩
      obtain ⟨b, e, n⟩ := a3 z2
      exact ⟨b, e, by first | exact n | (simp (disch := omega) only [upd_o]; exact n)⟩
  · rename_i kc hgo
    obtain ⟨kk, c⟩ := kc
    obtain ⟨q1, q2⟩ := gGoP_some _ _ hgo
    obtain ⟨c1, c2, c3, c4⟩ := gTrR_some q2
    show vW (goF _ _ _ _ _ _ _ _ _ kk c) w (z + 1)
    obtain ⟨p0, p1, p2, p3⟩ := goF_p (f := tF s) (p := tP s) (q := tQ s) (n1 := tN s) (s := s) (w := w) (n := z + 1) (k := kk) (x := s (w + 6 + 4 * z + 0)) (y := s (w + 6 + 4 * z + 1)) (c := c)
    refine ⟨goF_w, by omega, ?_, ?_, ?_, fun p hp => ?_⟩
    · rw [goF_1]
      split
      · rcases v3 with e | e <;> rw [e]
        · exact Or.inr rfl
        · exact Or.inl rfl
      · exact v3
    · rw [goF_2 (by omega), g3]
      exact gPr_ok (by omega) g2
    · rw [goF_o (by omega) (by omega) (by omega) (by omega)]; exact v5
    · by_cases he : p = z + 1
      · subst he
        rw [p0, p1, p3, inB_tt c1, inB_tt c2]
        refine ⟨c1, c2, fun _ => ⟨z, rfl, ?_⟩⟩
        rw [goF_o (j := w + 6 + 4 * z + 0) (by omega) (by omega) (by omega) (by omega), goF_o (j := w + 6 + 4 * z + 1) (by omega) (by omega) (by omega) (by omega)]
        exact c4
      · obtain ⟨a1, a2, a3⟩ := v6 p (by omega)
        rw [goF_o (j := w + 6 + 4 * p + 0) (by omega) (by omega) (by omega) (by omega), goF_o (j := w + 6 + 4 * p + 1) (by omega) (by omega) (by omega) (by omega), goF_o (j := w + 6 + 4 * p + 3) (by omega) (by omega) (by omega) (by omega)]
        refine ⟨a1, a2, fun z2 => ?_⟩
        obtain ⟨b, e, n⟩ := a3 z2
        refine ⟨b, e, ?_⟩
        rw [goF_o (j := w + 6 + 4 * b + 0) (by omega) (by omega) (by omega) (by omega), goF_o (j := w + 6 + 4 * b + 1) (by omega) (by omega) (by omega) (by omega)]
        exact n
theorem stR_3 {s : Nat → Int32} {w z : Nat} (hv : vW s w z) (hz : z + 1 < 40) : (stR s w).1 (w + 3) = if (stR s w).2 then s (w + 3) else 1 := by
  have hn : (s w).toNatClampNeg = z + 1 := by rw [hv.1, nI_clamp (by omega)]
  unfold stR
  split
  · show upd _ _ _ _ = _; rw [upd_s]; rfl
  · show goF _ _ _ _ _ _ _ _ _ _ _ (w + 3) = s (w + 3)
    exact goF_o (by omega) (by omega) (by omega) (by omega)
