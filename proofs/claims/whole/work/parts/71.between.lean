/-! what holds between the law's calls -/
def lwI (T : gTy) (r : gR) (i : gI) (x : Nat) : Prop := ∃ (ws : Nat → Nat) (hs : Nat → Nat → Nat) (S : Nat → Int32) (P : Nat → Nat → Int32) (n ln : Nat), lyX T r x ws hs ∧ lyM T r (x + 194) ∧ rX i x ws hs S P n ∧ vS S ∧ i (x + 194 + 1) = S ∧ rpP i (x + 194) P n ∧ (∀ j, j < n → vS (P j)) ∧ i (x + 187) 1 = nI ln ∧ i (x + 194) 5 = nI ln ∧ ln ≤ 60 ∧ i (x + 187 + 1) = i (x + 194 + 4)
theorem rX.kept {T : gTy} {r : gR} {i i' : gI} {x n : Nat} {ws : Nat → Nat} {hs : Nat → Nat → Nat} {S : Nat → Int32} {P : Nat → Nat → Int32} (h : rX i x ws hs S P n) (hX : lyX T r x ws hs) (hf : ∀ c, x + 1 ≤ c → c < x + 183 → i' c = i c) : rX i' x ws hs S P n :=
  h.hist hX (fun c c1 c2 => hf c (by omega) (by omega)) (h.1.kept hX.2.2.2.2.2.2.1 (fun c c1 c2 => hf c (by omega) (by omega)))
theorem vP_nx {S : Nat → Int32} {P : Nat → Nat → Int32} {n : Nat} {o : Option (Nat → Int32)} (hS : vS S) (hn : n ≤ 4) (hV : ∀ j, j < n → vS (P j)) : ∀ j, j < nxN n o → vS (nxP n P S o j) := by
  intro j hj
  cases o with
  | none => exact hV j hj
  | some F =>
    dsimp only [nxN, nxP] at hj ⊢
    unfold psN at hj
    unfold psP
    by_cases h4 : n < 4
    · rw [if_pos h4] at hj
      rw [if_pos h4]
      by_cases hjn : j = n
      · rw [if_pos hjn]; exact hS
      · rw [if_neg hjn]; exact hV j (by omega)
    · rw [if_neg h4] at hj
      rw [if_neg h4]
      by_cases hj3 : j = 3
      · rw [if_pos hj3]; exact hS
      · rw [if_neg hj3]; exact hV (j + 1) (by omega)
theorem lwI.act {T : gTy} {r : gR} {i i1 i2 : gI} {x n ln : Nat} {ws : Nat → Nat} {hs : Nat → Nat → Nat} {S : Nat → Int32} {P : Nat → Nat → Int32} {o : Option (Nat → Int32)} (hX : lyX T r x ws hs) (hM : lyM T r (x + 194)) (hN : vS (nxS S o)) (hS : vS S) (hn : n ≤ 4) (hV : ∀ j, j < n → vS (P j))
  (f1 : frC x i i1) (g1 : rX i1 x ws hs (nxS S o) (nxP n P S o) (nxN n o)) (q2 : rfP (x + 194) i1 i2 (nxS S o) (nxP n P S o) (nxN n o)) (hl : i (x + 187) 1 = nI ln) (hlm : i (x + 194) 5 = nI ln) (hl6 : ln ≤ 60) (htx : i (x + 187 + 1) = i (x + 194 + 4)) : lwI T r i2 x := by
  obtain ⟨q3, q4, q5, q6, q7⟩ := q2
  refine ⟨ws, hs, _, _, _, ln, hX, hM, g1.kept hX (fun c c1 c2 => q3 c (by omega)), hN, q6, q7, vP_nx hS hn hV, ?_, ?_, hl6, ?_⟩
  · rw [q3 _ (by omega), f1 _ (by omega)]; exact hl
  · rw [q4, f1 _ (by omega)]; exact hlm
  · rw [q3 _ (by omega), f1 _ (by omega), q5, f1 _ (by omega)]; exact htx
theorem rpSt.mark {T : gTy} {r : gR} {i i' : gI} {b : Nat} {ws : Nat → Nat} {S : Nat → Int32} (h : rpSt i b ws S) (hl : lySt T r b ws) (hf : ∀ c, c ≠ b + 5 + 2 → b ≤ c → c < b + 36 → i' c = i c) : rpSt i' b ws S := by
  obtain ⟨n, m, h1, h2, h3⟩ := h
  have h8 := hl.2.2.2.2.2.1.2.2.2.2.2.2.2
  refine ⟨n, m, h1.kept (fun c c1 c2 => hf c (by omega) (by omega) (by omega)), ⟨h2.1, ?_, h2.2.2.1, fun k hk => ?_⟩, h3.kept (hf _ (by omega) (by omega) (by omega))⟩
  · rw [hf _ (by omega) (by omega) (by omega)]; exact h2.2.1
  · obtain ⟨y, hy⟩ := h2.2.2.2 k hk
    have := h2.1
    obtain ⟨_, _, a1, a2⟩ := h8.1 k (by omega)
    exact ⟨y, hy.kept (fun c c1 c2 => hf c (by omega) (by omega) (by omega))⟩
theorem lwI.ask {T : gTy} {r : gR} {i i1 i2 : gI} {x : Nat} (h : lwI T r i x) (f : ∀ c, c ≠ x + 184 → c ≠ x + 1 + 5 + 2 → i1 c = i c) (q : frM (x + 194) i1 i2) : lwI T r i2 x := by
  obtain ⟨ws, hs, S, P, n, ln, hX, hM, hRX, hS, he, hP, hV, hl, hlm, hl6, htx⟩ := h
  obtain ⟨q1, q2⟩ := q
  have e : ∀ c, c ≠ x + 184 → c ≠ x + 1 + 5 + 2 → c ≠ x + 194 → i2 c = i c := fun c c1 c2 c3 => (q1 c c3).trans (f c c1 c2)
  have e5 : ∀ j, j ≠ 6 → j ≠ 7 → j ≠ 8 → i2 (x + 194) j = i (x + 194) j := fun j j1 j2 j3 => by rw [q2 j j1 j2 j3, f _ (by omega) (by omega)]
  refine ⟨ws, hs, S, P, n, ln, hX, hM, hRX.hist hX (fun c c1 c2 => e c (by omega) (by omega) (by omega)) (hRX.1.mark hX.2.2.2.2.2.2.1 (fun c c0 c1 c2 => e c (by omega) c0 (by omega))), hS, ?_, hP.eq (e5 3 (by decide) (by decide) (by decide)) (e _ (by omega) (by omega) (by omega)), hV, ?_, ?_, hl6, ?_⟩
  · rw [e _ (by omega) (by omega) (by omega)]; exact he
  · rw [e _ (by omega) (by omega) (by omega)]; exact hl
  · rw [e5 5 (by decide) (by decide) (by decide)]; exact hlm
  · rw [e _ (by omega) (by omega) (by omega), e _ (by omega) (by omega) (by omega)]; exact htx
theorem lwI.txt {T : gTy} {r : gR} {i i2 : gI} {x ln : Nat} (h : lwI T r i x) (e : ∀ c, c ≠ x + 187 → c ≠ x + 187 + 1 → c ≠ x + 194 → c ≠ x + 194 + 4 → i2 c = i c) (e3 : i2 (x + 194) 3 = i (x + 194) 3) (hl : i2 (x + 187) 1 = nI ln) (hlm : i2 (x + 194) 5 = nI ln) (hl6 : ln ≤ 60) (htx : i2 (x + 187 + 1) = i2 (x + 194 + 4)) : lwI T r i2 x := by
  obtain ⟨ws, hs, S, P, n, _, hX, hM, hRX, hS, he, hP, hV, _, _, _, _⟩ := h
  exact ⟨ws, hs, S, P, n, ln, hX, hM, hRX.kept hX (fun c c1 c2 => e c (by omega) (by omega) (by omega) (by omega)), hS, by rw [e _ (by omega) (by omega) (by omega) (by omega)]; exact he, hP.eq e3 (e _ (by omega) (by omega) (by omega) (by omega)), hV, hl, hlm, hl6, htx⟩
theorem lyM.rk {T : gTy} {r r' : gR} {m : Nat} (h : lyM T r m) (e : r' m = r m) : lyM T r' m := by unfold lyM; rw [e]; exact h
theorem gs_ge {a L : Nat} (hL : L ≤ 2048) (h : ¬ nI L - 4 < nI a) (ha : a < 2 ^ 30) : a + 4 ≤ L := by
  have : ¬ (nI L - 4).toInt < (nI a).toInt := fun z => h (Int32.lt_iff_toInt_lt.mpr z)
  rw [show (4 : Int32) = nI 4 from rfl, pk_sub_toInt (by omega) (by decide), nI_toInt (by omega)] at this
  omega
