/-! the object, between the law's calls -/
/-- the object at x: its flat state S, the history's n states P, the text's ln characters tx -/
def lwX (T : gTy) (r : gR) (i : gI) (x : Nat) (S : Nat → Int32) (P : Nat → Nat → Int32) (n : Nat) (tx : Nat → Int32) (ln : Nat) : Prop := ∃ (ws : Nat → Nat) (hs : Nat → Nat → Nat), lyX T r x ws hs ∧ rX i x ws hs S P n ∧ vS S ∧ n ≤ 4 ∧ (∀ j, j < n → vS (P j)) ∧ i (x + 187) 1 = nI ln ∧ ln ≤ 60 ∧ i (x + 187 + 1) = tx
theorem rX.kept {T : gTy} {r : gR} {i i' : gI} {x n : Nat} {ws : Nat → Nat} {hs : Nat → Nat → Nat} {S : Nat → Int32} {P : Nat → Nat → Int32} (h : rX i x ws hs S P n) (hX : lyX T r x ws hs) (hf : ∀ c, x + 1 ≤ c → c < x + 183 → i' c = i c) : rX i' x ws hs S P n :=
  h.hist hX (fun c c1 c2 => hf c (by omega) (by omega)) (h.1.kept hX.2.2.2.2.2.2.1 (fun c c1 c2 => hf c (by omega) (by omega)))
theorem vP_nx {S : Nat → Int32} {P : Nat → Nat → Int32} {n : Nat} {o : Option (Nat → Int32)} {V : (Nat → Int32) → Prop} (hS : V S) (hn : n ≤ 4) (hV : ∀ j, j < n → V (P j)) : ∀ j, j < nxN n o → V (nxP n P S o j) := by
  intro j hj
  cases o with
  | none => exact hV j hj
  | some F =>
    dsimp only [nxN, nxP] at hj ⊢
    unfold psN at hj
    unfold psP
    by_cases h4 : n < 4
    · rw [if_pos h4] at hj
      rw [if_pos h4]
      by_cases hjn : j = n
      · rw [if_pos hjn]; exact hS
      · rw [if_neg hjn]; exact hV j (by omega)
    · rw [if_neg h4] at hj
      rw [if_neg h4]
      by_cases hj3 : j = 3
      · rw [if_pos hj3]; exact hS
      · rw [if_neg hj3]; exact hV (j + 1) (by omega)
theorem nxN_le {n : Nat} {o : Option (Nat → Int32)} (hn : n ≤ 4) : nxN n o ≤ 4 := by
  cases o with
  | none => exact hn
  | some F => dsimp only [nxN]; unfold psN; split <;> omega
theorem rpSt.mark {T : gTy} {r : gR} {i i' : gI} {b : Nat} {ws : Nat → Nat} {S : Nat → Int32} (h : rpSt i b ws S) (hl : lySt T r b ws) (hf : ∀ c, c ≠ b + 5 + 2 → b ≤ c → c < b + 36 → i' c = i c) : rpSt i' b ws S := by
  obtain ⟨n, m, h1, h2, h3⟩ := h
  have h8 := hl.2.2.2.2.2.1.2.2.2.2.2.2.2
  refine ⟨n, m, h1.kept (fun c c1 c2 => hf c (by omega) (by omega) (by omega)), ⟨h2.1, ?_, h2.2.2.1, fun k hk => ?_⟩, h3.kept (hf _ (by omega) (by omega) (by omega))⟩
  · rw [hf _ (by omega) (by omega) (by omega)]; exact h2.2.1
  · obtain ⟨y, hy⟩ := h2.2.2.2 k hk
    have := h2.1
    obtain ⟨_, _, a1, a2⟩ := h8.1 k (by omega)
    exact ⟨y, hy.kept (fun c c1 c2 => hf c (by omega) (by omega) (by omega))⟩
theorem lwX.k {T : gTy} {r : gR} {i : gI} {x n ln : Nat} {S : Nat → Int32} {P : Nat → Nat → Int32} {tx : Nat → Int32} (h : lwX T r i x S P n tx ln) : (T.2 x).1 = 11 := by
  obtain ⟨ws, hs, hX, _⟩ := h
  exact hX.1
theorem lwX.v {T : gTy} {r : gR} {i : gI} {x n ln : Nat} {S : Nat → Int32} {P : Nat → Nat → Int32} {tx : Nat → Int32} (h : lwX T r i x S P n tx ln) : vS S ∧ n ≤ 4 ∧ (∀ j, j < n → vS (P j)) ∧ ln ≤ 60 := by
  obtain ⟨ws, hs, hX, hR, hS, hn, hV, hl, hl6, ht⟩ := h
  exact ⟨hS, hn, hV, hl6⟩
theorem lwX.ask {T : gTy} {r : gR} {i : gI} {x n ln : Nat} {S : Nat → Int32} {P : Nat → Nat → Int32} {tx : Nat → Int32} {i' : gI} (h : lwX T r i x S P n tx ln) (f : ∀ c, c ≠ x + 184 → c ≠ x + 1 + 5 + 2 → i' c = i c) : lwX T r i' x S P n tx ln := by
  obtain ⟨ws, hs, hX, hR, hS, hn, hV, hl, hl6, ht⟩ := h
  refine ⟨ws, hs, hX, hR.hist hX (fun c c1 c2 => f c (by omega) (by omega)) (hR.1.mark hX.2.2.2.2.2.2.1 (fun c c0 c1 c2 => f c (by omega) c0)), hS, hn, hV, ?_, hl6, ?_⟩
  · rw [f _ (by omega) (by omega)]; exact hl
  · rw [f _ (by omega) (by omega)]; exact ht
/-- the flat state that a drop leaves exists -/
def drF (s : Nat → Int32) (a : Nat) : Nat → (Nat → Int32)
  | 0 => upd s 1 (nI (kc (gPr4 s) a (nW s)))
  | k + 1 => if fam (gPr4 s) a k = true then drF s a k else fun j => if 23 + 166 * kc (gPr4 s) a k ≤ j ∧ j < 23 + 166 * kc (gPr4 s) a k + 166 then (if j - (23 + 166 * kc (gPr4 s) a k) = 4 then npR (gPr4 s) a k else s (23 + 166 * k + (j - (23 + 166 * kc (gPr4 s) a k)))) else drF s a k j
theorem drF_lo (s : Nat → Int32) (a : Nat) : ∀ k j, j < 23 → drF s a k j = upd s 1 (nI (kc (gPr4 s) a (nW s))) j
  | 0, _, _ => rfl
  | k + 1, j, h => by
    rw [drF]
    split
    · exact drF_lo s a k j h
    · (try dsimp only)
      rw [if_neg (by omega)]
      exact drF_lo s a k j h
theorem drF_at (s : Nat → Int32) (a : Nat) : ∀ k j, j < k → ¬ fam (gPr4 s) a j = true → ∀ c, c < 166 → drF s a k (23 + 166 * kc (gPr4 s) a j + c) = if c = 4 then npR (gPr4 s) a j else s (23 + 166 * j + c)
  | 0, j, h, _, _, _ => absurd h (Nat.not_lt_zero j)
  | k + 1, j, h, hf, c, hc => by
    rw [drF]
    by_cases hjk : j = k
    · subst hjk
      rw [if_neg hf]
      (try dsimp only)
      rw [if_pos (by omega), Nat.add_sub_cancel_left]
    · have hlt : kc (gPr4 s) a j < kc (gPr4 s) a k := kc_lt (by omega) hf
      split
      · exact drF_at s a k j (by omega) hf c hc
      · (try dsimp only)
        rw [if_neg (by omega)]
        exact drF_at s a k j (by omega) hf c hc
theorem drS_ex (S : Nat → Int32) (a : Nat) : ∃ F, drS S F a := by
  refine ⟨drF S a (nW S), ?_, fun j h1 h2 => ?_, drF_at S a (nW S)⟩
  · rw [drF_lo S a (nW S) 1 (by decide), upd_s]
  · rw [drF_lo S a (nW S) j h1, upd_o h2]
theorem q_term {Γ : gG} {T : gTy} {r : gR} {l : gLg} {i : gI} {Q : gQ} {x n ln : Nat} {S : Nat → Int32} {P : Nat → Nat → Int32} {tx : Nat → Int32} {f u v : Int32} (hA : gN Γ ≤ x) (h : lwX T r i x S P n tx ln) (hQ : ∀ r' l' i', lwX T r' i' x (nxS S (aTerm S f u v).2) (nxP n P S (aTerm S f u v).2) (nxN n (aTerm S f u v).2) tx ln → Q (some (.int (aTerm S f u v).1)) T r' l' i') : gC Γ MX11_term [.ref x, .int f, .int u, .int v] T r l i Q := by
  obtain ⟨ws, hs, hX, hR, hS, hn, hV, hl, hl6, ht⟩ := id h
  refine c_X11_term hX hA hR hS (fun l' i' f1 g1 => hQ r l' i' ⟨ws, hs, hX, g1, vS_term hS, nxN_le hn, vP_nx hS hn hV, ?_, hl6, ?_⟩)
  · rw [f1 _ (by omega)]; exact hl
  · rw [f1 _ (by omega)]; exact ht

theorem q_dropTerm {Γ : gG} {T : gTy} {r : gR} {l : gLg} {i : gI} {Q : gQ} {x n ln : Nat} {S : Nat → Int32} {P : Nat → Nat → Int32} {tx : Nat → Int32} {k : Int32} (hA : gN Γ ≤ x) (h : lwX T r i x S P n tx ln) (hQ : ∀ r' l' i', lwX T r' i' x (nxS S (aDropT S k).2) (nxP n P S (aDropT S k).2) (nxN n (aDropT S k).2) tx ln → Q (some (.int (aDropT S k).1)) T r' l' i') : gC Γ MX11_dropTerm [.ref x, .int k] T r l i Q := by
  obtain ⟨ws, hs, hX, hR, hS, hn, hV, hl, hl6, ht⟩ := id h
  refine c_X11_dropTerm hX hA hR hS (fun l' i' f1 g1 => hQ r l' i' ⟨ws, hs, hX, g1, vS_dropT hS, nxN_le hn, vP_nx hS hn hV, ?_, hl6, ?_⟩)
  · rw [f1 _ (by omega)]; exact hl
  · rw [f1 _ (by omega)]; exact ht

theorem q_begin {Γ : gG} {T : gTy} {r : gR} {l : gLg} {i : gI} {Q : gQ} {x n ln : Nat} {S : Nat → Int32} {P : Nat → Nat → Int32} {tx : Nat → Int32} {u v sg : Int32} (hA : gN Γ ≤ x) (h : lwX T r i x S P n tx ln) (hQ : ∀ r' l' i', lwX T r' i' x (nxS S (aBegin S u v sg).2) (nxP n P S (aBegin S u v sg).2) (nxN n (aBegin S u v sg).2) tx ln → Q (some (.int (aBegin S u v sg).1)) T r' l' i') : gC Γ MX11_begin [.ref x, .int u, .int v, .int sg] T r l i Q := by
  obtain ⟨ws, hs, hX, hR, hS, hn, hV, hl, hl6, ht⟩ := id h
  refine c_X11_begin hX hA hR hS (fun l' i' f1 g1 => hQ r l' i' ⟨ws, hs, hX, g1, vS_begin hS, nxN_le hn, vP_nx hS hn hV, ?_, hl6, ?_⟩)
  · rw [f1 _ (by omega)]; exact hl
  · rw [f1 _ (by omega)]; exact ht

theorem q_branch {Γ : gG} {T : gTy} {r : gR} {l : gLg} {i : gI} {Q : gQ} {x n ln : Nat} {S : Nat → Int32} {P : Nat → Nat → Int32} {tx : Nat → Int32} {w p sd : Int32} (hA : gN Γ ≤ x) (h : lwX T r i x S P n tx ln) (hQ : ∀ r' l' i', lwX T r' i' x (nxS S (aBranch S w p sd).2) (nxP n P S (aBranch S w p sd).2) (nxN n (aBranch S w p sd).2) tx ln → Q (some (.int (aBranch S w p sd).1)) T r' l' i') : gC Γ MX11_branch [.ref x, .int w, .int p, .int sd] T r l i Q := by
  obtain ⟨ws, hs, hX, hR, hS, hn, hV, hl, hl6, ht⟩ := id h
  refine c_X11_branch hX hA hR hS (fun l' i' f1 g1 => hQ r l' i' ⟨ws, hs, hX, g1, vS_branch hS, nxN_le hn, vP_nx hS hn hV, ?_, hl6, ?_⟩)
  · rw [f1 _ (by omega)]; exact hl
  · rw [f1 _ (by omega)]; exact ht

theorem q_step {Γ : gG} {T : gTy} {r : gR} {l : gLg} {i : gI} {Q : gQ} {x n ln : Nat} {S : Nat → Int32} {P : Nat → Nat → Int32} {tx : Nat → Int32} {w k : Int32} (hA : gN Γ ≤ x) (h : lwX T r i x S P n tx ln) (hQ : ∀ r' l' i', lwX T r' i' x (nxS S (aStep S w k).2) (nxP n P S (aStep S w k).2) (nxN n (aStep S w k).2) tx ln → Q (some (.int (aStep S w k).1)) T r' l' i') : gC Γ MX11_step [.ref x, .int w, .int k] T r l i Q := by
  obtain ⟨ws, hs, hX, hR, hS, hn, hV, hl, hl6, ht⟩ := id h
  refine c_X11_step hX hA hR hS (fun l' i' f1 g1 => hQ r l' i' ⟨ws, hs, hX, g1, vS_step hS, nxN_le hn, vP_nx hS hn hV, ?_, hl6, ?_⟩)
  · rw [f1 _ (by omega)]; exact hl
  · rw [f1 _ (by omega)]; exact ht

theorem q_set {Γ : gG} {T : gTy} {r : gR} {l : gLg} {i : gI} {Q : gQ} {x n ln : Nat} {S : Nat → Int32} {P : Nat → Nat → Int32} {tx : Nat → Int32} {w v : Int32} (hA : gN Γ ≤ x) (h : lwX T r i x S P n tx ln) (hQ : ∀ r' l' i', lwX T r' i' x (nxS S (aSet S w v).2) (nxP n P S (aSet S w v).2) (nxN n (aSet S w v).2) tx ln → Q (some (.int (aSet S w v).1)) T r' l' i') : gC Γ MX11_set [.ref x, .int w, .int v] T r l i Q := by
  obtain ⟨ws, hs, hX, hR, hS, hn, hV, hl, hl6, ht⟩ := id h
  refine c_X11_set hX hA hR hS (fun l' i' f1 g1 => hQ r l' i' ⟨ws, hs, hX, g1, vS_set hS, nxN_le hn, vP_nx hS hn hV, ?_, hl6, ?_⟩)
  · rw [f1 _ (by omega)]; exact hl
  · rw [f1 _ (by omega)]; exact ht

theorem q_read {Γ : gG} {T : gTy} {r : gR} {l : gLg} {i : gI} {Q : gQ} {x n ln : Nat} {S : Nat → Int32} {P : Nat → Nat → Int32} {tx : Nat → Int32} (hA : gN Γ ≤ x) (h : lwX T r i x S P n tx ln) (hQ : ∀ r' l' i', lwX T r' i' x (nxS S (aRead tx ln S).2) (nxP n P S (aRead tx ln S).2) (nxN n (aRead tx ln S).2) tx ln → Q (some (.int (aRead tx ln S).1)) T r' l' i') : gC Γ MX11_read [.ref x] T r l i Q := by
  obtain ⟨ws, hs, hX, hR, hS, hn, hV, hl, hl6, ht⟩ := id h
  refine c_X11_read hX hA hR hS hl hl6 ?_
  rw [ht]
  exact fun l' i' f1 g1 => hQ r l' i' ⟨ws, hs, hX, g1, vS_read hS, nxN_le hn, vP_nx hS hn hV, by rw [f1 _ (by omega)]; exact hl, hl6, by rw [f1 _ (by omega)]; exact ht⟩

theorem q_fault {Γ : gG} {T : gTy} {r : gR} {l : gLg} {i : gI} {Q : gQ} {x n ln : Nat} {S : Nat → Int32} {P : Nat → Nat → Int32} {tx : Nat → Int32} {w : Int32} (hA : gN Γ ≤ x) (h : lwX T r i x S P n tx ln) (hQ : ∀ i', lwX T r i' x S P n tx ln → Q (some (.int (aFault tx ln S w))) T r l i') : gC Γ MX11_fault [.ref x, .int w] T r l i Q := by
  obtain ⟨ws, hs, hX, hR, hS, hn, hV, hl, hl6, ht⟩ := id h
  refine c_X11_fault hX hA hR hS hl hl6 ?_
  rw [ht]
  exact fun i' f1 g1 => hQ i' ⟨ws, hs, hX, g1, hS, hn, hV, by rw [f1 _ (by omega)]; exact hl, hl6, by rw [f1 _ (by omega)]; exact ht⟩

theorem q_termOf {Γ : gG} {T : gTy} {r : gR} {l : gLg} {i : gI} {Q : gQ} {x n ln : Nat} {S : Nat → Int32} {P : Nat → Nat → Int32} {tx : Nat → Int32} {k w : Int32} (hA : gN Γ ≤ x) (h : lwX T r i x S P n tx ln) (hQ : Q (some (.int (aTermOf S k w))) T r l i) : gC Γ MX11_termOf [.ref x, .int k, .int w] T r l i Q := by
  obtain ⟨ws, hs, hX, hR, hS, hn, hV, hl, hl6, ht⟩ := id h
  exact c_X11_termOf hX hA hR.1 hS hQ

theorem q_placeOf {Γ : gG} {T : gTy} {r : gR} {l : gLg} {i : gI} {Q : gQ} {x n ln : Nat} {S : Nat → Int32} {P : Nat → Nat → Int32} {tx : Nat → Int32} {w p c : Int32} (hA : gN Γ ≤ x) (h : lwX T r i x S P n tx ln) (hQ : Q (some (.int (aPlaceOf S w p c))) T r l i) : gC Γ MX11_placeOf [.ref x, .int w, .int p, .int c] T r l i Q := by
  obtain ⟨ws, hs, hX, hR, hS, hn, hV, hl, hl6, ht⟩ := id h
  exact c_X11_placeOf hX hA hR.1 hS hQ

theorem q_nearest {Γ : gG} {T : gTy} {r : gR} {l : gLg} {i : gI} {Q : gQ} {x n ln : Nat} {S : Nat → Int32} {P : Nat → Nat → Int32} {tx : Nat → Int32} {w u v : Int32} (hA : gN Γ ≤ x) (h : lwX T r i x S P n tx ln) (hQ : Q (some (.int (aNear S w u v))) T r l i) : gC Γ MX11_nearest [.ref x, .int w, .int u, .int v] T r l i Q := by
  obtain ⟨ws, hs, hX, hR, hS, hn, hV, hl, hl6, ht⟩ := id h
  exact c_X11_nearest hX hA hR.1 hS hQ

theorem q_corrected {Γ : gG} {T : gTy} {r : gR} {l : gLg} {i : gI} {Q : gQ} {x n ln : Nat} {S : Nat → Int32} {P : Nat → Nat → Int32} {tx : Nat → Int32} {u v w : Int32} (hA : gN Γ ≤ x) (h : lwX T r i x S P n tx ln) (hQ : ∀ l' i', lwX T r i' x S P n tx ln → Q (some (.int (aCorr S u v w))) T r l' i') : gC Γ MX11_corrected [.ref x, .int u, .int v, .int w] T r l i Q := by
  obtain ⟨ws, hs, hX, hR, hS, hn, hV, hl, hl6, ht⟩ := id h
  exact c_X11_corrected hX hA hR.1 hS (fun l' i' f => hQ l' i' (h.ask (fun c c1 _ => f c c1)))

theorem q_walkOf {Γ : gG} {T : gTy} {r : gR} {l : gLg} {i : gI} {Q : gQ} {x n ln : Nat} {S : Nat → Int32} {P : Nat → Nat → Int32} {tx : Nat → Int32} {w k : Int32} (hA : gN Γ ≤ x) (h : lwX T r i x S P n tx ln) (hQ : ∀ i', lwX T r i' x S P n tx ln → Q (some (.int (aWalkOf S w k))) T r l i') : gC Γ MX11_walkOf [.ref x, .int w, .int k] T r l i Q := by
  obtain ⟨ws, hs, hX, hR, hS, hn, hV, hl, hl6, ht⟩ := id h
  exact c_X11_walkOf hX hA hR.1 hS (fun i' f => hQ i' (h.ask (fun c _ c1 => f c c1)))

theorem q_count {Γ : gG} {T : gTy} {r : gR} {l : gLg} {i : gI} {Q : gQ} {x n ln : Nat} {S : Nat → Int32} {P : Nat → Nat → Int32} {tx : Nat → Int32} {k : Int32} (hA : gN Γ ≤ x) (h : lwX T r i x S P n tx ln) (hQ : Q (some (.int (aCount S n ln k))) T r l i) : gC Γ MX11_count [.ref x, .int k] T r l i Q := by
  obtain ⟨ws, hs, hX, hR, hS, hn, hV, hl, hl6, ht⟩ := id h
  obtain ⟨_, o9, hH⟩ := id hR
  exact c_X11_count (n := n) (ln := ln) hX hA hR.1 hS hH.2.2.2.1 hl hQ

theorem q_clearText {Γ : gG} {T : gTy} {r : gR} {l : gLg} {i : gI} {Q : gQ} {x n ln : Nat} {S : Nat → Int32} {P : Nat → Nat → Int32} {tx : Nat → Int32} (hA : gN Γ ≤ x) (h : lwX T r i x S P n tx ln) (hQ : ∀ i', lwX T r i' x S P n tx 0 → Q (some (.int (nI ln))) T r l i') : gC Γ MX11_clearText [.ref x] T r l i Q := by
  obtain ⟨ws, hs, hX, hR, hS, hn, hV, hl, hl6, ht⟩ := id h
  refine c_X11_clearText hX hA ?_
  rw [hl]
  refine hQ _ ⟨ws, hs, hX, hR.kept hX (fun c c1 c2 => up2_ne (by omega)), hS, hn, hV, ?_, by omega, ?_⟩
  · rw [up2_self]; rfl
  · rw [up2_ne (by omega)]; exact ht

theorem q_type {Γ : gG} {T : gTy} {r : gR} {l : gLg} {i : gI} {Q : gQ} {x n ln : Nat} {S : Nat → Int32} {P : Nat → Nat → Int32} {tx : Nat → Int32} {k : Int32} (hA : gN Γ ≤ x) (h : lwX T r i x S P n tx ln) (hk : inI k 32 126) (h60 : ln < 60) (hQ : ∀ i' tx', lwX T r i' x S P n tx' (ln + 1) → Q (some (.int (nI (ln + 1)))) T r l i') : gC Γ MX11_type [.ref x, .int k] T r l i Q := by
  obtain ⟨ws, hs, hX, hR, hS, hn, hV, hl, hl6, ht⟩ := id h
  refine c_X11_type hX hA hl hl6 (fun z => absurd hk z) (fun _ z => absurd h60 (by omega)) (fun _ _ => hQ _ _ ⟨ws, hs, hX, hR.kept hX (fun c c1 c2 => by rw [up2_ne (by omega), up2_ne (by omega)]), hS, hn, hV, ?_, by omega, rfl⟩)
  rw [up2_self]

theorem q_undo {Γ : gG} {T : gTy} {r : gR} {l : gLg} {i : gI} {Q : gQ} {x n ln : Nat} {S : Nat → Int32} {P : Nat → Nat → Int32} {tx : Nat → Int32} (hA : gN Γ ≤ x) (h : lwX T r i x S P n tx ln) (h0 : n = 0 → Q (some (.int (-1000002))) T r l i) (h1 : ∀ b, n = b + 1 → ∀ i', lwX T r i' x (P b) P b tx ln → Q (some (.int (nI b))) T r l i') : gC Γ MX11_undo [.ref x] T r l i Q := by
  obtain ⟨ws, hs, hX, hR, hS, hn, hV, hl, hl6, ht⟩ := id h
  refine c_X11_undo hX hA hR h0 (fun b hb i' f1 g1 => h1 b hb i' ⟨ws, hs, hX, g1, hV b (by omega), by omega, fun j hj => hV j (by omega), ?_, hl6, ?_⟩)
  · rw [f1 _ (by omega)]; exact hl
  · rw [f1 _ (by omega)]; exact ht

theorem q_drop {Γ : gG} {T : gTy} {r : gR} {l : gLg} {i : gI} {Q : gQ} {x n ln : Nat} {S : Nat → Int32} {P : Nat → Nat → Int32} {tx : Nat → Int32} {w : Int32} (hA : gN Γ ≤ x) (h : lwX T r i x S P n tx ln) (h0 : ¬ inI w 0 (S 1 - 1) → Q (some (.int (-1000001))) T r l i) (h1 : ∀ a, a < nW S → w = nI a → ∀ r' i' F, drS S F a → lwX T r' i' x F (psP n P S) (psN n) tx ln → Q (some (.int (nI (kc (gPr4 S) a (nW S))))) T r' l i') : gC Γ MX11_drop [.ref x, .int w] T r l i Q := by
  obtain ⟨ws, hs, hX, hR, hS, hn, hV, hl, hl6, ht⟩ := id h
  refine c_X11_drop hX hA hR hS h0 (fun a ha hw r' i' w1 hr hX1 f1 g1 => ?_)
  obtain ⟨F, hF⟩ := drS_ex S a
  exact h1 a ha hw r' i' F hF ⟨w1, hs, hX1, g1 F hF, vS_drop hS hF, nxN_le (o := some F) hn, vP_nx (o := some F) hS hn hV, by rw [f1 _ (by omega)]; exact hl, hl6, by rw [f1 _ (by omega)]; exact ht⟩

