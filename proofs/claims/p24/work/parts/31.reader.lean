/-! Reader: the pure reading, letter by letter -/
def lyRd (T : gTy) (r : gR) (a : Nat) : Prop := (T.2 a).1 = 3 ∧ r a 0 = some (a + 1) ∧ lyT T r (a + 1)
/-- how many terms, their parts, the phase, the sign, the digit, the letters x and y -/
abbrev rS : Type := Nat × (Nat → Nat → Int32) × Int32 × Int32 × Int32 × Nat × Nat
def rMk (n : Nat) (t : Nat → Nat → Int32) (ph sg dg : Int32) (x y : Nat) : rS := (n, t, ph, sg, dg, x, y)
def rOpen (s : Int32) (S : rS) : rS := rMk S.1 S.2.1 S.2.2.1 s 1 0 0
def rClose (S : rS) : rS := rMk (S.1 + 1) (fun c j => if j = S.1 then (if c = 0 then S.2.2.2.1 * S.2.2.2.2.1 else if c = 1 then nI S.2.2.2.2.2.1 else nI S.2.2.2.2.2.2) else S.2.1 c j) S.2.2.1 S.2.2.2.1 S.2.2.2.2.1 S.2.2.2.2.2.1 S.2.2.2.2.2.2
def rPh (p : Int32) (S : rS) : rS := rMk S.1 S.2.1 p S.2.2.2.1 S.2.2.2.2.1 S.2.2.2.2.2.1 S.2.2.2.2.2.2
def rSign (k : Int32) (S : rS) : Int32 × rS :=
  if S.2.2.1 = 1 ∨ (S.2.2.1 = 0 ∧ k = 1) then (1, S)
  else if S.2.2.1 = 2 then (if S.1 + 1 = 6 then (3, rClose S) else (0, rPh 1 (rOpen k (rClose S)))) else (0, rPh 1 (rOpen k S))
def rDig (k : Int32) (S : rS) : Int32 × rS := if S.2.2.1 = 2 then (1, S) else (0, rMk S.1 S.2.1 2 S.2.2.2.1 k S.2.2.2.2.2.1 S.2.2.2.2.2.2)
def rLet (x : Prop) [Decidable x] (S : rS) : Int32 × rS :=
  if 3 ≤ S.2.2.2.2.2.1 + S.2.2.2.2.2.2 then (2, S) else (0, if x then rMk S.1 S.2.1 2 S.2.2.2.1 S.2.2.2.2.1 (S.2.2.2.2.2.1 + 1) S.2.2.2.2.2.2 else rMk S.1 S.2.1 2 S.2.2.2.1 S.2.2.2.2.1 S.2.2.2.2.2.1 (S.2.2.2.2.2.2 + 1))
def rTake (ch : Int32) (S : rS) : Int32 × rS :=
  if ch = 43 ∨ ch = 45 then rSign (if ch = 45 then (-1) else 1) S
  else if inI ch 49 53 then rDig (ch - 48) S
  else if ch = 120 ∨ ch = 121 then rLet (ch = 120) S else (1, S)
/-- from place p on, d letters are left: the reason, the place, where it stands -/
def rScan (tx : Nat → Int32) : Nat → Nat → rS → Int32 × Nat × rS
  | 0, p, S => if S.2.2.1 = 2 then (0, p, rClose S) else (1, p, S)
  | d + 1, p, S => if (rTake (tx p) S).1 = 0 then rScan tx d (p + 1) (rTake (tx p) S).2 else ((rTake (tx p) S).1, p, (rTake (tx p) S).2)
/-- what always holds of it between letters -/
def rOk (S : rS) : Prop := S.1 ≤ 5 ∧ S.2.2.2.2.2.1 + S.2.2.2.2.2.2 ≤ 3
theorem rOk_take {ch : Int32} {S : rS} (h : rOk S) (hz : (rTake ch S).1 = 0) : rOk (rTake ch S).2 := by
  obtain ⟨h1, h2⟩ := h
  unfold rTake at hz ⊢
  by_cases c1 : ch = 43 ∨ ch = 45
  · rw [if_pos c1] at hz ⊢
    unfold rSign at hz ⊢
    by_cases c2 : S.2.2.1 = 1 ∨ (S.2.2.1 = 0 ∧ (if ch = 45 then (-1) else 1 : Int32) = 1)
    · rw [if_pos c2] at hz ⊢; exact ⟨h1, h2⟩
    · rw [if_neg c2] at hz ⊢
      by_cases c3 : S.2.2.1 = 2
      · rw [if_pos c3] at hz ⊢
        by_cases c4 : S.1 + 1 = 6
        · rw [if_pos c4] at hz; exact absurd hz (show ¬ (3 : Int32) = 0 by decide)
        · rw [if_neg c4]; exact ⟨by show S.1 + 1 ≤ 5; omega, Nat.zero_le _⟩
      · rw [if_neg c3]; exact ⟨h1, Nat.zero_le _⟩
  · rw [if_neg c1] at hz ⊢
    by_cases c2 : inI ch 49 53
    · rw [if_pos c2] at hz ⊢
      unfold rDig at hz ⊢
      by_cases c3 : S.2.2.1 = 2
      · rw [if_pos c3] at hz; exact absurd hz (show ¬ (1 : Int32) = 0 by decide)
      · rw [if_neg c3]; exact ⟨h1, h2⟩
    · rw [if_neg c2] at hz ⊢
      by_cases c3 : ch = 120 ∨ ch = 121
      · rw [if_pos c3] at hz ⊢
        unfold rLet at hz ⊢
        by_cases c4 : 3 ≤ S.2.2.2.2.2.1 + S.2.2.2.2.2.2
        · rw [if_pos c4] at hz; exact absurd hz (show ¬ (2 : Int32) = 0 by decide)
        · rw [if_neg c4]
          by_cases c5 : ch = 120
          · show rOk (if ch = 120 then _ else _); rw [if_pos c5]; exact ⟨h1, by show S.2.2.2.2.2.1 + 1 + S.2.2.2.2.2.2 ≤ 3; omega⟩
          · show rOk (if ch = 120 then _ else _); rw [if_neg c5]; exact ⟨h1, by show S.2.2.2.2.2.1 + (S.2.2.2.2.2.2 + 1) ≤ 3; omega⟩
      · rw [if_neg c3] at hz; exact absurd hz (show ¬ (1 : Int32) = 0 by decide)
/-- the reader at a stands as S -/
def rdV (i : gI) (a : Nat) (S : rS) : Prop := i a 3 = S.2.2.1 ∧ i a 4 = S.2.2.2.1 ∧ i a 5 = S.2.2.2.2.1 ∧ i a 6 = nI S.2.2.2.2.2.1 ∧ i a 7 = nI S.2.2.2.2.2.2 ∧ i (a + 1) 3 = nI S.1 ∧ ∀ c, c < 3 → ∀ j, j < S.1 → i (a + 1 + 1 + c) j = S.2.1 c j
def rdF (a : Nat) (i i' : gI) : Prop := frR a (a + 5) i i' ∧ i' a 1 = i a 1 ∧ i' a 2 = i a 2
theorem rdF.rf {a : Nat} {i : gI} : rdF a i i := ⟨frR.rf, rfl, rfl⟩
theorem rdF.tr {a : Nat} {i j k : gI} (h : rdF a i j) (g : rdF a j k) : rdF a i k := ⟨h.1.tr g.1, g.2.1.trans h.2.1, g.2.2.trans h.2.2⟩
theorem rdF.put {a j : Nat} {i i' : gI} {x : Int32} (h : rdF a i i') (hj : 3 ≤ j) : rdF a i (up2 i' a j x) := ⟨h.1.put (by omega) (by omega), by rw [up2_row (by omega)]; exact h.2.1, by rw [up2_row (by omega)]; exact h.2.2⟩
theorem rdV.opn {i : gI} {a : Nat} {S : rS} {s : Int32} (h : rdV i a S) : rdV (up2 (up2 (up2 (up2 i a 4 s) a 5 1) a 6 0) a 7 0) a (rOpen s S) := by
  obtain ⟨h1, h2, h3, h4, h5, h6, h7⟩ := h
  refine ⟨?_, ?_, ?_, ?_, ?_, ?_, fun c hc j hj => ?_⟩ <;> simp (disch := omega) only [up2_ne, up2_row, up2_self]
  · exact h1
  · rfl
  · rfl
  · rfl
  · rfl
  · exact h6
  · exact h7 c hc j hj
theorem rdV.phase {i : gI} {a : Nat} {S : rS} {p : Int32} (h : rdV i a S) : rdV (up2 i a 3 p) a (rPh p S) := by
  obtain ⟨h1, h2, h3, h4, h5, h6, h7⟩ := h
  refine ⟨?_, ?_, ?_, ?_, ?_, ?_, fun c hc j hj => ?_⟩ <;> simp (disch := omega) only [up2_ne, up2_row, up2_self]
  · rfl
  · exact h2
  · exact h3
  · exact h4
  · exact h5
  · exact h6
  · exact h7 c hc j hj
theorem rdV.close {i : gI} {a : Nat} {S : rS} (h : rdV i a S) : rdV (adT i (a + 1) S.1 (S.2.2.2.1 * S.2.2.2.2.1) (nI S.2.2.2.2.2.1) (nI S.2.2.2.2.2.2)) a (rClose S) := by
  obtain ⟨h1, h2, h3, h4, h5, h6, h7⟩ := h
  have e : ∀ b, b < a + 1 → adT i (a + 1) S.1 (S.2.2.2.1 * S.2.2.2.2.1) (nI S.2.2.2.2.2.1) (nI S.2.2.2.2.2.2) b = i b := fun b hb => adT_fr b (by omega)
  refine ⟨by rw [e a (by omega)]; exact h1, by rw [e a (by omega)]; exact h2, by rw [e a (by omega)]; exact h3, by rw [e a (by omega)]; exact h4, by rw [e a (by omega)]; exact h5, by unfold adT; rw [up2_self]; rfl, fun c hc j hj => ?_⟩
  have hj2 : j < S.1 + 1 := hj
  by_cases hjn : j = S.1
  · subst hjn
    rcases (show c = 0 ∨ c = 1 ∨ c = 2 by omega) with rfl | rfl | rfl
    · show adT i (a + 1) _ _ _ _ (a + 1 + 1) _ = (if S.1 = S.1 then (if 0 = 0 then S.2.2.2.1 * S.2.2.2.2.1 else _) else _); rw [if_pos rfl, if_pos rfl]; unfold adT; simp (disch := omega) only [up2_ne, up2_self]
    · show adT i (a + 1) _ _ _ _ (a + 1 + 2) _ = (if S.1 = S.1 then (if 1 = 0 then S.2.2.2.1 * S.2.2.2.2.1 else if 1 = 1 then nI S.2.2.2.2.2.1 else _) else _); rw [if_pos rfl, if_neg (by decide), if_pos rfl]; unfold adT; simp (disch := omega) only [up2_ne, up2_self]
    · show adT i (a + 1) _ _ _ _ (a + 1 + 3) _ = (if S.1 = S.1 then (if 2 = 0 then S.2.2.2.1 * S.2.2.2.2.1 else if 2 = 1 then nI S.2.2.2.2.2.1 else nI S.2.2.2.2.2.2) else _); rw [if_pos rfl, if_neg (by decide), if_neg (by decide)]; unfold adT; simp (disch := omega) only [up2_ne, up2_self]
  · rw [show (rClose S).2.1 c j = S.2.1 c j from if_neg hjn, ← h7 c hc j (by omega)]
    rcases (show c = 0 ∨ c = 1 ∨ c = 2 by omega) with rfl | rfl | rfl
    · show adT i (a + 1) _ _ _ _ (a + 1 + 1) _ = i (a + 1 + 1) _; unfold adT; simp (disch := omega) only [up2_ne, up2_row]
    · show adT i (a + 1) _ _ _ _ (a + 1 + 2) _ = i (a + 1 + 2) _; unfold adT; simp (disch := omega) only [up2_ne, up2_row]
    · show adT i (a + 1) _ _ _ _ (a + 1 + 3) _ = i (a + 1 + 3) _; unfold adT; simp (disch := omega) only [up2_ne, up2_row]
set_option maxRecDepth 100000 in
set_option maxHeartbeats 4000000 in
theorem c_X3_openTerm {Γ : gG} {T : gTy} {r : gR} {l : gLg} {i : gI} {Q : gQ} {a : Nat} {S : rS} {s : Int32} (hL : lyRd T r a) (hA : gN Γ ≤ a) (hV : rdV i a S) (hQ : ∀ i', rdF a i i' → rdV i' a (rOpen s S) → Q none T r l i') : gC Γ MX3_openTerm [.ref a, .int s] T r l i Q := by
  obtain ⟨a0, a1, a2⟩ := hL
  have a3 := a2.1
  obtain ⟨e3, e4, e5, e6, e7, e8, e9⟩ := id hV
  refine gC_of rfl (Nat.le_of_ble_eq_true rfl) (L := [(0, .ref a), (1, .int s)]) rfl ?_
  refine G_aload_n (pc := 0) 0 dX3_openTerm_0 rfl ?_
  refine G_iload_n (pc := 1) 1 dX3_openTerm_1 rfl ?_
  refine G_putI (pc := 2) dX3_openTerm_2 fX3_74 (by assumption) rfl rfl (by first | assumption | omega) ?_
  refine G_aload_n (pc := 5) 0 dX3_openTerm_5 rfl ?_
  refine G_iconst (pc := 6) (v := 1) dX3_openTerm_6 rfl ?_
  refine G_putI (pc := 7) dX3_openTerm_7 fX3_65 (by assumption) rfl rfl (by first | assumption | omega) ?_
  refine G_aload_n (pc := 10) 0 dX3_openTerm_10 rfl ?_
  refine G_iconst (pc := 11) (v := 0) dX3_openTerm_11 rfl ?_
  refine G_putI (pc := 12) dX3_openTerm_12 fX3_68 (by assumption) rfl rfl (by first | assumption | omega) ?_
  refine G_aload_n (pc := 15) 0 dX3_openTerm_15 rfl ?_
  refine G_iconst (pc := 16) (v := 0) dX3_openTerm_16 rfl ?_
  refine G_putI (pc := 17) dX3_openTerm_17 fX3_71 (by assumption) rfl rfl (by first | assumption | omega) ?_
  refine G_vret (pc := 20) dX3_openTerm_20 rfl ⟨by decide, by decide⟩ ?_
  exact hQ _ ((((rdF.rf.put (by decide)).put (by decide)).put (by decide)).put (by decide)) hV.opn
set_option maxRecDepth 100000 in
set_option maxHeartbeats 4000000 in
theorem c_X3_closeTerm {Γ : gG} {T : gTy} {r : gR} {l : gLg} {i : gI} {Q : gQ} {a : Nat} {S : rS} (hL : lyRd T r a) (hA : gN Γ ≤ a) (hV : rdV i a S) (hO : rOk S) (hQ : ∀ i', rdF a i i' → rdV i' a (rClose S) → Q none T r l i') : gC Γ MX3_closeTerm [.ref a] T r l i Q := by
  obtain ⟨a0, a1, a2⟩ := hL
  have a3 := a2.1
  obtain ⟨e3, e4, e5, e6, e7, e8, e9⟩ := id hV
  refine gC_of rfl (Nat.le_of_ble_eq_true rfl) (L := [(0, .ref a)]) rfl ?_
  refine G_aload_n (pc := 0) 0 dX3_closeTerm_0 rfl ?_
  refine G_getR (pc := 1) dX3_closeTerm_1 fX3_12 (by assumption) (by assumption) ?_
  refine G_aload_n (pc := 4) 0 dX3_closeTerm_4 rfl ?_
  refine G_getI (pc := 5) dX3_closeTerm_5 fX3_74 (by assumption) ?_
  refine G_aload_n (pc := 8) 0 dX3_closeTerm_8 rfl ?_
  refine G_getI (pc := 9) dX3_closeTerm_9 fX3_65 (by assumption) ?_
  rw [e4, e5]
  refine G_imul (pc := 12) dX3_closeTerm_12 ?_
  refine G_aload_n (pc := 13) 0 dX3_closeTerm_13 rfl ?_
  refine G_getI (pc := 14) dX3_closeTerm_14 fX3_68 (by assumption) ?_
  rw [e6]
  refine G_aload_n (pc := 17) 0 dX3_closeTerm_17 rfl ?_
  refine G_getI (pc := 18) dX3_closeTerm_18 fX3_71 (by assumption) ?_
  rw [e7]
  refine gV3 (pc := 21) (k' := 0) (n' := 0) dX3_closeTerm_21 lkX3_77 ⟨by decide, by decide⟩ (Nat.le_of_ble_eq_true rfl) rfl rfl ⟨by decide, by decide⟩ (by assumption) (c_X7_add a2 (by omega) e8 (by have := hO.1; omega) ?_)
  dsimp only [gRt]
  refine G_vret (pc := 24) dX3_closeTerm_24 rfl ⟨by decide, by decide⟩ ?_
  exact hQ _ ⟨adT_fr.mono (by omega) (by omega), by rw [adT_fr a (by omega)], by rw [adT_fr a (by omega)]⟩ hV.close
set_option maxRecDepth 100000 in
set_option maxHeartbeats 4000000 in
theorem c_X3_takeDigit {Γ : gG} {T : gTy} {r : gR} {l : gLg} {i : gI} {Q : gQ} {a : Nat} {S : rS} {k : Int32} (hL : lyRd T r a) (hA : gN Γ ≤ a) (hV : rdV i a S) (hO : rOk S) (hQ : ∀ i', rdF a i i' → rdV i' a (rDig k S).2 → Q (some (.int (rDig k S).1)) T r l i') : gC Γ MX3_takeDigit [.ref a, .int k] T r l i Q := by
  obtain ⟨a0, a1, a2⟩ := hL
  have a3 := a2.1
  obtain ⟨e3, e4, e5, e6, e7, e8, e9⟩ := id hV
  refine gC_of rfl (Nat.le_of_ble_eq_true rfl) (L := [(0, .ref a), (1, .int k)]) rfl ?_
  refine G_aload_n (pc := 0) 0 dX3_takeDigit_0 rfl ?_
  refine G_getI (pc := 1) dX3_takeDigit_1 fX3_21 (by assumption) ?_
  refine G_iconst (pc := 4) (v := 2) dX3_takeDigit_4 rfl ?_
  refine G_icmp_ne (pc := 5) (tgt := 10) dX3_takeDigit_5 (by decide) (fun h5 => ?_) (fun h5 => ?_)
  · refine G_aload_n (pc := 10) 0 dX3_takeDigit_10 rfl ?_
    refine G_iload_n (pc := 11) 1 dX3_takeDigit_11 rfl ?_
    refine G_putI (pc := 12) dX3_takeDigit_12 fX3_65 (by assumption) rfl rfl (by first | assumption | omega) ?_
    refine G_aload_n (pc := 15) 0 dX3_takeDigit_15 rfl ?_
    refine G_iconst (pc := 16) (v := 2) dX3_takeDigit_16 rfl ?_
    refine G_putI (pc := 17) dX3_takeDigit_17 fX3_21 (by assumption) rfl rfl (by first | assumption | omega) ?_
    refine G_iconst (pc := 20) (v := 0) dX3_takeDigit_20 rfl ?_
    refine G_iret (pc := 21) dX3_takeDigit_21 ⟨_, rfl, rfl⟩ ⟨by decide, by decide⟩ ?_
    have hd : rDig k S = (0, rMk S.1 S.2.1 2 S.2.2.2.1 k S.2.2.2.2.2.1 S.2.2.2.2.2.2) := by unfold rDig; rw [if_neg (fun z => h5 (by rw [e3]; exact z))]
    rw [hd] at hQ
    refine hQ _ ((rdF.rf.put (by decide)).put (by decide)) ⟨?_, ?_, ?_, ?_, ?_, ?_, fun c hc j hj => ?_⟩ <;> simp (disch := omega) only [up2_ne, up2_row, up2_self]
    · rfl
    · exact e4
    · rfl
    · exact e6
    · exact e7
    · exact e8
    · exact e9 c hc j hj
  · refine G_iconst (pc := 8) (v := 1) dX3_takeDigit_8 rfl ?_
    refine G_iret (pc := 9) dX3_takeDigit_9 ⟨_, rfl, rfl⟩ ⟨by decide, by decide⟩ ?_
    have hd : rDig k S = (1, S) := by unfold rDig; rw [if_pos (e3 ▸ h5)]
    rw [hd] at hQ
    exact hQ i rdF.rf hV
set_option maxRecDepth 100000 in
set_option maxHeartbeats 4000000 in
theorem c_X3_takeLetter {Γ : gG} {T : gTy} {r : gR} {l : gLg} {i : gI} {Q : gQ} {a : Nat} {S : rS} {x : Prop} [Decidable x] (hL : lyRd T r a) (hA : gN Γ ≤ a) (hV : rdV i a S) (hO : rOk S) (hQ : ∀ i', rdF a i i' → rdV i' a (rLet x S).2 → Q (some (.int (rLet x S).1)) T r l i') : gC Γ MX3_takeLetter [.ref a, .int (gB x)] T r l i Q := by
  obtain ⟨a0, a1, a2⟩ := hL
  have a3 := a2.1
  obtain ⟨e3, e4, e5, e6, e7, e8, e9⟩ := id hV
  refine gC_of rfl (Nat.le_of_ble_eq_true rfl) (L := [(0, .ref a), (1, .int (gB x))]) rfl ?_
  refine G_aload_n (pc := 0) 0 dX3_takeLetter_0 rfl ?_
  refine G_getI (pc := 1) dX3_takeLetter_1 fX3_68 (by assumption) ?_
  refine G_aload_n (pc := 4) 0 dX3_takeLetter_4 rfl ?_
  refine G_getI (pc := 5) dX3_takeLetter_5 fX3_71 (by assumption) ?_
  rw [e6, e7]
  refine G_iadd (pc := 8) dX3_takeLetter_8 ?_
  rw [nI_add]
  refine G_iconst (pc := 9) (v := 3) dX3_takeLetter_9 rfl ?_
  refine G_icmp_lt (pc := 10) (tgt := 15) dX3_takeLetter_10 (by decide) (fun h10 => ?_) (fun h10 => ?_)
  · have h3 : ¬ 3 ≤ S.2.2.2.2.2.1 + S.2.2.2.2.2.2 := fun z => (nI_nlt (a := S.2.2.2.2.2.1 + S.2.2.2.2.2.2) (b := 3) z (by have := hO.2; omega)) h10
    refine G_iload_n (pc := 15) 1 dX3_takeLetter_15 rfl ?_
    refine G_if_eq (pc := 16) (tgt := 32) dX3_takeLetter_16 (by decide) (fun h16 => ?_) (fun h16 => ?_)
    · refine G_aload_n (pc := 32) 0 dX3_takeLetter_32 rfl ?_
      refine G_dup (pc := 33) dX3_takeLetter_33 rfl ?_
      refine G_getI (pc := 34) dX3_takeLetter_34 fX3_71 (by assumption) ?_
      rw [e7]
      refine G_iconst (pc := 37) (v := 1) dX3_takeLetter_37 rfl ?_
      refine G_iadd (pc := 38) dX3_takeLetter_38 ?_
      rw [nI_1]
      refine G_putI (pc := 39) dX3_takeLetter_39 fX3_71 (by assumption) rfl rfl (by first | assumption | omega) ?_
      refine G_aload_n (pc := 42) 0 dX3_takeLetter_42 rfl ?_
      refine G_iconst (pc := 43) (v := 2) dX3_takeLetter_43 rfl ?_
      refine G_putI (pc := 44) dX3_takeLetter_44 fX3_21 (by assumption) rfl rfl (by first | assumption | omega) ?_
      refine G_iconst (pc := 47) (v := 0) dX3_takeLetter_47 rfl ?_
      refine G_iret (pc := 48) dX3_takeLetter_48 ⟨_, rfl, rfl⟩ ⟨by decide, by decide⟩ ?_
      have hx := gB_eq.mp h16
      have hd : rLet x S = (0, rMk S.1 S.2.1 2 S.2.2.2.1 S.2.2.2.2.1 S.2.2.2.2.2.1 (S.2.2.2.2.2.2 + 1)) := by unfold rLet; rw [if_neg h3, if_neg hx]
      rw [hd] at hQ
      refine hQ _ ((rdF.rf.put (by decide)).put (by decide)) ⟨?_, ?_, ?_, ?_, ?_, ?_, fun c hc j hj => ?_⟩ <;> simp (disch := omega) only [up2_ne, up2_row, up2_self]
      · rfl
      · exact e4
      · exact e5
      · exact e6
      · rfl
      · exact e8
      · exact e9 c hc j hj
    · refine G_aload_n (pc := 19) 0 dX3_takeLetter_19 rfl ?_
      refine G_dup (pc := 20) dX3_takeLetter_20 rfl ?_
      refine G_getI (pc := 21) dX3_takeLetter_21 fX3_68 (by assumption) ?_
      rw [e6]
      refine G_iconst (pc := 24) (v := 1) dX3_takeLetter_24 rfl ?_
      refine G_iadd (pc := 25) dX3_takeLetter_25 ?_
      rw [nI_1]
      refine G_putI (pc := 26) dX3_takeLetter_26 fX3_68 (by assumption) rfl rfl (by first | assumption | omega) ?_
      refine G_goto (pc := 29) (tgt := 42) dX3_takeLetter_29 (by decide) ?_
      refine G_aload_n (pc := 42) 0 dX3_takeLetter_42 rfl ?_
      refine G_iconst (pc := 43) (v := 2) dX3_takeLetter_43 rfl ?_
      refine G_putI (pc := 44) dX3_takeLetter_44 fX3_21 (by assumption) rfl rfl (by first | assumption | omega) ?_
      refine G_iconst (pc := 47) (v := 0) dX3_takeLetter_47 rfl ?_
      refine G_iret (pc := 48) dX3_takeLetter_48 ⟨_, rfl, rfl⟩ ⟨by decide, by decide⟩ ?_
      have hx := gB_ne.mp h16
      have hd : rLet x S = (0, rMk S.1 S.2.1 2 S.2.2.2.1 S.2.2.2.2.1 (S.2.2.2.2.2.1 + 1) S.2.2.2.2.2.2) := by unfold rLet; rw [if_neg h3, if_pos hx]
      rw [hd] at hQ
      refine hQ _ ((rdF.rf.put (by decide)).put (by decide)) ⟨?_, ?_, ?_, ?_, ?_, ?_, fun c hc j hj => ?_⟩ <;> simp (disch := omega) only [up2_ne, up2_row, up2_self]
      · rfl
      · exact e4
      · exact e5
      · rfl
      · exact e7
      · exact e8
      · exact e9 c hc j hj
  · have h3 : 3 ≤ S.2.2.2.2.2.1 + S.2.2.2.2.2.2 := by
      rcases Nat.lt_or_ge (S.2.2.2.2.2.1 + S.2.2.2.2.2.2) 3 with z | z
      · exact absurd (show nI _ < 3 from nI_lt z (by decide)) h10
      · exact z
    refine G_iconst (pc := 13) (v := 2) dX3_takeLetter_13 rfl ?_
    refine G_iret (pc := 14) dX3_takeLetter_14 ⟨_, rfl, rfl⟩ ⟨by decide, by decide⟩ ?_
    have hd : rLet x S = (2, S) := by unfold rLet; rw [if_pos h3]
    rw [hd] at hQ
    exact hQ i rdF.rf hV
set_option maxRecDepth 100000 in
set_option maxHeartbeats 4000000 in
theorem c_X3_takeSign {Γ : gG} {T : gTy} {r : gR} {l : gLg} {i : gI} {Q : gQ} {a : Nat} {S : rS} {k : Int32} (hL : lyRd T r a) (hA : gN Γ ≤ a) (hV : rdV i a S) (hO : rOk S) (hQ : ∀ i', rdF a i i' → rdV i' a (rSign k S).2 → Q (some (.int (rSign k S).1)) T r l i') : gC Γ MX3_takeSign [.ref a, .int k] T r l i Q := by
  have hL2 := hL
  obtain ⟨a0, a1, a2⟩ := hL
  have a3 := a2.1
  obtain ⟨e3, e4, e5, e6, e7, e8, e9⟩ := id hV
  refine gC_of rfl (Nat.le_of_ble_eq_true rfl) (L := [(0, .ref a), (1, .int k)]) rfl ?_
  refine G_aload_n (pc := 0) 0 dX3_takeSign_0 rfl ?_
  refine G_getI (pc := 1) dX3_takeSign_1 fX3_21 (by assumption) ?_
  refine G_iconst (pc := 4) (v := 1) dX3_takeSign_4 rfl ?_
  refine G_icmp_eq (pc := 5) (tgt := 20) dX3_takeSign_5 (by decide) (fun h5 => ?_) (fun h5 => ?_)
  · refine G_iconst (pc := 20) (v := 1) dX3_takeSign_20 rfl ?_
    refine G_iret (pc := 21) dX3_takeSign_21 ⟨_, rfl, rfl⟩ ⟨by decide, by decide⟩ ?_
    have hd : rSign k S = (1, S) := by unfold rSign; rw [if_pos (Or.inl (e3 ▸ h5))]
    rw [hd] at hQ
    exact hQ i rdF.rf hV
  · refine G_aload_n (pc := 8) 0 dX3_takeSign_8 rfl ?_
    refine G_getI (pc := 9) dX3_takeSign_9 fX3_21 (by assumption) ?_
    refine G_if_ne (pc := 12) (tgt := 22) dX3_takeSign_12 (by decide) (fun h12 => ?_) (fun h12 => ?_)
    · refine G_aload_n (pc := 22) 0 dX3_takeSign_22 rfl ?_
      refine G_getI (pc := 23) dX3_takeSign_23 fX3_21 (by assumption) ?_
      refine G_iconst (pc := 26) (v := 2) dX3_takeSign_26 rfl ?_
      refine G_icmp_ne (pc := 27) (tgt := 46) dX3_takeSign_27 (by decide) (fun h27 => ?_) (fun h27 => ?_)
      · refine G_aload_n (pc := 46) 0 dX3_takeSign_46 rfl ?_
        refine G_iload_n (pc := 47) 1 dX3_takeSign_47 rfl ?_
        refine gV1 (pc := 48) (k' := 0) (n' := 0) dX3_takeSign_48 lkX3_28 ⟨by decide, by decide⟩ (Nat.le_of_ble_eq_true rfl) rfl rfl ⟨by decide, by decide⟩ (by assumption) (c_X3_openTerm hL2 hA hV ?_)
        intro i1 f1 g1
        dsimp only [gRt]
        refine G_aload_n (pc := 51) 0 dX3_takeSign_51 rfl ?_
        refine G_iconst (pc := 52) (v := 1) dX3_takeSign_52 rfl ?_
        refine G_putI (pc := 53) dX3_takeSign_53 fX3_21 (by assumption) rfl rfl (by first | assumption | omega) ?_
        refine G_iconst (pc := 56) (v := 0) dX3_takeSign_56 rfl ?_
        refine G_iret (pc := 57) dX3_takeSign_57 ⟨_, rfl, rfl⟩ ⟨by decide, by decide⟩ ?_
        have hd : rSign k S = (0, rPh 1 (rOpen k S)) := by unfold rSign; rw [if_neg (fun z => by rcases z with z | z; exact h5 (by rw [e3]; exact z); exact h12 (by rw [e3]; exact z.1)), if_neg (fun z => h27 (by rw [e3]; exact z))]
        rw [hd] at hQ
        exact hQ _ (f1.put (by decide)) g1.phase
      · refine G_aload_n (pc := 30) 0 dX3_takeSign_30 rfl ?_
        refine gV0 (pc := 31) (k' := 0) (n' := 0) dX3_takeSign_31 lkX3_48 ⟨by decide, by decide⟩ (Nat.le_of_ble_eq_true rfl) rfl rfl ⟨by decide, by decide⟩ (by assumption) (c_X3_closeTerm hL2 hA hV hO ?_)
        intro i0 f0 g0
        dsimp only [gRt]
        refine G_aload_n (pc := 34) 0 dX3_takeSign_34 rfl ?_
        refine G_getR (pc := 35) dX3_takeSign_35 fX3_12 (by assumption) (by assumption) ?_
        refine gV0 (pc := 38) (k' := 0) (n' := 0) dX3_takeSign_38 lkX3_61 ⟨by decide, by decide⟩ (Nat.le_of_ble_eq_true rfl) rfl rfl ⟨by decide, by decide⟩ (by assumption) (c_X7_isFull a3 ?_)
        dsimp only [gRt]
        rw [g0.2.2.2.2.2.1]
        refine G_if_eq (pc := 41) (tgt := 46) dX3_takeSign_41 (by decide) (fun h41 => ?_) (fun h41 => ?_)
        · have h6 : ¬ S.1 + 1 = 6 := fun z => (gB_eq.mp h41) (by rw [show (rClose S).1 = S.1 + 1 from rfl, z]; decide)
          refine G_aload_n (pc := 46) 0 dX3_takeSign_46 rfl ?_
          refine G_iload_n (pc := 47) 1 dX3_takeSign_47 rfl ?_
          refine gV1 (pc := 48) (k' := 0) (n' := 0) dX3_takeSign_48 lkX3_28 ⟨by decide, by decide⟩ (Nat.le_of_ble_eq_true rfl) rfl rfl ⟨by decide, by decide⟩ (by assumption) (c_X3_openTerm hL2 hA g0 ?_)
          intro i1 f1 g1
          dsimp only [gRt]
          refine G_aload_n (pc := 51) 0 dX3_takeSign_51 rfl ?_
          refine G_iconst (pc := 52) (v := 1) dX3_takeSign_52 rfl ?_
          refine G_putI (pc := 53) dX3_takeSign_53 fX3_21 (by assumption) rfl rfl (by first | assumption | omega) ?_
          refine G_iconst (pc := 56) (v := 0) dX3_takeSign_56 rfl ?_
          refine G_iret (pc := 57) dX3_takeSign_57 ⟨_, rfl, rfl⟩ ⟨by decide, by decide⟩ ?_
          have hd : rSign k S = (0, rPh 1 (rOpen k (rClose S))) := by unfold rSign; rw [if_neg (fun z => by rcases z with z | z; exact h5 (by rw [e3]; exact z); exact h12 (by rw [e3]; exact z.1)), if_pos (e3 ▸ h27), if_neg h6]
          rw [hd] at hQ
          exact hQ _ ((f0.tr f1).put (by decide)) g1.phase
        · have h6 : S.1 + 1 = 6 := by
            have z := gB_ne.mp h41
            have hO1 := hO.1
            rcases Nat.lt_or_ge (S.1 + 1) 6 with q | q
            · exact absurd (show nI (rClose S).1 < 6 from nI_lt q (by decide)) z
            · omega
          refine G_iconst (pc := 44) (v := 3) dX3_takeSign_44 rfl ?_
          refine G_iret (pc := 45) dX3_takeSign_45 ⟨_, rfl, rfl⟩ ⟨by decide, by decide⟩ ?_
          have hd : rSign k S = (3, rClose S) := by unfold rSign; rw [if_neg (fun z => by rcases z with z | z; exact h5 (by rw [e3]; exact z); exact h12 (by rw [e3]; exact z.1)), if_pos (e3 ▸ h27), if_pos h6]
          rw [hd] at hQ
          exact hQ _ f0 g0
    · refine G_iload_n (pc := 15) 1 dX3_takeSign_15 rfl ?_
      refine G_iconst (pc := 16) (v := 1) dX3_takeSign_16 rfl ?_
      refine G_icmp_ne (pc := 17) (tgt := 22) dX3_takeSign_17 (by decide) (fun h17 => ?_) (fun h17 => ?_)
      · refine G_aload_n (pc := 22) 0 dX3_takeSign_22 rfl ?_
        refine G_getI (pc := 23) dX3_takeSign_23 fX3_21 (by assumption) ?_
        refine G_iconst (pc := 26) (v := 2) dX3_takeSign_26 rfl ?_
        refine G_icmp_ne (pc := 27) (tgt := 46) dX3_takeSign_27 (by decide) (fun h27 => ?_) (fun h27 => ?_)
        · refine G_aload_n (pc := 46) 0 dX3_takeSign_46 rfl ?_
          refine G_iload_n (pc := 47) 1 dX3_takeSign_47 rfl ?_
          refine gV1 (pc := 48) (k' := 0) (n' := 0) dX3_takeSign_48 lkX3_28 ⟨by decide, by decide⟩ (Nat.le_of_ble_eq_true rfl) rfl rfl ⟨by decide, by decide⟩ (by assumption) (c_X3_openTerm hL2 hA hV ?_)
          intro i1 f1 g1
          dsimp only [gRt]
          refine G_aload_n (pc := 51) 0 dX3_takeSign_51 rfl ?_
          refine G_iconst (pc := 52) (v := 1) dX3_takeSign_52 rfl ?_
          refine G_putI (pc := 53) dX3_takeSign_53 fX3_21 (by assumption) rfl rfl (by first | assumption | omega) ?_
          refine G_iconst (pc := 56) (v := 0) dX3_takeSign_56 rfl ?_
          refine G_iret (pc := 57) dX3_takeSign_57 ⟨_, rfl, rfl⟩ ⟨by decide, by decide⟩ ?_
          have hd : rSign k S = (0, rPh 1 (rOpen k S)) := by unfold rSign; rw [if_neg (fun z => by rcases z with z | z; exact h5 (by rw [e3]; exact z); exact h17 z.2), if_neg (fun z => h27 (by rw [e3]; exact z))]
          rw [hd] at hQ
          exact hQ _ (f1.put (by decide)) g1.phase
        · refine G_aload_n (pc := 30) 0 dX3_takeSign_30 rfl ?_
          refine gV0 (pc := 31) (k' := 0) (n' := 0) dX3_takeSign_31 lkX3_48 ⟨by decide, by decide⟩ (Nat.le_of_ble_eq_true rfl) rfl rfl ⟨by decide, by decide⟩ (by assumption) (c_X3_closeTerm hL2 hA hV hO ?_)
          intro i0 f0 g0
          dsimp only [gRt]
          refine G_aload_n (pc := 34) 0 dX3_takeSign_34 rfl ?_
          refine G_getR (pc := 35) dX3_takeSign_35 fX3_12 (by assumption) (by assumption) ?_
          refine gV0 (pc := 38) (k' := 0) (n' := 0) dX3_takeSign_38 lkX3_61 ⟨by decide, by decide⟩ (Nat.le_of_ble_eq_true rfl) rfl rfl ⟨by decide, by decide⟩ (by assumption) (c_X7_isFull a3 ?_)
          dsimp only [gRt]
          rw [g0.2.2.2.2.2.1]
          refine G_if_eq (pc := 41) (tgt := 46) dX3_takeSign_41 (by decide) (fun h41 => ?_) (fun h41 => ?_)
          · have h6 : ¬ S.1 + 1 = 6 := fun z => (gB_eq.mp h41) (by rw [show (rClose S).1 = S.1 + 1 from rfl, z]; decide)
            refine G_aload_n (pc := 46) 0 dX3_takeSign_46 rfl ?_
            refine G_iload_n (pc := 47) 1 dX3_takeSign_47 rfl ?_
            refine gV1 (pc := 48) (k' := 0) (n' := 0) dX3_takeSign_48 lkX3_28 ⟨by decide, by decide⟩ (Nat.le_of_ble_eq_true rfl) rfl rfl ⟨by decide, by decide⟩ (by assumption) (c_X3_openTerm hL2 hA g0 ?_)
            intro i1 f1 g1
            dsimp only [gRt]
            refine G_aload_n (pc := 51) 0 dX3_takeSign_51 rfl ?_
            refine G_iconst (pc := 52) (v := 1) dX3_takeSign_52 rfl ?_
            refine G_putI (pc := 53) dX3_takeSign_53 fX3_21 (by assumption) rfl rfl (by first | assumption | omega) ?_
            refine G_iconst (pc := 56) (v := 0) dX3_takeSign_56 rfl ?_
            refine G_iret (pc := 57) dX3_takeSign_57 ⟨_, rfl, rfl⟩ ⟨by decide, by decide⟩ ?_
            have hd : rSign k S = (0, rPh 1 (rOpen k (rClose S))) := by unfold rSign; rw [if_neg (fun z => by rcases z with z | z; exact h5 (by rw [e3]; exact z); exact h17 z.2), if_pos (e3 ▸ h27), if_neg h6]
            rw [hd] at hQ
            exact hQ _ ((f0.tr f1).put (by decide)) g1.phase
          · have h6 : S.1 + 1 = 6 := by
              have z := gB_ne.mp h41
              have hO1 := hO.1
              rcases Nat.lt_or_ge (S.1 + 1) 6 with q | q
              · exact absurd (show nI (rClose S).1 < 6 from nI_lt q (by decide)) z
              · omega
            refine G_iconst (pc := 44) (v := 3) dX3_takeSign_44 rfl ?_
            refine G_iret (pc := 45) dX3_takeSign_45 ⟨_, rfl, rfl⟩ ⟨by decide, by decide⟩ ?_
            have hd : rSign k S = (3, rClose S) := by unfold rSign; rw [if_neg (fun z => by rcases z with z | z; exact h5 (by rw [e3]; exact z); exact h17 z.2), if_pos (e3 ▸ h27), if_pos h6]
            rw [hd] at hQ
            exact hQ _ f0 g0
      · refine G_iconst (pc := 20) (v := 1) dX3_takeSign_20 rfl ?_
        refine G_iret (pc := 21) dX3_takeSign_21 ⟨_, rfl, rfl⟩ ⟨by decide, by decide⟩ ?_
        have hd : rSign k S = (1, S) := by unfold rSign; rw [if_pos (Or.inr ⟨e3 ▸ h12, h17⟩)]
        rw [hd] at hQ
        exact hQ i rdF.rf hV
set_option maxRecDepth 100000 in
set_option maxHeartbeats 4000000 in
theorem c_X3_take {Γ : gG} {T : gTy} {r : gR} {l : gLg} {i : gI} {Q : gQ} {a : Nat} {S : rS} {ch : Int32} (hL : lyRd T r a) (hA : gN Γ ≤ a) (hV : rdV i a S) (hO : rOk S) (hQ : ∀ i', rdF a i i' → rdV i' a (rTake ch S).2 → Q (some (.int (rTake ch S).1)) T r l i') : gC Γ MX3_take [.ref a, .int ch] T r l i Q := by
  have a0 := hL.1
  refine gC_of rfl (Nat.le_of_ble_eq_true rfl) (L := [(0, .ref a), (1, .int ch)]) rfl ?_
  refine G_iload_n (pc := 0) 1 dX3_take_0 rfl ?_
  refine G_bipush (pc := 1) (v := 43) dX3_take_1 rfl ?_
  refine G_icmp_eq (pc := 3) (tgt := 12) dX3_take_3 (by decide) (fun h3 => ?_) (fun h3 => ?_)
  · refine G_aload_n (pc := 12) 0 dX3_take_12 rfl ?_
    refine G_iload_n (pc := 13) 1 dX3_take_13 rfl ?_
    refine G_bipush (pc := 14) (v := 45) dX3_take_14 rfl ?_
    refine G_icmp_ne (pc := 16) (tgt := 23) dX3_take_16 (by decide) (fun h16 => ?_) (fun h16 => ?_)
    · refine G_iconst (pc := 23) (v := 1) dX3_take_23 rfl ?_
      have hd : rTake ch S = rSign 1 S := by unfold rTake; rw [if_pos (Or.inl h3), if_neg h16]
      rw [hd] at hQ
      refine gV1 (pc := 24) (k' := 0) (n' := 0) dX3_take_24 lkX3_51 ⟨by decide, by decide⟩ (Nat.le_of_ble_eq_true rfl) rfl rfl ⟨by decide, by decide⟩ (by assumption) (c_X3_takeSign hL hA hV hO ?_)
      intro i1 f1 g1
      dsimp only [gRt]
      refine G_iret (pc := 27) dX3_take_27 ⟨_, rfl, rfl⟩ ⟨by decide, by decide⟩ ?_
      exact hQ _ f1 g1
    · refine G_iconst (pc := 19) (v := (-1)) dX3_take_19 rfl ?_
      refine G_goto (pc := 20) (tgt := 24) dX3_take_20 (by decide) ?_
      have hd : rTake ch S = rSign (-1) S := by unfold rTake; rw [if_pos (Or.inl h3), if_pos h16]
      rw [hd] at hQ
      refine gV1 (pc := 24) (k' := 0) (n' := 0) dX3_take_24 lkX3_51 ⟨by decide, by decide⟩ (Nat.le_of_ble_eq_true rfl) rfl rfl ⟨by decide, by decide⟩ (by assumption) (c_X3_takeSign hL hA hV hO ?_)
      intro i1 f1 g1
      dsimp only [gRt]
      refine G_iret (pc := 27) dX3_take_27 ⟨_, rfl, rfl⟩ ⟨by decide, by decide⟩ ?_
      exact hQ _ f1 g1
  · refine G_iload_n (pc := 6) 1 dX3_take_6 rfl ?_
    refine G_bipush (pc := 7) (v := 45) dX3_take_7 rfl ?_
    refine G_icmp_ne (pc := 9) (tgt := 28) dX3_take_9 (by decide) (fun h9 => ?_) (fun h9 => ?_)
    · refine G_iload_n (pc := 28) 1 dX3_take_28 rfl ?_
      refine G_bipush (pc := 29) (v := 49) dX3_take_29 rfl ?_
      refine G_icmp_lt (pc := 31) (tgt := 49) dX3_take_31 (by decide) (fun h31 => ?_) (fun h31 => ?_)
      · refine G_iload_n (pc := 49) 1 dX3_take_49 rfl ?_
        refine G_bipush (pc := 50) (v := 120) dX3_take_50 rfl ?_
        refine G_icmp_eq (pc := 52) (tgt := 61) dX3_take_52 (by decide) (fun h52 => ?_) (fun h52 => ?_)
        · refine G_aload_n (pc := 61) 0 dX3_take_61 rfl ?_
          refine G_iload_n (pc := 62) 1 dX3_take_62 rfl ?_
          refine G_bipush (pc := 63) (v := 120) dX3_take_63 rfl ?_
          refine G_icmp_ne (pc := 65) (tgt := 72) dX3_take_65 (by decide) (fun h65 => ?_) (fun h65 => ?_)
          · refine G_iconst (pc := 72) (v := 0) dX3_take_72 rfl ?_
            have hd : rTake ch S = rLet (ch = 120) S := by unfold rTake; rw [if_neg (fun z => by rcases z with z | z; exact h3 z; exact h9 z), if_neg (fun z => z.1 h31), if_pos (Or.inl h52)]
            rw [hd] at hQ
            rw [show (0 : Int32) = gB (ch = 120) from (gB_f h65).symm]
            refine gV1 (pc := 73) (k' := 0) (n' := 0) dX3_take_73 lkX3_57 ⟨by decide, by decide⟩ (Nat.le_of_ble_eq_true rfl) rfl rfl ⟨by decide, by decide⟩ (by assumption) (c_X3_takeLetter hL hA hV hO ?_)
            intro i1 f1 g1
            dsimp only [gRt]
            refine G_iret (pc := 76) dX3_take_76 ⟨_, rfl, rfl⟩ ⟨by decide, by decide⟩ ?_
            exact hQ _ f1 g1
          · refine G_iconst (pc := 68) (v := 1) dX3_take_68 rfl ?_
            refine G_goto (pc := 69) (tgt := 73) dX3_take_69 (by decide) ?_
            have hd : rTake ch S = rLet (ch = 120) S := by unfold rTake; rw [if_neg (fun z => by rcases z with z | z; exact h3 z; exact h9 z), if_neg (fun z => z.1 h31), if_pos (Or.inl h52)]
            rw [hd] at hQ
            rw [show (1 : Int32) = gB (ch = 120) from (gB_t h65).symm]
            refine gV1 (pc := 73) (k' := 0) (n' := 0) dX3_take_73 lkX3_57 ⟨by decide, by decide⟩ (Nat.le_of_ble_eq_true rfl) rfl rfl ⟨by decide, by decide⟩ (by assumption) (c_X3_takeLetter hL hA hV hO ?_)
            intro i1 f1 g1
            dsimp only [gRt]
            refine G_iret (pc := 76) dX3_take_76 ⟨_, rfl, rfl⟩ ⟨by decide, by decide⟩ ?_
            exact hQ _ f1 g1
        · refine G_iload_n (pc := 55) 1 dX3_take_55 rfl ?_
          refine G_bipush (pc := 56) (v := 121) dX3_take_56 rfl ?_
          refine G_icmp_ne (pc := 58) (tgt := 77) dX3_take_58 (by decide) (fun h58 => ?_) (fun h58 => ?_)
          · refine G_iconst (pc := 77) (v := 1) dX3_take_77 rfl ?_
            refine G_iret (pc := 78) dX3_take_78 ⟨_, rfl, rfl⟩ ⟨by decide, by decide⟩ ?_
            have hd : rTake ch S = (1, S) := by unfold rTake; rw [if_neg (fun z => by rcases z with z | z; exact h3 z; exact h9 z), if_neg (fun z => z.1 h31), if_neg (fun z => by rcases z with z | z; exact h52 z; exact h58 z)]
            rw [hd] at hQ
            exact hQ i rdF.rf hV
          · refine G_aload_n (pc := 61) 0 dX3_take_61 rfl ?_
            refine G_iload_n (pc := 62) 1 dX3_take_62 rfl ?_
            refine G_bipush (pc := 63) (v := 120) dX3_take_63 rfl ?_
            refine G_icmp_ne (pc := 65) (tgt := 72) dX3_take_65 (by decide) (fun h65 => ?_) (fun h65 => ?_)
            · refine G_iconst (pc := 72) (v := 0) dX3_take_72 rfl ?_
              have hd : rTake ch S = rLet (ch = 120) S := by unfold rTake; rw [if_neg (fun z => by rcases z with z | z; exact h3 z; exact h9 z), if_neg (fun z => z.1 h31), if_pos (Or.inr h58)]
              rw [hd] at hQ
              rw [show (0 : Int32) = gB (ch = 120) from (gB_f h65).symm]
              refine gV1 (pc := 73) (k' := 0) (n' := 0) dX3_take_73 lkX3_57 ⟨by decide, by decide⟩ (Nat.le_of_ble_eq_true rfl) rfl rfl ⟨by decide, by decide⟩ (by assumption) (c_X3_takeLetter hL hA hV hO ?_)
              intro i1 f1 g1
              dsimp only [gRt]
              refine G_iret (pc := 76) dX3_take_76 ⟨_, rfl, rfl⟩ ⟨by decide, by decide⟩ ?_
              exact hQ _ f1 g1
            · refine G_iconst (pc := 68) (v := 1) dX3_take_68 rfl ?_
              refine G_goto (pc := 69) (tgt := 73) dX3_take_69 (by decide) ?_
              have hd : rTake ch S = rLet (ch = 120) S := by unfold rTake; rw [if_neg (fun z => by rcases z with z | z; exact h3 z; exact h9 z), if_neg (fun z => z.1 h31), if_pos (Or.inr h58)]
              rw [hd] at hQ
              rw [show (1 : Int32) = gB (ch = 120) from (gB_t h65).symm]
              refine gV1 (pc := 73) (k' := 0) (n' := 0) dX3_take_73 lkX3_57 ⟨by decide, by decide⟩ (Nat.le_of_ble_eq_true rfl) rfl rfl ⟨by decide, by decide⟩ (by assumption) (c_X3_takeLetter hL hA hV hO ?_)
              intro i1 f1 g1
              dsimp only [gRt]
              refine G_iret (pc := 76) dX3_take_76 ⟨_, rfl, rfl⟩ ⟨by decide, by decide⟩ ?_
              exact hQ _ f1 g1
      · refine G_iload_n (pc := 34) 1 dX3_take_34 rfl ?_
        refine G_bipush (pc := 35) (v := 53) dX3_take_35 rfl ?_
        refine G_icmp_gt (pc := 37) (tgt := 49) dX3_take_37 (by decide) (fun h37 => ?_) (fun h37 => ?_)
        · refine G_iload_n (pc := 49) 1 dX3_take_49 rfl ?_
          refine G_bipush (pc := 50) (v := 120) dX3_take_50 rfl ?_
          refine G_icmp_eq (pc := 52) (tgt := 61) dX3_take_52 (by decide) (fun h52 => ?_) (fun h52 => ?_)
          · refine G_aload_n (pc := 61) 0 dX3_take_61 rfl ?_
            refine G_iload_n (pc := 62) 1 dX3_take_62 rfl ?_
            refine G_bipush (pc := 63) (v := 120) dX3_take_63 rfl ?_
            refine G_icmp_ne (pc := 65) (tgt := 72) dX3_take_65 (by decide) (fun h65 => ?_) (fun h65 => ?_)
            · refine G_iconst (pc := 72) (v := 0) dX3_take_72 rfl ?_
              have hd : rTake ch S = rLet (ch = 120) S := by unfold rTake; rw [if_neg (fun z => by rcases z with z | z; exact h3 z; exact h9 z), if_neg (fun z => z.2 h37), if_pos (Or.inl h52)]
              rw [hd] at hQ
              rw [show (0 : Int32) = gB (ch = 120) from (gB_f h65).symm]
              refine gV1 (pc := 73) (k' := 0) (n' := 0) dX3_take_73 lkX3_57 ⟨by decide, by decide⟩ (Nat.le_of_ble_eq_true rfl) rfl rfl ⟨by decide, by decide⟩ (by assumption) (c_X3_takeLetter hL hA hV hO ?_)
              intro i1 f1 g1
              dsimp only [gRt]
              refine G_iret (pc := 76) dX3_take_76 ⟨_, rfl, rfl⟩ ⟨by decide, by decide⟩ ?_
              exact hQ _ f1 g1
            · refine G_iconst (pc := 68) (v := 1) dX3_take_68 rfl ?_
              refine G_goto (pc := 69) (tgt := 73) dX3_take_69 (by decide) ?_
              have hd : rTake ch S = rLet (ch = 120) S := by unfold rTake; rw [if_neg (fun z => by rcases z with z | z; exact h3 z; exact h9 z), if_neg (fun z => z.2 h37), if_pos (Or.inl h52)]
              rw [hd] at hQ
              rw [show (1 : Int32) = gB (ch = 120) from (gB_t h65).symm]
              refine gV1 (pc := 73) (k' := 0) (n' := 0) dX3_take_73 lkX3_57 ⟨by decide, by decide⟩ (Nat.le_of_ble_eq_true rfl) rfl rfl ⟨by decide, by decide⟩ (by assumption) (c_X3_takeLetter hL hA hV hO ?_)
              intro i1 f1 g1
              dsimp only [gRt]
              refine G_iret (pc := 76) dX3_take_76 ⟨_, rfl, rfl⟩ ⟨by decide, by decide⟩ ?_
              exact hQ _ f1 g1
          · refine G_iload_n (pc := 55) 1 dX3_take_55 rfl ?_
            refine G_bipush (pc := 56) (v := 121) dX3_take_56 rfl ?_
            refine G_icmp_ne (pc := 58) (tgt := 77) dX3_take_58 (by decide) (fun h58 => ?_) (fun h58 => ?_)
            · refine G_iconst (pc := 77) (v := 1) dX3_take_77 rfl ?_
              refine G_iret (pc := 78) dX3_take_78 ⟨_, rfl, rfl⟩ ⟨by decide, by decide⟩ ?_
              have hd : rTake ch S = (1, S) := by unfold rTake; rw [if_neg (fun z => by rcases z with z | z; exact h3 z; exact h9 z), if_neg (fun z => z.2 h37), if_neg (fun z => by rcases z with z | z; exact h52 z; exact h58 z)]
              rw [hd] at hQ
              exact hQ i rdF.rf hV
            · refine G_aload_n (pc := 61) 0 dX3_take_61 rfl ?_
              refine G_iload_n (pc := 62) 1 dX3_take_62 rfl ?_
              refine G_bipush (pc := 63) (v := 120) dX3_take_63 rfl ?_
              refine G_icmp_ne (pc := 65) (tgt := 72) dX3_take_65 (by decide) (fun h65 => ?_) (fun h65 => ?_)
              · refine G_iconst (pc := 72) (v := 0) dX3_take_72 rfl ?_
                have hd : rTake ch S = rLet (ch = 120) S := by unfold rTake; rw [if_neg (fun z => by rcases z with z | z; exact h3 z; exact h9 z), if_neg (fun z => z.2 h37), if_pos (Or.inr h58)]
                rw [hd] at hQ
                rw [show (0 : Int32) = gB (ch = 120) from (gB_f h65).symm]
                refine gV1 (pc := 73) (k' := 0) (n' := 0) dX3_take_73 lkX3_57 ⟨by decide, by decide⟩ (Nat.le_of_ble_eq_true rfl) rfl rfl ⟨by decide, by decide⟩ (by assumption) (c_X3_takeLetter hL hA hV hO ?_)
                intro i1 f1 g1
                dsimp only [gRt]
                refine G_iret (pc := 76) dX3_take_76 ⟨_, rfl, rfl⟩ ⟨by decide, by decide⟩ ?_
                exact hQ _ f1 g1
              · refine G_iconst (pc := 68) (v := 1) dX3_take_68 rfl ?_
                refine G_goto (pc := 69) (tgt := 73) dX3_take_69 (by decide) ?_
                have hd : rTake ch S = rLet (ch = 120) S := by unfold rTake; rw [if_neg (fun z => by rcases z with z | z; exact h3 z; exact h9 z), if_neg (fun z => z.2 h37), if_pos (Or.inr h58)]
                rw [hd] at hQ
                rw [show (1 : Int32) = gB (ch = 120) from (gB_t h65).symm]
                refine gV1 (pc := 73) (k' := 0) (n' := 0) dX3_take_73 lkX3_57 ⟨by decide, by decide⟩ (Nat.le_of_ble_eq_true rfl) rfl rfl ⟨by decide, by decide⟩ (by assumption) (c_X3_takeLetter hL hA hV hO ?_)
                intro i1 f1 g1
                dsimp only [gRt]
                refine G_iret (pc := 76) dX3_take_76 ⟨_, rfl, rfl⟩ ⟨by decide, by decide⟩ ?_
                exact hQ _ f1 g1
        · refine G_aload_n (pc := 40) 0 dX3_take_40 rfl ?_
          refine G_iload_n (pc := 41) 1 dX3_take_41 rfl ?_
          refine G_bipush (pc := 42) (v := 48) dX3_take_42 rfl ?_
          refine G_isub (pc := 44) dX3_take_44 ?_
          have hd : rTake ch S = rDig (ch - 48) S := by unfold rTake; rw [if_neg (fun z => by rcases z with z | z; exact h3 z; exact h9 z), if_pos ⟨h31, h37⟩]
          rw [hd] at hQ
          refine gV1 (pc := 45) (k' := 0) (n' := 0) dX3_take_45 lkX3_54 ⟨by decide, by decide⟩ (Nat.le_of_ble_eq_true rfl) rfl rfl ⟨by decide, by decide⟩ (by assumption) (c_X3_takeDigit hL hA hV hO ?_)
          intro i1 f1 g1
          dsimp only [gRt]
          refine G_iret (pc := 48) dX3_take_48 ⟨_, rfl, rfl⟩ ⟨by decide, by decide⟩ ?_
          exact hQ _ f1 g1
    · refine G_aload_n (pc := 12) 0 dX3_take_12 rfl ?_
      refine G_iload_n (pc := 13) 1 dX3_take_13 rfl ?_
      refine G_bipush (pc := 14) (v := 45) dX3_take_14 rfl ?_
      refine G_icmp_ne (pc := 16) (tgt := 23) dX3_take_16 (by decide) (fun h16 => ?_) (fun h16 => ?_)
      · refine G_iconst (pc := 23) (v := 1) dX3_take_23 rfl ?_
        have hd : rTake ch S = rSign 1 S := by unfold rTake; rw [if_pos (Or.inr h9), if_neg h16]
        rw [hd] at hQ
        refine gV1 (pc := 24) (k' := 0) (n' := 0) dX3_take_24 lkX3_51 ⟨by decide, by decide⟩ (Nat.le_of_ble_eq_true rfl) rfl rfl ⟨by decide, by decide⟩ (by assumption) (c_X3_takeSign hL hA hV hO ?_)
        intro i1 f1 g1
        dsimp only [gRt]
        refine G_iret (pc := 27) dX3_take_27 ⟨_, rfl, rfl⟩ ⟨by decide, by decide⟩ ?_
        exact hQ _ f1 g1
      · refine G_iconst (pc := 19) (v := (-1)) dX3_take_19 rfl ?_
        refine G_goto (pc := 20) (tgt := 24) dX3_take_20 (by decide) ?_
        have hd : rTake ch S = rSign (-1) S := by unfold rTake; rw [if_pos (Or.inr h9), if_pos h16]
        rw [hd] at hQ
        refine gV1 (pc := 24) (k' := 0) (n' := 0) dX3_take_24 lkX3_51 ⟨by decide, by decide⟩ (Nat.le_of_ble_eq_true rfl) rfl rfl ⟨by decide, by decide⟩ (by assumption) (c_X3_takeSign hL hA hV hO ?_)
        intro i1 f1 g1
        dsimp only [gRt]
        refine G_iret (pc := 27) dX3_take_27 ⟨_, rfl, rfl⟩ ⟨by decide, by decide⟩ ?_
        exact hQ _ f1 g1
/-- the scan so far -/
def scF (a : Nat) (i i' : gI) : Prop := frR a (a + 5) i i'
def rZ : rS := rMk 0 (fun _ _ => 0) 0 1 1 0 0
set_option maxRecDepth 100000 in
set_option maxHeartbeats 4000000 in
theorem lp_X3_scan {Γ : gG} {T : gTy} {r : gR} {l : gLg} {i : gI} {Q : gQ} {a b n : Nat} (hL : lyRd T r a) (hX : lyTx T r b) (hA : gN Γ ≤ a) (hab : b + 2 ≤ a ∨ a + 5 ≤ b) (hn : i b 1 = nI n) (hn6 : n ≤ 60) (hQ : ∀ i', frR a (a + 5) i i' → i' a 2 = (rScan (i (b + 1)) n 0 rZ).1 → (¬ (rScan (i (b + 1)) n 0 rZ).1 = 0 → i' a 1 = nI (rScan (i (b + 1)) n 0 rZ).2.1) → rdV i' a (rScan (i (b + 1)) n 0 rZ).2.2 → Q none T r l i') : ∀ d k S i1, k + d = n → frR a (a + 5) i i1 → rdV i1 a S → rOk S → i1 a 2 = 0 → rScan (i (b + 1)) d k S = rScan (i (b + 1)) n 0 rZ → G Γ MX3_scan 0 0 24 [(0, .ref a), (1, .ref b), (2, .int (nI k))] [] T r l i1 Q := by
  have hL2 := hL
  obtain ⟨a0, a1, a2⟩ := hL
  obtain ⟨x0, x1, x2⟩ := hX
  intro d
  induction d with
  | zero =>
    intro k S i1 hk hi hV hO hz hg
    have hkn : n = k := by omega
    obtain ⟨e3, e4, e5, e6, e7, e8, e9⟩ := id hV
    have eb : i1 b 1 = nI n := by rw [hi b (by omega)]; exact hn
    refine G_iload_n (pc := 24) 2 dX3_scan_24 rfl ?_
    refine G_aload_n (pc := 25) 1 dX3_scan_25 rfl ?_
    refine G_getI (pc := 26) dX3_scan_26 fX3_32 (by assumption) ?_
    refine G_icmp_ge (pc := 29) (tgt := 65) dX3_scan_29 (by decide) (fun h29 => ?_) (fun h29 => ?_)
    · refine G_aload_n (pc := 65) 0 dX3_scan_65 rfl ?_
      refine G_getI (pc := 66) dX3_scan_66 fX3_21 (by assumption) ?_
      refine G_iconst (pc := 69) (v := 2) dX3_scan_69 rfl ?_
      refine G_icmp_ne (pc := 70) (tgt := 80) dX3_scan_70 (by decide) (fun h70 => ?_) (fun h70 => ?_)
      · refine G_aload_n (pc := 80) 0 dX3_scan_80 rfl ?_
        refine G_aload_n (pc := 81) 1 dX3_scan_81 rfl ?_
        refine G_getI (pc := 82) dX3_scan_82 fX3_32 (by assumption) ?_
        rw [eb]
        refine G_putI (pc := 85) dX3_scan_85 fX3_37 (by assumption) rfl rfl (by first | assumption | omega) ?_
        refine G_aload_n (pc := 88) 0 dX3_scan_88 rfl ?_
        refine G_iconst (pc := 89) (v := 1) dX3_scan_89 rfl ?_
        refine G_putI (pc := 90) dX3_scan_90 fX3_25 (by assumption) rfl rfl (by first | assumption | omega) ?_
        refine G_vret (pc := 93) dX3_scan_93 rfl ⟨by decide, by decide⟩ ?_
        have hd : rScan (i (b + 1)) 0 k S = (1, k, S) := by rw [rScan, if_neg (fun z => h70 (by rw [e3]; exact z))]
        rw [hd] at hg
        rw [← hg] at hQ
        refine hQ _ ((hi.put (by omega) (by omega)).put (by omega) (by omega)) (up2_self _ _ _ _) (fun _ => by rw [up2_row (by decide), up2_self, hkn]) ⟨?_, ?_, ?_, ?_, ?_, ?_, fun c hc j hj => ?_⟩ <;> simp (disch := omega) only [up2_ne, up2_row]
        · exact e3
        · exact e4
        · exact e5
        · exact e6
        · exact e7
        · exact e8
        · exact e9 c hc j hj
      · refine G_aload_n (pc := 73) 0 dX3_scan_73 rfl ?_
        refine gV0 (pc := 74) (k' := 0) (n' := 0) dX3_scan_74 lkX3_48 ⟨by decide, by decide⟩ (Nat.le_of_ble_eq_true rfl) rfl rfl ⟨by decide, by decide⟩ (by assumption) (c_X3_closeTerm hL2 hA hV hO ?_)
        intro i2 f1 g1
        dsimp only [gRt]
        refine G_goto (pc := 77) (tgt := 93) dX3_scan_77 (by decide) ?_
        refine G_vret (pc := 93) dX3_scan_93 rfl ⟨by decide, by decide⟩ ?_
        have hd : rScan (i (b + 1)) 0 k S = (0, k, rClose S) := by rw [rScan, if_pos (e3 ▸ h70)]
        rw [hd] at hg
        rw [← hg] at hQ
        exact hQ _ (hi.tr f1.1) (f1.2.2.trans hz) (fun z => absurd rfl z) g1
    · exact absurd (by rw [eb]; exact nI_le (by omega) (by omega)) h29
  | succ d ih =>
    intro k S i1 hk hi hV hO hz hg
    obtain ⟨e3, e4, e5, e6, e7, e8, e9⟩ := id hV
    have eb : i1 b 1 = nI n := by rw [hi b (by omega)]; exact hn
    refine G_iload_n (pc := 24) 2 dX3_scan_24 rfl ?_
    refine G_aload_n (pc := 25) 1 dX3_scan_25 rfl ?_
    refine G_getI (pc := 26) dX3_scan_26 fX3_32 (by assumption) ?_
    refine G_icmp_ge (pc := 29) (tgt := 65) dX3_scan_29 (by decide) (fun h29 => ?_) (fun h29 => ?_)
    · exact absurd h29 (by rw [eb]; exact nI_ge (by omega) (by omega))
    · refine G_aload_n (pc := 32) 0 dX3_scan_32 rfl ?_
      refine G_iload_n (pc := 33) 2 dX3_scan_33 rfl ?_
      refine G_putI (pc := 34) dX3_scan_34 fX3_37 (by assumption) rfl rfl (by first | assumption | omega) ?_
      refine G_aload_n (pc := 37) 0 dX3_scan_37 rfl ?_
      refine G_aload_n (pc := 38) 0 dX3_scan_38 rfl ?_
      refine G_aload_n (pc := 39) 1 dX3_scan_39 rfl ?_
      refine G_getR (pc := 40) dX3_scan_40 fX3_40 (by assumption) (by assumption) ?_
      refine G_iload_n (pc := 43) 2 dX3_scan_43 rfl ?_
      refine G_ialdJ (pc := 44) dX3_scan_44 (by assumption) rfl (by first | assumption | omega) (by decide) ?_
      rw [up2_ne (by omega), hi (b + 1) (by omega)]
      have V2 : rdV (up2 i1 a 1 (nI k)) a S := by
        refine ⟨?_, ?_, ?_, ?_, ?_, ?_, fun c hc j hj => ?_⟩ <;> simp (disch := omega) only [up2_ne, up2_row]
        · exact e3
        · exact e4
        · exact e5
        · exact e6
        · exact e7
        · exact e8
        · exact e9 c hc j hj
      refine gV1 (pc := 45) (k' := 0) (n' := 0) dX3_scan_45 lkX3_44 ⟨by decide, by decide⟩ (Nat.le_of_ble_eq_true rfl) rfl rfl ⟨by decide, by decide⟩ (by assumption) (c_X3_take hL2 hA V2 hO ?_)
      intro i2 f1 g1
      dsimp only [gRt]
      refine G_putI (pc := 48) dX3_scan_48 fX3_25 (by assumption) rfl rfl (by first | assumption | omega) ?_
      have V3 : rdV (up2 i2 a 2 (rTake (i (b + 1) k) S).1) a (rTake (i (b + 1) k) S).2 := by
        obtain ⟨q3, q4, q5, q6, q7, q8, q9⟩ := g1
        refine ⟨?_, ?_, ?_, ?_, ?_, ?_, fun c hc j hj => ?_⟩ <;> simp (disch := omega) only [up2_ne, up2_row]
        · exact q3
        · exact q4
        · exact q5
        · exact q6
        · exact q7
        · exact q8
        · exact q9 c hc j hj
      refine G_aload_n (pc := 51) 0 dX3_scan_51 rfl ?_
      refine G_getI (pc := 52) dX3_scan_52 fX3_25 (by assumption) ?_
      refine G_if_eq (pc := 55) (tgt := 59) dX3_scan_55 (by decide) (fun h55 => ?_) (fun h55 => ?_)
      · refine G_inc2 (pc := 59) (v := 1) dX3_scan_59 rfl (by decide) rfl ?_
        refine G_goto (pc := 62) (tgt := 24) dX3_scan_62 (by decide) ?_
        rw [nI_1]
        have hz0 : (rTake (i (b + 1) k) S).1 = 0 := by rw [up2_self] at h55; exact h55
        exact ih (k + 1) _ _ (by omega) (((hi.put (by omega) (by omega)).tr f1.1).put (by omega) (by omega)) V3 (rOk_take hO hz0) (by rw [up2_self]; exact hz0) (by rw [← hg, rScan, if_pos hz0])
      · refine G_vret (pc := 58) dX3_scan_58 rfl ⟨by decide, by decide⟩ ?_
        have hd : rScan (i (b + 1)) (d + 1) k S = ((rTake (i (b + 1) k) S).1, k, (rTake (i (b + 1) k) S).2) := by rw [rScan, if_neg (fun z => h55 (by rw [up2_self]; exact z))]
        rw [hd] at hg
        rw [← hg] at hQ
        exact hQ _ (((hi.put (by omega) (by omega)).tr f1.1).put (by omega) (by omega)) (up2_self _ _ _ _) (fun _ => by rw [up2_row (by decide), f1.2.1, up2_self]) V3
set_option maxRecDepth 100000 in
set_option maxHeartbeats 4000000 in
theorem c_X3_openZ {Γ : gG} {T : gTy} {r : gR} {l : gLg} {i : gI} {Q : gQ} {a : Nat} {s : Int32} (hL : lyRd T r a) (hA : gN Γ ≤ a) (hQ : Q none T r l (up2 (up2 (up2 (up2 i a 4 s) a 5 1) a 6 0) a 7 0)) : gC Γ MX3_openTerm [.ref a, .int s] T r l i Q := by
  have a0 := hL.1
  refine gC_of rfl (Nat.le_of_ble_eq_true rfl) (L := [(0, .ref a), (1, .int s)]) rfl ?_
  refine G_aload_n (pc := 0) 0 dX3_openTerm_0 rfl ?_
  refine G_iload_n (pc := 1) 1 dX3_openTerm_1 rfl ?_
  refine G_putI (pc := 2) dX3_openTerm_2 fX3_74 (by assumption) rfl rfl (by first | assumption | omega) ?_
  refine G_aload_n (pc := 5) 0 dX3_openTerm_5 rfl ?_
  refine G_iconst (pc := 6) (v := 1) dX3_openTerm_6 rfl ?_
  refine G_putI (pc := 7) dX3_openTerm_7 fX3_65 (by assumption) rfl rfl (by first | assumption | omega) ?_
  refine G_aload_n (pc := 10) 0 dX3_openTerm_10 rfl ?_
  refine G_iconst (pc := 11) (v := 0) dX3_openTerm_11 rfl ?_
  refine G_putI (pc := 12) dX3_openTerm_12 fX3_68 (by assumption) rfl rfl (by first | assumption | omega) ?_
  refine G_aload_n (pc := 15) 0 dX3_openTerm_15 rfl ?_
  refine G_iconst (pc := 16) (v := 0) dX3_openTerm_16 rfl ?_
  refine G_putI (pc := 17) dX3_openTerm_17 fX3_71 (by assumption) rfl rfl (by first | assumption | omega) ?_
  refine G_vret (pc := 20) dX3_openTerm_20 rfl ⟨by decide, by decide⟩ ?_
  exact hQ
set_option maxRecDepth 100000 in
set_option maxHeartbeats 4000000 in
theorem c_X3_scan {Γ : gG} {T : gTy} {r : gR} {l : gLg} {i : gI} {Q : gQ} {a b n : Nat} (hL : lyRd T r a) (hX : lyTx T r b) (hA : gN Γ ≤ a) (hab : b + 2 ≤ a ∨ a + 5 ≤ b) (hn : i b 1 = nI n) (hn6 : n ≤ 60) (hQ : ∀ i', frR a (a + 5) i i' → i' a 2 = (rScan (i (b + 1)) n 0 rZ).1 → (¬ (rScan (i (b + 1)) n 0 rZ).1 = 0 → i' a 1 = nI (rScan (i (b + 1)) n 0 rZ).2.1) → rdV i' a (rScan (i (b + 1)) n 0 rZ).2.2 → Q none T r l i') : gC Γ MX3_scan [.ref a, .ref b] T r l i Q := by
  have hL2 := hL
  obtain ⟨a0, a1, a2⟩ := hL
  have a3 := a2.1
  have x0 := hX.1
  refine gC_of rfl (Nat.le_of_ble_eq_true rfl) (L := [(0, .ref a), (1, .ref b)]) rfl ?_
  refine G_aload_n (pc := 0) 0 dX3_scan_0 rfl ?_
  refine G_getR (pc := 1) dX3_scan_1 fX3_12 (by assumption) (by assumption) ?_
  refine gV0 (pc := 4) (k' := 0) (n' := 0) dX3_scan_4 lkX3_18 ⟨by decide, by decide⟩ (Nat.le_of_ble_eq_true rfl) rfl rfl ⟨by decide, by decide⟩ (by assumption) (c_X7_clear a3 (by omega) ?_)
  dsimp only [gRt]
  refine G_aload_n (pc := 7) 0 dX3_scan_7 rfl ?_
  refine G_iconst (pc := 8) (v := 0) dX3_scan_8 rfl ?_
  refine G_putI (pc := 9) dX3_scan_9 fX3_21 (by assumption) rfl rfl (by first | assumption | omega) ?_
  refine G_aload_n (pc := 12) 0 dX3_scan_12 rfl ?_
  refine G_iconst (pc := 13) (v := 0) dX3_scan_13 rfl ?_
  refine G_putI (pc := 14) dX3_scan_14 fX3_25 (by assumption) rfl rfl (by first | assumption | omega) ?_
  refine G_aload_n (pc := 17) 0 dX3_scan_17 rfl ?_
  refine G_iconst (pc := 18) (v := 1) dX3_scan_18 rfl ?_
  refine gV1 (pc := 19) (k' := 0) (n' := 0) dX3_scan_19 lkX3_28 ⟨by decide, by decide⟩ (Nat.le_of_ble_eq_true rfl) rfl rfl ⟨by decide, by decide⟩ a0 (c_X3_openZ hL2 hA ?_)
  dsimp only [gRt]
  refine G_iconst (pc := 22) (v := 0) dX3_scan_22 rfl ?_
  refine G_sn2 (pc := 23) (gSt_in dX3_scan_23 rfl (by decide)) rfl ?_
  have V0 : rdV (up2 (up2 (up2 (up2 (up2 (up2 (up2 i (a + 1) 3 0) a 3 0) a 2 0) a 4 1) a 5 1) a 6 0) a 7 0) a rZ := by
    refine ⟨?_, ?_, ?_, ?_, ?_, ?_, fun c hc j hj => absurd hj (Nat.not_lt_zero j)⟩ <;> simp (disch := omega) only [up2_ne, up2_row, up2_self]
    · rfl
    · rfl
    · rfl
    · rfl
    · rfl
    · rfl
  exact lp_X3_scan hL2 hX hA hab hn hn6 hQ n 0 rZ _ (Nat.zero_add n) (((((((frR.rf.put (by omega) (by omega)).put (by omega) (by omega)).put (by omega) (by omega)).put (by omega) (by omega)).put (by omega) (by omega)).put (by omega) (by omega)).put (by omega) (by omega)) V0 ⟨Nat.zero_le _, Nat.zero_le _⟩ (by simp (disch := omega) only [up2_row, up2_self]) rfl
