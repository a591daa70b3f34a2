/-! Mover.advance -/
def gGoP (tr : Int32 → Option (Int64 × Int64 × Nat)) : Nat → Nat → Option (Nat × (Int64 × Int64 × Nat))
  | 0, _ => none
  | e + 1, k => if k = 0 then none else (match tr (nI k) with
    | some c => some (k, c)
    | none => gGoP tr e (k / 2))
theorem gGoP_0 {tr : Int32 → Option (Int64 × Int64 × Nat)} {e : Nat} : gGoP tr e 0 = none := by cases e <;> simp [gGoP]
theorem gGoP_n {tr : Int32 → Option (Int64 × Int64 × Nat)} {e k : Nat} (hk : k ≠ 0) (h : tr (nI k) = none) : gGoP tr (e + 1) k = gGoP tr e (k / 2) := by rw [gGoP, if_neg hk, h]
theorem gGoP_s {tr : Int32 → Option (Int64 × Int64 × Nat)} {e k : Nat} {c : Int64 × Int64 × Nat} (hk : k ≠ 0) (h : tr (nI k) = some c) : gGoP tr (e + 1) k = some (k, c) := by rw [gGoP, if_neg hk, h]
/-- what a walk at (x, y) with sign s tries at pace k, by the class -/
def gTrA (f : Nat → Int32) (p q : Nat → Nat) (n m : Nat) (x y s : Int32) (k : Int32) : Option (Int64 × Int64 × Nat) :=
  if gRoot (gGG f p q n x.toInt64 y.toInt64) = 0 then none else gTry f p q n m x y (gSum f p q x.toInt64 y.toInt64 1 n) (gSum f p q x.toInt64 y.toInt64 2 n) (gRoot (gGG f p q n x.toInt64 y.toInt64)) (k.toInt64 * s.toInt64)
abbrev gWc (f : Nat → Int32) (p q : Nat → Nat) (n : Nat) (x y s : Int32) (c : Int64 × Int64 × Nat) : Int64 := gWay (gSum f p q c.1 c.2.1 1 n) (gSum f p q c.1 c.2.1 2 n) (c.1.toInt32 - x).toInt64 (c.2.1.toInt32 - y).toInt64 s
/-- as landed, the corrector apart -/
def ld2 (v : Nat) (i i' : gI) (a z : Nat) (x y q k s p : Int32) : Prop := (∀ d, d ≠ v + 1 → (d < a ∨ a + 5 ≤ d) → i' d = i d) ∧ i' a 4 = nI (z + 2) ∧ i' a 5 = s ∧ i' a 6 = p ∧ i' a 7 = i a 7 ∧ i' a 8 = i a 8 ∧ i' a 9 = i a 9 ∧
  (∀ j, i' (a + 1) j = if j = z + 1 then x else i (a + 1) j) ∧ (∀ j, i' (a + 2) j = if j = z + 1 then y else i (a + 2) j) ∧ (∀ j, i' (a + 3) j = if j = z + 1 then q else i (a + 3) j) ∧ ∀ j, i' (a + 4) j = if j = z + 1 then k else i (a + 4) j
/-- between the tries: the corrector has moved, and the pace -/
def frA (v a : Nat) (i i' : gI) : Prop := (∀ d, d ≠ v + 1 → d ≠ a → i' d = i d) ∧ ∀ j, j ≠ 6 → i' a j = i a j
theorem frA.pace {v a : Nat} {i i' : gI} {x : Int32} (h : frA v a i i') : frA v a i (up2 i' a 6 x) := ⟨fun d h1 h2 => by rw [up2_ne h2]; exact h.1 d h1 h2, fun j hj => by rw [up2_row hj]; exact h.2 j hj⟩
theorem frA.cor {v a : Nat} {i i' i2 : gI} (h : frA v a i i') (hav : a ≠ v + 1) (h2 : ∀ d, d ≠ v + 1 → i2 d = i' d) : frA v a i i2 := ⟨fun d e1 e2 => (h2 d e1).trans (h.1 d e1 e2), fun j hj => by rw [h2 a hav]; exact h.2 j hj⟩
theorem ld2.of {v : Nat} {i i1 i0 i' : gI} {a z : Nat} {x y q k s p : Int32} (hav : a + 5 ≤ v) (h : frA v a i i1) (h0 : ∀ d, d ≠ v + 1 → i0 d = i1 d) (hl : landed i0 i' a z x y q k s p) : ld2 v i i' a z x y q k s p := by
  obtain ⟨g1, g2, g3, g4, g5, g6, g7, g8, g9, g10, g11⟩ := hl
  have e : ∀ d, d ≠ v + 1 → d ≠ a → i0 d = i d := fun d h1 h2 => (h0 d h1).trans (h.1 d h1 h2)
  have ea : ∀ j, j ≠ 6 → i0 a j = i a j := fun j hj => by rw [h0 a (by omega)]; exact h.2 j hj
  exact ⟨fun d h1 h2 => (g1 d h2).trans (e d h1 (by omega)), g2, g3, g4, g5.trans (ea 7 (by decide)), g6.trans (ea 8 (by decide)), g7.trans (ea 9 (by decide)), fun j => by rw [g8 j, e (a + 1) (by omega) (by omega)], fun j => by rw [g9 j, e (a + 2) (by omega) (by omega)], fun j => by rw [g10 j, e (a + 3) (by omega) (by omega)], fun j => by rw [g11 j, e (a + 4) (by omega) (by omega)]⟩
set_option maxRecDepth 100000 in
set_option maxHeartbeats 4000000 in
theorem lp_X2_advance {Γ : gG} {T : gTy} {r : gR} {l : gLg} {i : gI} {Q : gQ} {v b a n m z k0 : Nat} {f : Nat → Int32} {p q : Nat → Nat} (hM : lyMo T r v) (hA : gN Γ ≤ a) (hB : lyC T r b) (hW : lyW T r a) (hba : b + 9 ≤ a) (hab : a + 5 ≤ b + 34) (hbv : b + 36 ≤ v) (hV : tv i (b + 1) n f p q) (hm : i (b + 35) 2 = nI m) (hm2 : m < 2 ^ 30) (h4 : i a 4 = nI (z + 1)) (hz : z + 1 < 40) (h6 : i a 6 = nI k0) (hk0 : k0 < 2 ^ 30)
  (hN : gGoP (gTrA f p q n m (i (a + 1) z) (i (a + 2) z) (i a 5)) k0 k0 = none → ∀ l' i', (∀ d, d ≠ v + 2 → d ≠ v + 3 → l' d = l d) → (∀ d, d ≠ v + 1 → d ≠ a → i' d = i d) → (∀ j, j ≠ 6 → j ≠ 7 → i' a j = i a j) → i' a 6 = 0 → i' a 7 = 1 → Q (some (.int 0)) T r l' i')
  (hS : ∀ k c, gGoP (gTrA f p q n m (i (a + 1) z) (i (a + 2) z) (i a 5)) k0 k0 = some (k, c) → ∀ l' i', (∀ d, d ≠ v + 2 → d ≠ v + 3 → l' d = l d) →
    ld2 v i i' a z c.1.toInt32 c.2.1.toInt32 (nI c.2.2) (gKnd (gWc f p q n (i (a + 1) z) (i (a + 2) z) (i a 5) c) (gSum f p q (i (a + 1) z).toInt64 (i (a + 2) z).toInt64 2 n) (gSum f p q c.1 c.2.1 2 n)) (if gWc f p q n (i (a + 1) z) (i (a + 2) z) (i a 5) c < 0 then -(i a 5) else i a 5) (gPce (nI c.2.2) (nI k) (i (b + 35) 1)) → Q (some (.int 1)) T r l' i') : ∀ e k i1 l1, k ≤ e → k < 2 ^ 30 → frA v a i i1 → (∀ d, d ≠ v + 2 → l1 d = (sp3 l (v + 3) (gSum f p q (i (a + 1) z).toInt64 (i (a + 2) z).toInt64 0 n) (gSum f p q (i (a + 1) z).toInt64 (i (a + 2) z).toInt64 1 n) (gSum f p q (i (a + 1) z).toInt64 (i (a + 2) z).toInt64 2 n)) d) → i1 a 6 = nI k → gGoP (gTrA f p q n m (i (a + 1) z) (i (a + 2) z) (i a 5)) e k = gGoP (gTrA f p q n m (i (a + 1) z) (i (a + 2) z) (i a 5)) k0 k0 → G Γ MX2_advance 0 0 32 [(0, .ref v), (1, .ref b), (2, .ref a), (3, .long (gRoot (gGG f p q n (i (a + 1) z).toInt64 (i (a + 2) z).toInt64)))] [] T r l1 i1 Q := by
  have hM2 := hM
  obtain ⟨v0, v1, v2, v3, v4⟩ := hM
  obtain ⟨b0, b1, b2, b3, b4⟩ := id hB
  have w0 := hW.1
  intro e
  induction e with
  | zero =>
    intro k i1 l1 hk1 hk2 hi hl e6 hg
    have hk0n : k = 0 := by omega
    subst hk0n
    refine G_aload_n (pc := 32) 2 dX2_advance_32 rfl ?_
    refine G_getI (pc := 33) dX2_advance_33 fX2_52 (by assumption) ?_
    refine G_if_le (pc := 36) (tgt := 83) dX2_advance_36 (by decide) (fun h36 => ?_) (fun h36 => ?_)
    · refine G_aload_n (pc := 83) 2 dX2_advance_83 rfl ?_
      refine G_iconst (pc := 84) (v := 1) dX2_advance_84 rfl ?_
      refine G_putI (pc := 85) dX2_advance_85 fX2_74 (by assumption) rfl rfl (by first | assumption | omega) ?_
      refine G_iconst (pc := 88) (v := 0) dX2_advance_88 rfl ?_
      refine G_iret (pc := 89) dX2_advance_89 ⟨_, rfl, rfl⟩ ⟨by decide, by decide⟩ ?_
      refine hN (by rw [← hg]; exact gGoP_0) l1 _ (fun d h1 h2 => (hl d h1).trans (sp3_ne h2)) (fun d h1 h2 => by rw [up2_ne h2]; exact hi.1 d h1 h2) (fun j h1 h2 => by rw [up2_row h2]; exact hi.2 j h1) (by rw [up2_row (by decide)]; exact e6) (up2_self _ _ _ _)
    · exact absurd (by rw [e6]; decide) h36
  | succ e ih =>
    intro k i1 l1 hk1 hk2 hi hl e6 hg
    by_cases hk0n : k = 0
    · subst hk0n
      refine G_aload_n (pc := 32) 2 dX2_advance_32 rfl ?_
      refine G_getI (pc := 33) dX2_advance_33 fX2_52 (by assumption) ?_
      refine G_if_le (pc := 36) (tgt := 83) dX2_advance_36 (by decide) (fun h36 => ?_) (fun h36 => ?_)
      · refine G_aload_n (pc := 83) 2 dX2_advance_83 rfl ?_
        refine G_iconst (pc := 84) (v := 1) dX2_advance_84 rfl ?_
        refine G_putI (pc := 85) dX2_advance_85 fX2_74 (by assumption) rfl rfl (by first | assumption | omega) ?_
        refine G_iconst (pc := 88) (v := 0) dX2_advance_88 rfl ?_
        refine G_iret (pc := 89) dX2_advance_89 ⟨_, rfl, rfl⟩ ⟨by decide, by decide⟩ ?_
        refine hN (by rw [← hg]; exact gGoP_0) l1 _ (fun d h1 h2 => (hl d h1).trans (sp3_ne h2)) (fun d h1 h2 => by rw [up2_ne h2]; exact hi.1 d h1 h2) (fun j h1 h2 => by rw [up2_row h2]; exact hi.2 j h1) (by rw [up2_row (by decide)]; exact e6) (up2_self _ _ _ _)
      · exact absurd (by rw [e6]; decide) h36
    have ei : ∀ d, d ≠ v + 1 → d ≠ a → i1 d = i d := hi.1
    have ea : ∀ j, j ≠ 6 → i1 a j = i a j := hi.2
    have V1 : tv i1 (b + 1) n f p q := by
      obtain ⟨t1, t2, t3⟩ := hV
      exact ⟨t1, by rw [ei (b + 1) (by omega) (by omega)]; exact t2, fun k hk => by rw [ei (b + 1 + 1) (by omega) (by omega), ei (b + 1 + 2) (by omega) (by omega), ei (b + 1 + 3) (by omega) (by omega)]; exact t3 k hk⟩
    have m1 : i1 (b + 35) 2 = nI m := by rw [ei (b + 35) (by omega) (by omega)]; exact hm
    have h41 : i1 a 4 = nI (z + 1) := (ea 4 (by decide)).trans h4
    have ex : i1 (a + 1) = i (a + 1) := ei _ (by omega) (by omega)
    have ey : i1 (a + 2) = i (a + 2) := ei _ (by omega) (by omega)
    have e5 : i1 a 5 = i a 5 := ea 5 (by decide)
    have g1 : l1 (v + 3) 1 = gSum f p q (i (a + 1) z).toInt64 (i (a + 2) z).toInt64 1 n := by rw [hl (v + 3) (by omega), sp3_1]
    have g2 : l1 (v + 3) 2 = gSum f p q (i (a + 1) z).toInt64 (i (a + 2) z).toInt64 2 n := by rw [hl (v + 3) (by omega), sp3_2]
    refine G_aload_n (pc := 32) 2 dX2_advance_32 rfl ?_
    refine G_getI (pc := 33) dX2_advance_33 fX2_52 (by assumption) ?_
    refine G_if_le (pc := 36) (tgt := 83) dX2_advance_36 (by decide) (fun h36 => ?_) (fun h36 => ?_)
    · exact absurd h36 (by rw [e6]; exact nI_nle (by omega) (by omega))
    · refine G_lload_n (pc := 39) 3 dX2_advance_39 rfl ?_
      refine G_lconst (pc := 40) (v := 0) dX2_advance_40 rfl ?_
      refine G_lif_eq (pc := 41) (tgt := 70) dX2_advance_41 dX2_advance_42 (by decide) (fun h41_ => ?_) (fun h41_ => ?_)
      · have htr : gTrA f p q n m (i (a + 1) z) (i (a + 2) z) (i a 5) (nI k) = none := by unfold gTrA; rw [if_pos h41_]
        refine G_aload_n (pc := 70) 2 dX2_advance_70 rfl ?_
        refine G_dup (pc := 71) dX2_advance_71 rfl ?_
        refine G_getI (pc := 72) dX2_advance_72 fX2_52 (by assumption) ?_
        rw [e6]
        refine G_iconst (pc := 75) (v := 2) dX2_advance_75 rfl ?_
        refine G_idiv (pc := 76) dX2_advance_76 (by decide) ?_
        rw [gl2, pk_div (by omega) (by decide) (by decide)]
        refine G_putI (pc := 77) dX2_advance_77 fX2_52 (by assumption) rfl rfl (by first | assumption | omega) ?_
        refine G_goto (pc := 80) (tgt := 32) dX2_advance_80 (by decide) ?_
        exact ih (k / 2) _ _ (by omega) (by omega) hi.pace hl (up2_self _ _ _ _) (by rw [← gGoP_n hk0n htr]; exact hg)
      · refine G_aload_n (pc := 45) 0 dX2_advance_45 rfl ?_
        refine G_aload_n (pc := 46) 1 dX2_advance_46 rfl ?_
        refine G_aload_n (pc := 47) 2 dX2_advance_47 rfl ?_
        refine G_lload_n (pc := 48) 3 dX2_advance_48 rfl ?_
        refine gV3 (pc := 49) (k' := 0) (n' := 0) dX2_advance_49 lkX2_56 ⟨by decide, by decide⟩ (Nat.le_of_ble_eq_true rfl) rfl rfl ⟨by decide, by decide⟩ v0 (c_X2_arrives (f := f) (p := p) (q := q) hM2 (by omega) hB hW (by omega) V1 m1 hm2 h41 (by omega) h41_ ?_ ?_)
        · intro hc l2 i2 hl2 hi2
          rw [ex, ey, e5, e6, g1, g2] at hc
          have htr : gTrA f p q n m (i (a + 1) z) (i (a + 2) z) (i a 5) (nI k) = none := by unfold gTrA; rw [if_neg h41_]; exact hc
          have e6x : i2 a 6 = nI k := by rw [hi2 a (by omega)]; exact e6
          dsimp only [gRt]
          refine G_if_eq (pc := 52) (tgt := 70) dX2_advance_52 (by decide) (fun h52 => ?_) (fun h52 => ?_)
          · refine G_aload_n (pc := 70) 2 dX2_advance_70 rfl ?_
            refine G_dup (pc := 71) dX2_advance_71 rfl ?_
            refine G_getI (pc := 72) dX2_advance_72 fX2_52 (by assumption) ?_
            rw [e6x]
            refine G_iconst (pc := 75) (v := 2) dX2_advance_75 rfl ?_
            refine G_idiv (pc := 76) dX2_advance_76 (by decide) ?_
            rw [gl2, pk_div (by omega) (by decide) (by decide)]
            refine G_putI (pc := 77) dX2_advance_77 fX2_52 (by assumption) rfl rfl (by first | assumption | omega) ?_
            refine G_goto (pc := 80) (tgt := 32) dX2_advance_80 (by decide) ?_
            exact ih (k / 2) _ _ (by omega) (by omega) (hi.cor (by omega) hi2).pace (fun d hd => by rw [hl2 d hd]; exact hl d hd) (up2_self _ _ _ _) (by rw [← gGoP_n hk0n htr]; exact hg)
          · exact absurd rfl h52
        · intro c hc l2 hl2 gg1 gg2
          rw [ex, ey, e5, e6, g1, g2] at hc
          have htr : gTrA f p q n m (i (a + 1) z) (i (a + 2) z) (i a 5) (nI k) = some c := by unfold gTrA; rw [if_neg h41_]; exact hc
          have hgo : gGoP (gTrA f p q n m (i (a + 1) z) (i (a + 2) z) (i a 5)) k0 k0 = some (k, c) := by rw [← hg]; exact gGoP_s hk0n htr
          have ec : ∀ d, d ≠ v + 1 → cr3 i1 (v + 1) c.1.toInt32 c.2.1.toInt32 (nI c.2.2) d = i1 d := fun d hd => by unfold cr3; simp (disch := omega) only [up2_ne]
          have c1 : cr3 i1 (v + 1) c.1.toInt32 c.2.1.toInt32 (nI c.2.2) (v + 1) 1 = c.1.toInt32 := by unfold cr3; simp (disch := omega) only [up2_row, up2_self]
          have c2 : cr3 i1 (v + 1) c.1.toInt32 c.2.1.toInt32 (nI c.2.2) (v + 1) 2 = c.2.1.toInt32 := by unfold cr3; simp (disch := omega) only [up2_row, up2_self]
          have c3 : cr3 i1 (v + 1) c.1.toInt32 c.2.1.toInt32 (nI c.2.2) (v + 1) 3 = nI c.2.2 := by unfold cr3; simp (disch := omega) only [up2_self]
          dsimp only [gRt]
          refine G_if_eq (pc := 52) (tgt := 70) dX2_advance_52 (by decide) (fun h52 => ?_) (fun h52 => ?_)
          · exact absurd h52 (by decide)
          · refine G_aload_n (pc := 55) 0 dX2_advance_55 rfl ?_
            refine G_aload_n (pc := 56) 2 dX2_advance_56 rfl ?_
            refine G_aload_n (pc := 57) 1 dX2_advance_57 rfl ?_
            refine G_getR (pc := 58) dX2_advance_58 fX2_60 (by assumption) (by assumption) ?_
            refine G_iconst (pc := 61) (v := 1) dX2_advance_61 rfl ?_
            refine gV1 (pc := 62) (k' := 0) (n' := 0) dX2_advance_62 lkX2_66 ⟨by decide, by decide⟩ (Nat.le_of_ble_eq_true rfl) rfl rfl ⟨by decide, by decide⟩ hB.2.2.2.2.1 (c_X4_at (j := 1) hB.2.2.2.2 (by decide) ?_)
            dsimp only [gRt]
            rw [ec (b + 34 + 1) (by omega)]
            refine gV2 (pc := 65) (k' := 0) (n' := 0) dX2_advance_65 lkX2_70 ⟨by decide, by decide⟩ (Nat.le_of_ble_eq_true rfl) rfl rfl ⟨by decide, by decide⟩ (by assumption) (c_X2_land hM2 hW hA (by omega) (by rw [ec a (by omega)]; exact h41) hz ?_)
            intro i3 hl3
            dsimp only [gRt]
            refine G_iconst (pc := 68) (v := 1) dX2_advance_68 rfl ?_
            refine G_iret (pc := 69) dX2_advance_69 ⟨_, rfl, rfl⟩ ⟨by decide, by decide⟩ ?_
            refine hS k c hgo l2 i3 (fun d h1 h2 => by rw [hl2 d h1]; exact (hl d h1).trans (sp3_ne h2)) ?_
            rw [c1, c2, c3, ec a (by omega), ec (a + 1) (by omega), ec (a + 2) (by omega), gg1, gg2, ex, ey, e5, e6, hl2 (v + 3) (by omega), g2, ei (b + 34 + 1) (by omega) (by omega)] at hl3
            exact ld2.of (by omega) hi ec hl3
set_option maxRecDepth 100000 in
set_option maxHeartbeats 4000000 in
theorem c_X2_advance {Γ : gG} {T : gTy} {r : gR} {l : gLg} {i : gI} {Q : gQ} {v b a n m z k0 : Nat} {f : Nat → Int32} {p q : Nat → Nat} (hM : lyMo T r v) (hA : gN Γ ≤ a) (hB : lyC T r b) (hW : lyW T r a) (hba : b + 9 ≤ a) (hab : a + 5 ≤ b + 34) (hbv : b + 36 ≤ v) (hV : tv i (b + 1) n f p q) (hm : i (b + 35) 2 = nI m) (hm2 : m < 2 ^ 30) (h4 : i a 4 = nI (z + 1)) (hz : z + 1 < 40) (h6 : i a 6 = nI k0) (hk0 : k0 < 2 ^ 30)
  (hN : gGoP (gTrA f p q n m (i (a + 1) z) (i (a + 2) z) (i a 5)) k0 k0 = none → ∀ l' i', (∀ d, d ≠ v + 2 → d ≠ v + 3 → l' d = l d) → (∀ d, d ≠ v + 1 → d ≠ a → i' d = i d) → (∀ j, j ≠ 6 → j ≠ 7 → i' a j = i a j) → i' a 6 = 0 → i' a 7 = 1 → Q (some (.int 0)) T r l' i')
  (hS : ∀ k c, gGoP (gTrA f p q n m (i (a + 1) z) (i (a + 2) z) (i a 5)) k0 k0 = some (k, c) → ∀ l' i', (∀ d, d ≠ v + 2 → d ≠ v + 3 → l' d = l d) →
    ld2 v i i' a z c.1.toInt32 c.2.1.toInt32 (nI c.2.2) (gKnd (gWc f p q n (i (a + 1) z) (i (a + 2) z) (i a 5) c) (gSum f p q (i (a + 1) z).toInt64 (i (a + 2) z).toInt64 2 n) (gSum f p q c.1 c.2.1 2 n)) (if gWc f p q n (i (a + 1) z) (i (a + 2) z) (i a 5) c < 0 then -(i a 5) else i a 5) (gPce (nI c.2.2) (nI k) (i (b + 35) 1)) → Q (some (.int 1)) T r l' i') : gC Γ MX2_advance [.ref v, .ref b, .ref a] T r l i Q := by
  have hM2 := hM
  obtain ⟨v0, v1, v2, v3, v4⟩ := hM
  obtain ⟨b0, b1, b2, b3, b4⟩ := id hB
  have w0 := hW.1
  refine gC_of rfl (Nat.le_of_ble_eq_true rfl) (L := [(0, .ref v), (1, .ref b), (2, .ref a)]) rfl ?_
  refine G_aload_n (pc := 0) 0 dX2_advance_0 rfl ?_
  refine G_getR (pc := 1) dX2_advance_1 fX2_21 (by assumption) (by assumption) ?_
  refine G_aload_n (pc := 4) 1 dX2_advance_4 rfl ?_
  refine G_getR (pc := 5) dX2_advance_5 fX2_25 (by assumption) (by assumption) ?_
  refine G_aload_n (pc := 8) 2 dX2_advance_8 rfl ?_
  refine gV0 (pc := 9) (k' := 0) (n' := 0) dX2_advance_9 lkX2_31 ⟨by decide, by decide⟩ (Nat.le_of_ble_eq_true rfl) rfl rfl ⟨by decide, by decide⟩ (by assumption) (c_X9_lastX hW h4 (by omega) ?_)
  dsimp only [gRt]
  refine G_i2l (pc := 12) dX2_advance_12 ?_
  refine G_aload_n (pc := 13) 2 dX2_advance_13 rfl ?_
  refine gV0 (pc := 14) (k' := 0) (n' := 0) dX2_advance_14 lkX2_37 ⟨by decide, by decide⟩ (Nat.le_of_ble_eq_true rfl) rfl rfl ⟨by decide, by decide⟩ (by assumption) (c_X9_lastY hW h4 (by omega) ?_)
  dsimp only [gRt]
  refine G_i2l (pc := 17) dX2_advance_17 ?_
  refine gV3 (pc := 18) (k' := 0) (n' := 0) dX2_advance_18 lkX2_40 ⟨by decide, by decide⟩ (Nat.le_of_ble_eq_true rfl) rfl rfl ⟨by decide, by decide⟩ (by assumption) (c_X5_look v4 (by omega) b3 hV ?_)
  dsimp only [gRt]
  refine G_aload_n (pc := 21) 0 dX2_advance_21 rfl ?_
  refine G_getR (pc := 22) dX2_advance_22 fX2_21 (by assumption) (by assumption) ?_
  refine gV0 (pc := 25) (k' := 0) (n' := 0) dX2_advance_25 lkX2_44 ⟨by decide, by decide⟩ (Nat.le_of_ble_eq_true rfl) rfl rfl ⟨by decide, by decide⟩ (by assumption) (c_X5_steepness v4 ?_)
  dsimp only [gRt]
  simp only [sp3_1, sp3_2]
  refine gS1 (pc := 28) (k' := 0) (n' := 0) dX2_advance_28 lkX2_48 ⟨by decide, by decide⟩ (Nat.le_of_ble_eq_true rfl) rfl rfl ⟨by decide, by decide⟩ (c_X11_rootOf ?_)
  dsimp only [gRt]
  refine G_sn3 (pc := 31) (gSt_ln dX2_advance_31 rfl (by decide)) rfl ?_
  exact lp_X2_advance hM2 hA hB hW hba hab hbv hV hm hm2 h4 hz h6 hk0 hN hS k0 k0 i _ (Nat.le_refl _) hk0 ⟨fun _ _ _ => rfl, fun _ _ => rfl⟩ (fun _ _ => rfl) h6 rfl
