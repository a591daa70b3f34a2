/-! Mover -/
def gMin (x y : Int32) : Int32 := if y < x then y else x
def gMax (x y : Int32) : Int32 := if x < y then y else x
def lyMo (T : gTy) (r : gR) (v : Nat) : Prop := (T.2 v).1 = 2 ∧ r v 0 = some (v + 1) ∧ r v 1 = some (v + 3) ∧ lyCo T r (v + 1) ∧ (T.2 (v + 3)).1 = 5
/-- a try from (x, y), with the slope X, Y there, the root R, the reach z: the corrected place, if it is another one -/
def gTry (f : Nat → Int32) (p q : Nat → Nat) (n m : Nat) (x y : Int32) (X Y R z : Int64) : Option (Int64 × Int64 × Nat) :=
  match gCor f p q n m 0 (x.toInt64 + z * (-Y) / R) (y.toInt64 + z * X / R) with
  | none => none
  | some c => if c.1.toInt32 = x ∧ c.2.1.toInt32 = y then none else some c
def gWay (X Y dx dy : Int64) (s : Int32) : Int64 := (X * dy - Y * dx) * s.toInt64
def gKnd (w : Int64) (y0 y1 : Int64) : Int32 := if w < 0 then 2 else if y0 * y1 < 0 then 1 else 0
def gPce (rd pc gl : Int32) : Int32 := if 2 < rd then (if rd < 5 then pc else gMax (pc / 2) 1) else gMin (pc * 2) gl
/-- a walk with one more place: its place z + 1 is (x, y), corrected in q rounds, of kind k; its sign, its pace -/
def landed (i i' : gI) (a z : Nat) (x y q k s p : Int32) : Prop := frR a (a + 5) i i' ∧ i' a 4 = nI (z + 2) ∧ i' a 5 = s ∧ i' a 6 = p ∧ i' a 7 = i a 7 ∧ i' a 8 = i a 8 ∧ i' a 9 = i a 9 ∧
  (∀ j, i' (a + 1) j = if j = z + 1 then x else i (a + 1) j) ∧ (∀ j, i' (a + 2) j = if j = z + 1 then y else i (a + 2) j) ∧ (∀ j, i' (a + 3) j = if j = z + 1 then q else i (a + 3) j) ∧ ∀ j, i' (a + 4) j = if j = z + 1 then k else i (a + 4) j
theorem landed.of {i i0 : gI} {a z : Nat} {x y q k s p : Int32} (h0 : frR a (a + 1) i i0) (h5 : i0 a 5 = s) (h6 : ∀ j, j ≠ 5 → i0 a j = i a j) : landed i (up2 (apW i0 a (z + 1) x y q k) a 6 p) a z x y q k s p := by
  have e : ∀ c, c ≠ a → i0 c = i c := fun c hc => h0 c (by omega)
  refine ⟨fun c hc => ?_, ?_, ?_, up2_self _ _ _ _, ?_, ?_, ?_, fun j => ?_, fun j => ?_, fun j => ?_, fun j => ?_⟩ <;> unfold apW
  · simp (disch := omega) only [up2_ne]; exact e c (by omega)
  · simp (disch := omega) only [up2_ne, up2_row, up2_self]
  · simp (disch := omega) only [up2_ne, up2_row, up2_self]; exact h5
  · simp (disch := omega) only [up2_ne, up2_row, up2_self]; exact h6 7 (by decide)
  · simp (disch := omega) only [up2_ne, up2_row, up2_self]; exact h6 8 (by decide)
  · simp (disch := omega) only [up2_ne, up2_row, up2_self]; exact h6 9 (by decide)
  · simp (disch := omega) only [up2_ne]; rw [up2_at]; simp only [e (a + 1) (by omega)]
  · simp (disch := omega) only [up2_ne]; rw [up2_at]; simp (disch := omega) only [up2_ne]; simp only [e (a + 2) (by omega)]
  · simp (disch := omega) only [up2_ne]; rw [up2_at]; simp (disch := omega) only [up2_ne]; simp only [e (a + 3) (by omega)]
  · simp (disch := omega) only [up2_ne]; rw [up2_at]; simp (disch := omega) only [up2_ne]; simp only [e (a + 4) (by omega)]
theorem landed.of' {i i0 : gI} {a z : Nat} {x y q k s p : Int32} (h0 : frR a (a + 1) i i0) (h5 : i0 a 5 = s) (h6 : ∀ j, j ≠ 5 → i0 a j = i a j) (hp : i a 6 = p) : landed i (apW i0 a (z + 1) x y q k) a z x y q k s p := by
  have h := landed.of (x := x) (y := y) (q := q) (k := k) (p := p) (z := z) h0 h5 h6
  have e : up2 (apW i0 a (z + 1) x y q k) a 6 p = apW i0 a (z + 1) x y q k := by
    funext c j
    by_cases hc : c = a
    · subst hc
      by_cases hj : j = 6
      · subst hj
        rw [up2_self]; unfold apW; simp (disch := omega) only [up2_ne, up2_row]; exact (hp.symm.trans (h6 6 (by decide)).symm)
      · rw [up2_row hj]
    · rw [up2_ne hc]
  rw [e] at h
  exact h
set_option maxRecDepth 100000 in
set_option maxHeartbeats 4000000 in
theorem c_J9_min_7cf53 {Γ : gG} {T : gTy} {r : gR} {l : gLg} {i : gI} {Q : gQ} {x y : Int32} (hQ : Q (some (.int (gMin x y))) T r l i) : gC Γ MJ9_min_7cf53 [.int x, .int y] T r l i Q := by
  refine gC_ofF (by decide +kernel) (Nat.le_of_ble_eq_true rfl) (L := [(0, .int x), (1, .int y)]) rfl ?_
  refine G_iload_n (pc := 0) 0 dJ9_min_7cf53_0 rfl ?_
  refine G_iload_n (pc := 1) 1 dJ9_min_7cf53_1 rfl ?_
  refine G_icmp_gt (pc := 2) (tgt := 9) dJ9_min_7cf53_2 (by decide) (fun h2 => ?_) (fun h2 => ?_)
  · refine G_iload_n (pc := 9) 1 dJ9_min_7cf53_9 rfl ?_
    refine G_iret (pc := 10) dJ9_min_7cf53_10 ⟨_, rfl, rfl⟩ ⟨by decide, by decide⟩ ?_
    simpa [gMin, h2] using hQ
  · refine G_iload_n (pc := 5) 0 dJ9_min_7cf53_5 rfl ?_
    refine G_goto (pc := 6) (tgt := 10) dJ9_min_7cf53_6 (by decide) ?_
    refine G_iret (pc := 10) dJ9_min_7cf53_10 ⟨_, rfl, rfl⟩ ⟨by decide, by decide⟩ ?_
    simpa [gMin, h2] using hQ
set_option maxRecDepth 100000 in
set_option maxHeartbeats 4000000 in
theorem c_J9_max_7cf53 {Γ : gG} {T : gTy} {r : gR} {l : gLg} {i : gI} {Q : gQ} {x y : Int32} (hQ : Q (some (.int (gMax x y))) T r l i) : gC Γ MJ9_max_7cf53 [.int x, .int y] T r l i Q := by
  refine gC_ofF (by decide +kernel) (Nat.le_of_ble_eq_true rfl) (L := [(0, .int x), (1, .int y)]) rfl ?_
  refine G_iload_n (pc := 0) 0 dJ9_max_7cf53_0 rfl ?_
  refine G_iload_n (pc := 1) 1 dJ9_max_7cf53_1 rfl ?_
  refine G_icmp_lt (pc := 2) (tgt := 9) dJ9_max_7cf53_2 (by decide) (fun h2 => ?_) (fun h2 => ?_)
  · refine G_iload_n (pc := 9) 1 dJ9_max_7cf53_9 rfl ?_
    refine G_iret (pc := 10) dJ9_max_7cf53_10 ⟨_, rfl, rfl⟩ ⟨by decide, by decide⟩ ?_
    simpa [gMax, h2] using hQ
  · refine G_iload_n (pc := 5) 0 dJ9_max_7cf53_5 rfl ?_
    refine G_goto (pc := 6) (tgt := 10) dJ9_max_7cf53_6 (by decide) ?_
    refine G_iret (pc := 10) dJ9_max_7cf53_10 ⟨_, rfl, rfl⟩ ⟨by decide, by decide⟩ ?_
    simpa [gMax, h2] using hQ
set_option maxRecDepth 100000 in
set_option maxHeartbeats 4000000 in
theorem c_X2_arrives {Γ : gG} {T : gTy} {r : gR} {l : gLg} {i : gI} {Q : gQ} {v b a n m z : Nat} {R : Int64} {f : Nat → Int32} {p q : Nat → Nat} (hM : lyMo T r v) (hA : gN Γ ≤ v) (hB : lyC T r b) (hW : lyW T r a) (hav : a + 5 ≤ v) (hV : tv i (b + 1) n f p q) (hm : i (b + 35) 2 = nI m) (hm2 : m < 2 ^ 30) (h4 : i a 4 = nI (z + 1)) (hz : z + 1 ≤ 40) (hR : ¬ R = 0)
  (h0 : gTry f p q n m (i (a + 1) z) (i (a + 2) z) (l (v + 3) 1) (l (v + 3) 2) R ((i a 6).toInt64 * (i a 5).toInt64) = none → ∀ l' i', (∀ d, d ≠ v + 2 → l' d = l d) → (∀ d, d ≠ v + 1 → i' d = i d) → Q (some (.int 0)) T r l' i')
  (h1 : ∀ c, gTry f p q n m (i (a + 1) z) (i (a + 2) z) (l (v + 3) 1) (l (v + 3) 2) R ((i a 6).toInt64 * (i a 5).toInt64) = some c → ∀ l', (∀ d, d ≠ v + 2 → l' d = l d) → l' (v + 2) 1 = gSum f p q c.1 c.2.1 1 n → l' (v + 2) 2 = gSum f p q c.1 c.2.1 2 n → Q (some (.int 1)) T r l' (cr3 i (v + 1) c.1.toInt32 c.2.1.toInt32 (nI c.2.2))) : gC Γ MX2_arrives [.ref v, .ref b, .ref a, .long R] T r l i Q := by
  obtain ⟨v0, v1, v2, v3, v4⟩ := hM
  have w0 := hW.1
  have b0 := hB.1
  have v3a := v3.1
  refine gC_of rfl (Nat.le_of_ble_eq_true rfl) (L := [(0, .ref v), (1, .ref b), (2, .ref a), (3, .long R)]) rfl ?_
  refine G_lload_n (pc := 0) 3 dX2_arrives_0 rfl ?_
  refine G_lconst (pc := 1) (v := 0) dX2_arrives_1 rfl ?_
  refine G_lif_ne (pc := 2) (tgt := 8) dX2_arrives_2 dX2_arrives_3 (by decide) (fun h2 => ?_) (fun h2 => ?_)
  · refine G_aload_n (pc := 8) 2 dX2_arrives_8 rfl ?_
    refine G_getI (pc := 9) dX2_arrives_9 fX2_52 (by assumption) ?_
    refine G_i2l (pc := 12) dX2_arrives_12 ?_
    refine G_aload_n (pc := 13) 2 dX2_arrives_13 rfl ?_
    refine G_getI (pc := 14) dX2_arrives_14 fX2_78 (by assumption) ?_
    refine G_i2l (pc := 17) dX2_arrives_17 ?_
    refine G_lmul (pc := 18) dX2_arrives_18 ?_
    refine G_sn4 (pc := 19) (gSt_l dX2_arrives_19 (by decide)) rfl ?_
    refine G_aload_n (pc := 21) 2 dX2_arrives_21 rfl ?_
    refine gV0 (pc := 22) (k' := 0) (n' := 0) dX2_arrives_22 lkX2_31 ⟨by decide, by decide⟩ (Nat.le_of_ble_eq_true rfl) rfl rfl ⟨by decide, by decide⟩ (by assumption) (c_X9_lastX hW h4 hz ?_)
    dsimp only [gRt]
    refine G_i2l (pc := 25) dX2_arrives_25 ?_
    refine G_lload (pc := 26) 4 dX2_arrives_26 rfl ?_
    refine G_aload_n (pc := 28) 0 dX2_arrives_28 rfl ?_
    refine G_getR (pc := 29) dX2_arrives_29 fX2_21 (by assumption) (by assumption) ?_
    refine G_getL (pc := 32) dX2_arrives_32 fX2_81 (by assumption) ?_
    refine G_lneg (pc := 35) dX2_arrives_35 ?_
    refine G_lmul (pc := 36) dX2_arrives_36 ?_
    refine G_lload_n (pc := 37) 3 dX2_arrives_37 rfl ?_
    refine G_ldiv (pc := 38) dX2_arrives_38 hR ?_
    refine G_ladd (pc := 39) dX2_arrives_39 ?_
    refine G_sn5 (pc := 40) (gSt_l dX2_arrives_40 (by decide)) rfl ?_
    refine G_aload_n (pc := 42) 2 dX2_arrives_42 rfl ?_
    refine gV0 (pc := 43) (k' := 0) (n' := 0) dX2_arrives_43 lkX2_37 ⟨by decide, by decide⟩ (Nat.le_of_ble_eq_true rfl) rfl rfl ⟨by decide, by decide⟩ (by assumption) (c_X9_lastY hW h4 hz ?_)
    dsimp only [gRt]
    refine G_i2l (pc := 46) dX2_arrives_46 ?_
    refine G_lload (pc := 47) 4 dX2_arrives_47 rfl ?_
    refine G_aload_n (pc := 49) 0 dX2_arrives_49 rfl ?_
    refine G_getR (pc := 50) dX2_arrives_50 fX2_21 (by assumption) (by assumption) ?_
    refine G_getL (pc := 53) dX2_arrives_53 fX2_85 (by assumption) ?_
    refine G_lmul (pc := 56) dX2_arrives_56 ?_
    refine G_lload_n (pc := 57) 3 dX2_arrives_57 rfl ?_
    refine G_ldiv (pc := 58) dX2_arrives_58 hR ?_
    refine G_ladd (pc := 59) dX2_arrives_59 ?_
    refine G_sn6 (pc := 60) (gSt_l dX2_arrives_60 (by decide)) rfl ?_
    refine G_aload_n (pc := 62) 0 dX2_arrives_62 rfl ?_
    refine G_getR (pc := 63) dX2_arrives_63 fX2_12 (by assumption) (by assumption) ?_
    refine G_aload_n (pc := 66) 1 dX2_arrives_66 rfl ?_
    refine G_lload (pc := 67) 5 dX2_arrives_67 rfl ?_
    refine G_lload (pc := 69) 6 dX2_arrives_69 rfl ?_
    refine gV3 (pc := 71) (k' := 0) (n' := 0) dX2_arrives_71 lkX2_88 ⟨by decide, by decide⟩ (Nat.le_of_ble_eq_true rfl) rfl rfl ⟨by decide, by decide⟩ v3.1 (c_X0_correct hB v3 (by omega) hV hm hm2 ?_ ?_)
    · intro hc l1 hl
      dsimp only [gRt]
      refine G_if_eq (pc := 74) (tgt := 109) dX2_arrives_74 (by decide) (fun h74 => ?_) (fun h74 => ?_)
      · refine G_iconst (pc := 109) (v := 0) dX2_arrives_109 rfl ?_
        refine G_iret (pc := 110) dX2_arrives_110 ⟨_, rfl, rfl⟩ ⟨by decide, by decide⟩ ?_
        exact h0 (by unfold gTry; rw [hc]) l1 i (fun d hd => hl d (by omega)) (fun _ _ => rfl)
      · exact absurd rfl h74
    · intro X Y rd hc l1 hl g1 g2
      have ee : ∀ d, d ≠ v + 1 → cr3 i (v + 1) X.toInt32 Y.toInt32 (nI rd) d = i d := fun d hd => by unfold cr3; simp (disch := omega) only [up2_ne]
      have ex : cr3 i (v + 1) X.toInt32 Y.toInt32 (nI rd) (v + 1) 1 = X.toInt32 := by unfold cr3; simp (disch := omega) only [up2_row, up2_self]
      have ey : cr3 i (v + 1) X.toInt32 Y.toInt32 (nI rd) (v + 1) 2 = Y.toInt32 := by unfold cr3; simp (disch := omega) only [up2_row, up2_self]
      dsimp only [gRt]
      refine G_if_eq (pc := 74) (tgt := 109) dX2_arrives_74 (by decide) (fun h74 => ?_) (fun h74 => ?_)
      · exact absurd h74 (by decide)
      · refine G_aload_n (pc := 77) 0 dX2_arrives_77 rfl ?_
        refine G_getR (pc := 78) dX2_arrives_78 fX2_12 (by assumption) (by assumption) ?_
        refine G_getI (pc := 81) dX2_arrives_81 fX2_92 (by assumption) ?_
        refine G_aload_n (pc := 84) 2 dX2_arrives_84 rfl ?_
        refine gV0 (pc := 85) (k' := 0) (n' := 0) dX2_arrives_85 lkX2_31 ⟨by decide, by decide⟩ (Nat.le_of_ble_eq_true rfl) rfl rfl ⟨by decide, by decide⟩ (by assumption) (c_X9_lastX hW (by rw [ee a (by omega)]; exact h4) hz ?_)
        dsimp only [gRt]
        rw [ee (a + 1) (by omega)]
        refine G_icmp_ne (pc := 88) (tgt := 105) dX2_arrives_88 (by decide) (fun h88 => ?_) (fun h88 => ?_)
        · refine G_iconst (pc := 105) (v := 1) dX2_arrives_105 rfl ?_
          refine G_goto (pc := 106) (tgt := 110) dX2_arrives_106 (by decide) ?_
          refine G_iret (pc := 110) dX2_arrives_110 ⟨_, rfl, rfl⟩ ⟨by decide, by decide⟩ ?_
          exact h1 (X, Y, rd) (by unfold gTry; rw [hc]; exact if_neg (fun z9 => h88 (by rw [ex]; exact z9.1))) l1 (fun d hd => hl d (by omega)) g1 g2
        · refine G_aload_n (pc := 91) 0 dX2_arrives_91 rfl ?_
          refine G_getR (pc := 92) dX2_arrives_92 fX2_12 (by assumption) (by assumption) ?_
          refine G_getI (pc := 95) dX2_arrives_95 fX2_95 (by assumption) ?_
          refine G_aload_n (pc := 98) 2 dX2_arrives_98 rfl ?_
          refine gV0 (pc := 99) (k' := 0) (n' := 0) dX2_arrives_99 lkX2_37 ⟨by decide, by decide⟩ (Nat.le_of_ble_eq_true rfl) rfl rfl ⟨by decide, by decide⟩ (by assumption) (c_X9_lastY hW (by rw [ee a (by omega)]; exact h4) hz ?_)
          dsimp only [gRt]
          rw [ee (a + 2) (by omega)]
          refine G_icmp_eq (pc := 102) (tgt := 109) dX2_arrives_102 (by decide) (fun h102 => ?_) (fun h102 => ?_)
          · refine G_iconst (pc := 109) (v := 0) dX2_arrives_109 rfl ?_
            refine G_iret (pc := 110) dX2_arrives_110 ⟨_, rfl, rfl⟩ ⟨by decide, by decide⟩ ?_
            refine h0 ?_ l1 _ (fun d hd => hl d (by omega)) ee
            unfold gTry; rw [hc]; exact if_pos ⟨ex ▸ h88, ey ▸ h102⟩
          · refine G_iconst (pc := 105) (v := 1) dX2_arrives_105 rfl ?_
            refine G_goto (pc := 106) (tgt := 110) dX2_arrives_106 (by decide) ?_
            refine G_iret (pc := 110) dX2_arrives_110 ⟨_, rfl, rfl⟩ ⟨by decide, by decide⟩ ?_
            exact h1 (X, Y, rd) (by unfold gTry; rw [hc]; exact if_neg (fun z9 => h102 (by rw [ey]; exact z9.2))) l1 (fun d hd => hl d (by omega)) g1 g2
  · exact absurd h2 hR
set_option maxRecDepth 100000 in
set_option maxHeartbeats 4000000 in
theorem c_X2_land {Γ : gG} {T : gTy} {r : gR} {l : gLg} {i : gI} {Q : gQ} {v a z : Nat} {gl : Int32} (hM : lyMo T r v) (hW : lyW T r a) (hA : gN Γ ≤ a) (hav : a + 5 ≤ v) (h4 : i a 4 = nI (z + 1)) (hz : z + 1 < 40)
  (hQ : ∀ i', landed i i' a z (i (v + 1) 1) (i (v + 1) 2) (i (v + 1) 3) (gKnd (gWay (l (v + 2) 1) (l (v + 2) 2) (i (v + 1) 1 - i (a + 1) z).toInt64 (i (v + 1) 2 - i (a + 2) z).toInt64 (i a 5)) (l (v + 3) 2) (l (v + 2) 2)) (if gWay (l (v + 2) 1) (l (v + 2) 2) (i (v + 1) 1 - i (a + 1) z).toInt64 (i (v + 1) 2 - i (a + 2) z).toInt64 (i a 5) < 0 then -(i a 5) else i a 5) (gPce (i (v + 1) 3) (i a 6) gl) → Q none T r l i') : gC Γ MX2_land [.ref v, .ref a, .int gl] T r l i Q := by
  obtain ⟨v0, v1, v2, v3, v4⟩ := hM
  have v3a := v3.1
  have v3b := v3.2.1
  have v3c := v3.2.2
  have w0 := hW.1
  refine gC_of rfl (Nat.le_of_ble_eq_true rfl) (L := [(0, .ref v), (1, .ref a), (2, .int gl)]) rfl ?_
  refine G_aload_n (pc := 0) 0 dX2_land_0 rfl ?_
  refine G_getR (pc := 1) dX2_land_1 fX2_12 (by assumption) (by assumption) ?_
  refine G_getR (pc := 4) dX2_land_4 fX2_98 (by assumption) (by assumption) ?_
  refine G_sn3 (pc := 7) (gSt_an dX2_land_7 rfl (by decide)) rfl ?_
  refine G_aload_n (pc := 8) 0 dX2_land_8 rfl ?_
  refine G_getR (pc := 9) dX2_land_9 fX2_12 (by assumption) (by assumption) ?_
  refine G_getI (pc := 12) dX2_land_12 fX2_92 (by assumption) ?_
  refine G_aload_n (pc := 15) 1 dX2_land_15 rfl ?_
  refine gV0 (pc := 16) (k' := 0) (n' := 0) dX2_land_16 lkX2_31 ⟨by decide, by decide⟩ (Nat.le_of_ble_eq_true rfl) rfl rfl ⟨by decide, by decide⟩ (by assumption) (c_X9_lastX hW h4 (by omega) ?_)
  dsimp only [gRt]
  refine G_isub (pc := 19) dX2_land_19 ?_
  refine G_i2l (pc := 20) dX2_land_20 ?_
  refine G_sn4 (pc := 21) (gSt_l dX2_land_21 (by decide)) rfl ?_
  refine G_aload_n (pc := 23) 0 dX2_land_23 rfl ?_
  refine G_getR (pc := 24) dX2_land_24 fX2_12 (by assumption) (by assumption) ?_
  refine G_getI (pc := 27) dX2_land_27 fX2_95 (by assumption) ?_
  refine G_aload_n (pc := 30) 1 dX2_land_30 rfl ?_
  refine gV0 (pc := 31) (k' := 0) (n' := 0) dX2_land_31 lkX2_37 ⟨by decide, by decide⟩ (Nat.le_of_ble_eq_true rfl) rfl rfl ⟨by decide, by decide⟩ (by assumption) (c_X9_lastY hW h4 (by omega) ?_)
  dsimp only [gRt]
  refine G_isub (pc := 34) dX2_land_34 ?_
  refine G_i2l (pc := 35) dX2_land_35 ?_
  refine G_sn5 (pc := 36) (gSt_l dX2_land_36 (by decide)) rfl ?_
  refine G_iconst (pc := 38) (v := 0) dX2_land_38 rfl ?_
  refine G_sn6 (pc := 39) (gSt_i dX2_land_39 (by decide)) rfl ?_
  refine G_aload_n (pc := 41) 3 dX2_land_41 rfl ?_
  refine G_getL (pc := 42) dX2_land_42 fX2_85 (by assumption) ?_
  refine G_lload (pc := 45) 5 dX2_land_45 rfl ?_
  refine G_lmul (pc := 47) dX2_land_47 ?_
  refine G_aload_n (pc := 48) 3 dX2_land_48 rfl ?_
  refine G_getL (pc := 49) dX2_land_49 fX2_81 (by assumption) ?_
  refine G_lload (pc := 52) 4 dX2_land_52 rfl ?_
  refine G_lmul (pc := 54) dX2_land_54 ?_
  refine G_lsub (pc := 55) dX2_land_55 ?_
  refine G_aload_n (pc := 56) 1 dX2_land_56 rfl ?_
  refine G_getI (pc := 57) dX2_land_57 fX2_78 (by assumption) ?_
  refine G_i2l (pc := 60) dX2_land_60 ?_
  refine G_lmul (pc := 61) dX2_land_61 ?_
  refine G_lconst (pc := 62) (v := 0) dX2_land_62 rfl ?_
  refine G_lif_ge (pc := 63) (tgt := 82) dX2_land_63 dX2_land_64 (by decide) (fun h63 => ?_) (fun h63 => ?_)
  · refine G_aload_n (pc := 82) 0 dX2_land_82 rfl ?_
    refine G_getR (pc := 83) dX2_land_83 fX2_21 (by assumption) (by assumption) ?_
    refine G_getL (pc := 86) dX2_land_86 fX2_81 (by assumption) ?_
    refine G_aload_n (pc := 89) 3 dX2_land_89 rfl ?_
    refine G_getL (pc := 90) dX2_land_90 fX2_81 (by assumption) ?_
    refine G_lmul (pc := 93) dX2_land_93 ?_
    refine G_lconst (pc := 94) (v := 0) dX2_land_94 rfl ?_
    refine G_lif_ge (pc := 95) (tgt := 102) dX2_land_95 dX2_land_96 (by decide) (fun h95 => ?_) (fun h95 => ?_)
    · refine G_aload_n (pc := 102) 1 dX2_land_102 rfl ?_
      refine G_aload_n (pc := 103) 0 dX2_land_103 rfl ?_
      refine G_getR (pc := 104) dX2_land_104 fX2_12 (by assumption) (by assumption) ?_
      refine G_iload (pc := 107) 6 dX2_land_107 rfl ?_
      have er : ∀ x y q k, apW i a (z + 1) x y q k (v + 1) = i (v + 1) := fun x y q k => by unfold apW; simp (disch := omega) only [up2_ne]
      have e6 : ∀ x y q k, apW i a (z + 1) x y q k a 6 = i a 6 := fun x y q k => by unfold apW; simp (disch := omega) only [up2_ne, up2_row]
      refine gV2 (pc := 109) (k' := 0) (n' := 0) dX2_land_109 lkX2_101 ⟨by decide, by decide⟩ (Nat.le_of_ble_eq_true rfl) rfl rfl ⟨by decide, by decide⟩ hW.1 (c_X9_addPlace hW hA v3.1 (by omega) (by exact h4) hz ?_)
      dsimp only [gRt]
      refine G_aload_n (pc := 112) 0 dX2_land_112 rfl ?_
      refine G_getR (pc := 113) dX2_land_113 fX2_12 (by assumption) (by assumption) ?_
      refine G_getI (pc := 116) dX2_land_116 fX2_105 (by assumption) ?_
      rw [er]
      refine G_iconst (pc := 119) (v := 2) dX2_land_119 rfl ?_
      refine G_icmp_gt (pc := 120) (tgt := 140) dX2_land_120 (by decide) (fun h120 => ?_) (fun h120 => ?_)
      · refine G_aload_n (pc := 140) 0 dX2_land_140 rfl ?_
        refine G_getR (pc := 141) dX2_land_141 fX2_12 (by assumption) (by assumption) ?_
        refine G_getI (pc := 144) dX2_land_144 fX2_105 (by assumption) ?_
        rw [er]
        refine G_iconst (pc := 147) (v := 5) dX2_land_147 rfl ?_
        refine G_icmp_lt (pc := 148) (tgt := 165) dX2_land_148 (by decide) (fun h148 => ?_) (fun h148 => ?_)
        · refine G_vret (pc := 165) dX2_land_165 rfl ⟨by decide, by decide⟩ ?_
          have hw : ¬ (gWay (l (v + 2) 1) (l (v + 2) 2) (i (v + 1) 1 - i (a + 1) z).toInt64 (i (v + 1) 2 - i (a + 2) z).toInt64 (i a 5) < 0) := Int64.not_lt.mpr h63
          have es : (if gWay (l (v + 2) 1) (l (v + 2) 2) (i (v + 1) 1 - i (a + 1) z).toInt64 (i (v + 1) 2 - i (a + 2) z).toInt64 (i a 5) < 0 then -(i a 5) else i a 5) = i a 5 := if_neg hw
          have ek : gKnd (gWay (l (v + 2) 1) (l (v + 2) 2) (i (v + 1) 1 - i (a + 1) z).toInt64 (i (v + 1) 2 - i (a + 2) z).toInt64 (i a 5)) (l (v + 3) 2) (l (v + 2) 2) = 0 := by unfold gKnd; rw [if_neg hw, if_neg (Int64.not_lt.mpr h95)]
          have ep : gPce (i (v + 1) 3) (i a 6) gl = i a 6 := by unfold gPce; rw [if_pos h120, if_pos h148]
          rw [ek, es, ep] at hQ
          exact hQ _ (landed.of' (i0 := i) frR.rf rfl (fun _ _ => rfl) rfl)
        · refine G_aload_n (pc := 151) 1 dX2_land_151 rfl ?_
          refine G_aload_n (pc := 152) 1 dX2_land_152 rfl ?_
          refine G_getI (pc := 153) dX2_land_153 fX2_52 (by assumption) ?_
          rw [e6]
          refine G_iconst (pc := 156) (v := 2) dX2_land_156 rfl ?_
          refine G_idiv (pc := 157) dX2_land_157 (by decide) ?_
          refine G_iconst (pc := 158) (v := 1) dX2_land_158 rfl ?_
          refine gS2 (pc := 159) (k' := 0) (n' := 0) dX2_land_159 lkX2_114 ⟨by decide, by decide⟩ (Nat.le_of_ble_eq_true rfl) rfl rfl ⟨by decide, by decide⟩ (c_J9_max_7cf53 ?_)
          dsimp only [gRt]
          refine G_putI (pc := 162) dX2_land_162 fX2_52 (by assumption) rfl rfl (by first | assumption | omega) ?_
          refine G_vret (pc := 165) dX2_land_165 rfl ⟨by decide, by decide⟩ ?_
          have hw : ¬ (gWay (l (v + 2) 1) (l (v + 2) 2) (i (v + 1) 1 - i (a + 1) z).toInt64 (i (v + 1) 2 - i (a + 2) z).toInt64 (i a 5) < 0) := Int64.not_lt.mpr h63
          have es : (if gWay (l (v + 2) 1) (l (v + 2) 2) (i (v + 1) 1 - i (a + 1) z).toInt64 (i (v + 1) 2 - i (a + 2) z).toInt64 (i a 5) < 0 then -(i a 5) else i a 5) = i a 5 := if_neg hw
          have ek : gKnd (gWay (l (v + 2) 1) (l (v + 2) 2) (i (v + 1) 1 - i (a + 1) z).toInt64 (i (v + 1) 2 - i (a + 2) z).toInt64 (i a 5)) (l (v + 3) 2) (l (v + 2) 2) = 0 := by unfold gKnd; rw [if_neg hw, if_neg (Int64.not_lt.mpr h95)]
          have ep : gPce (i (v + 1) 3) (i a 6) gl = gMax (i a 6 / 2) 1 := by unfold gPce; rw [if_pos h120, if_neg h148]
          rw [ek, es, ep] at hQ
          exact hQ _ (landed.of (i0 := i) frR.rf rfl (fun _ _ => rfl))
      · refine G_aload_n (pc := 123) 1 dX2_land_123 rfl ?_
        refine G_aload_n (pc := 124) 1 dX2_land_124 rfl ?_
        refine G_getI (pc := 125) dX2_land_125 fX2_52 (by assumption) ?_
        rw [e6]
        refine G_iconst (pc := 128) (v := 2) dX2_land_128 rfl ?_
        refine G_imul (pc := 129) dX2_land_129 ?_
        refine G_iload_n (pc := 130) 2 dX2_land_130 rfl ?_
        refine gS2 (pc := 131) (k' := 0) (n' := 0) dX2_land_131 lkX2_108 ⟨by decide, by decide⟩ (Nat.le_of_ble_eq_true rfl) rfl rfl ⟨by decide, by decide⟩ (c_J9_min_7cf53 ?_)
        dsimp only [gRt]
        refine G_putI (pc := 134) dX2_land_134 fX2_52 (by assumption) rfl rfl (by first | assumption | omega) ?_
        refine G_goto (pc := 137) (tgt := 165) dX2_land_137 (by decide) ?_
        refine G_vret (pc := 165) dX2_land_165 rfl ⟨by decide, by decide⟩ ?_
        have hw : ¬ (gWay (l (v + 2) 1) (l (v + 2) 2) (i (v + 1) 1 - i (a + 1) z).toInt64 (i (v + 1) 2 - i (a + 2) z).toInt64 (i a 5) < 0) := Int64.not_lt.mpr h63
        have es : (if gWay (l (v + 2) 1) (l (v + 2) 2) (i (v + 1) 1 - i (a + 1) z).toInt64 (i (v + 1) 2 - i (a + 2) z).toInt64 (i a 5) < 0 then -(i a 5) else i a 5) = i a 5 := if_neg hw
        have ek : gKnd (gWay (l (v + 2) 1) (l (v + 2) 2) (i (v + 1) 1 - i (a + 1) z).toInt64 (i (v + 1) 2 - i (a + 2) z).toInt64 (i a 5)) (l (v + 3) 2) (l (v + 2) 2) = 0 := by unfold gKnd; rw [if_neg hw, if_neg (Int64.not_lt.mpr h95)]
        have ep : gPce (i (v + 1) 3) (i a 6) gl = gMin (i a 6 * 2) gl := if_neg h120
        rw [ek, es, ep] at hQ
        exact hQ _ (landed.of (i0 := i) frR.rf rfl (fun _ _ => rfl))
    · refine G_iconst (pc := 99) (v := 1) dX2_land_99 rfl ?_
      refine G_st6 (pc := 100) (gSt_i dX2_land_100 (by decide)) rfl ?_
      refine G_aload_n (pc := 102) 1 dX2_land_102 rfl ?_
      refine G_aload_n (pc := 103) 0 dX2_land_103 rfl ?_
      refine G_getR (pc := 104) dX2_land_104 fX2_12 (by assumption) (by assumption) ?_
      refine G_iload (pc := 107) 6 dX2_land_107 rfl ?_
      have er : ∀ x y q k, apW i a (z + 1) x y q k (v + 1) = i (v + 1) := fun x y q k => by unfold apW; simp (disch := omega) only [up2_ne]
      have e6 : ∀ x y q k, apW i a (z + 1) x y q k a 6 = i a 6 := fun x y q k => by unfold apW; simp (disch := omega) only [up2_ne, up2_row]
      refine gV2 (pc := 109) (k' := 0) (n' := 0) dX2_land_109 lkX2_101 ⟨by decide, by decide⟩ (Nat.le_of_ble_eq_true rfl) rfl rfl ⟨by decide, by decide⟩ hW.1 (c_X9_addPlace hW hA v3.1 (by omega) (by exact h4) hz ?_)
      dsimp only [gRt]
      refine G_aload_n (pc := 112) 0 dX2_land_112 rfl ?_
      refine G_getR (pc := 113) dX2_land_113 fX2_12 (by assumption) (by assumption) ?_
      refine G_getI (pc := 116) dX2_land_116 fX2_105 (by assumption) ?_
      rw [er]
      refine G_iconst (pc := 119) (v := 2) dX2_land_119 rfl ?_
      refine G_icmp_gt (pc := 120) (tgt := 140) dX2_land_120 (by decide) (fun h120 => ?_) (fun h120 => ?_)
      · refine G_aload_n (pc := 140) 0 dX2_land_140 rfl ?_
        refine G_getR (pc := 141) dX2_land_141 fX2_12 (by assumption) (by assumption) ?_
        refine G_getI (pc := 144) dX2_land_144 fX2_105 (by assumption) ?_
        rw [er]
        refine G_iconst (pc := 147) (v := 5) dX2_land_147 rfl ?_
        refine G_icmp_lt (pc := 148) (tgt := 165) dX2_land_148 (by decide) (fun h148 => ?_) (fun h148 => ?_)
        · refine G_vret (pc := 165) dX2_land_165 rfl ⟨by decide, by decide⟩ ?_
          have hw : ¬ (gWay (l (v + 2) 1) (l (v + 2) 2) (i (v + 1) 1 - i (a + 1) z).toInt64 (i (v + 1) 2 - i (a + 2) z).toInt64 (i a 5) < 0) := Int64.not_lt.mpr h63
          have es : (if gWay (l (v + 2) 1) (l (v + 2) 2) (i (v + 1) 1 - i (a + 1) z).toInt64 (i (v + 1) 2 - i (a + 2) z).toInt64 (i a 5) < 0 then -(i a 5) else i a 5) = i a 5 := if_neg hw
          have ek : gKnd (gWay (l (v + 2) 1) (l (v + 2) 2) (i (v + 1) 1 - i (a + 1) z).toInt64 (i (v + 1) 2 - i (a + 2) z).toInt64 (i a 5)) (l (v + 3) 2) (l (v + 2) 2) = 1 := by unfold gKnd; rw [if_neg hw, if_pos (Int64.not_le.mp h95)]
          have ep : gPce (i (v + 1) 3) (i a 6) gl = i a 6 := by unfold gPce; rw [if_pos h120, if_pos h148]
          rw [ek, es, ep] at hQ
          exact hQ _ (landed.of' (i0 := i) frR.rf rfl (fun _ _ => rfl) rfl)
        · refine G_aload_n (pc := 151) 1 dX2_land_151 rfl ?_
          refine G_aload_n (pc := 152) 1 dX2_land_152 rfl ?_
          refine G_getI (pc := 153) dX2_land_153 fX2_52 (by assumption) ?_
          rw [e6]
          refine G_iconst (pc := 156) (v := 2) dX2_land_156 rfl ?_
          refine G_idiv (pc := 157) dX2_land_157 (by decide) ?_
          refine G_iconst (pc := 158) (v := 1) dX2_land_158 rfl ?_
          refine gS2 (pc := 159) (k' := 0) (n' := 0) dX2_land_159 lkX2_114 ⟨by decide, by decide⟩ (Nat.le_of_ble_eq_true rfl) rfl rfl ⟨by decide, by decide⟩ (c_J9_max_7cf53 ?_)
          dsimp only [gRt]
          refine G_putI (pc := 162) dX2_land_162 fX2_52 (by assumption) rfl rfl (by first | assumption | omega) ?_
          refine G_vret (pc := 165) dX2_land_165 rfl ⟨by decide, by decide⟩ ?_
          have hw : ¬ (gWay (l (v + 2) 1) (l (v + 2) 2) (i (v + 1) 1 - i (a + 1) z).toInt64 (i (v + 1) 2 - i (a + 2) z).toInt64 (i a 5) < 0) := Int64.not_lt.mpr h63
          have es : (if gWay (l (v + 2) 1) (l (v + 2) 2) (i (v + 1) 1 - i (a + 1) z).toInt64 (i (v + 1) 2 - i (a + 2) z).toInt64 (i a 5) < 0 then -(i a 5) else i a 5) = i a 5 := if_neg hw
          have ek : gKnd (gWay (l (v + 2) 1) (l (v + 2) 2) (i (v + 1) 1 - i (a + 1) z).toInt64 (i (v + 1) 2 - i (a + 2) z).toInt64 (i a 5)) (l (v + 3) 2) (l (v + 2) 2) = 1 := by unfold gKnd; rw [if_neg hw, if_pos (Int64.not_le.mp h95)]
          have ep : gPce (i (v + 1) 3) (i a 6) gl = gMax (i a 6 / 2) 1 := by unfold gPce; rw [if_pos h120, if_neg h148]
          rw [ek, es, ep] at hQ
          exact hQ _ (landed.of (i0 := i) frR.rf rfl (fun _ _ => rfl))
      · refine G_aload_n (pc := 123) 1 dX2_land_123 rfl ?_
        refine G_aload_n (pc := 124) 1 dX2_land_124 rfl ?_
        refine G_getI (pc := 125) dX2_land_125 fX2_52 (by assumption) ?_
        rw [e6]
        refine G_iconst (pc := 128) (v := 2) dX2_land_128 rfl ?_
        refine G_imul (pc := 129) dX2_land_129 ?_
        refine G_iload_n (pc := 130) 2 dX2_land_130 rfl ?_
        refine gS2 (pc := 131) (k' := 0) (n' := 0) dX2_land_131 lkX2_108 ⟨by decide, by decide⟩ (Nat.le_of_ble_eq_true rfl) rfl rfl ⟨by decide, by decide⟩ (c_J9_min_7cf53 ?_)
        dsimp only [gRt]
        refine G_putI (pc := 134) dX2_land_134 fX2_52 (by assumption) rfl rfl (by first | assumption | omega) ?_
        refine G_goto (pc := 137) (tgt := 165) dX2_land_137 (by decide) ?_
        refine G_vret (pc := 165) dX2_land_165 rfl ⟨by decide, by decide⟩ ?_
        have hw : ¬ (gWay (l (v + 2) 1) (l (v + 2) 2) (i (v + 1) 1 - i (a + 1) z).toInt64 (i (v + 1) 2 - i (a + 2) z).toInt64 (i a 5) < 0) := Int64.not_lt.mpr h63
        have es : (if gWay (l (v + 2) 1) (l (v + 2) 2) (i (v + 1) 1 - i (a + 1) z).toInt64 (i (v + 1) 2 - i (a + 2) z).toInt64 (i a 5) < 0 then -(i a 5) else i a 5) = i a 5 := if_neg hw
        have ek : gKnd (gWay (l (v + 2) 1) (l (v + 2) 2) (i (v + 1) 1 - i (a + 1) z).toInt64 (i (v + 1) 2 - i (a + 2) z).toInt64 (i a 5)) (l (v + 3) 2) (l (v + 2) 2) = 1 := by unfold gKnd; rw [if_neg hw, if_pos (Int64.not_le.mp h95)]
        have ep : gPce (i (v + 1) 3) (i a 6) gl = gMin (i a 6 * 2) gl := if_neg h120
        rw [ek, es, ep] at hQ
        exact hQ _ (landed.of (i0 := i) frR.rf rfl (fun _ _ => rfl))
  · refine G_aload_n (pc := 67) 1 dX2_land_67 rfl ?_
    refine G_aload_n (pc := 68) 1 dX2_land_68 rfl ?_
    refine G_getI (pc := 69) dX2_land_69 fX2_78 (by assumption) ?_
    refine G_ineg (pc := 72) dX2_land_72 ?_
    refine G_putI (pc := 73) dX2_land_73 fX2_78 (by assumption) rfl rfl (by first | assumption | omega) ?_
    refine G_iconst (pc := 76) (v := 2) dX2_land_76 rfl ?_
    refine G_st6 (pc := 77) (gSt_i dX2_land_77 (by decide)) rfl ?_
    refine G_goto (pc := 79) (tgt := 102) dX2_land_79 (by decide) ?_
    refine G_aload_n (pc := 102) 1 dX2_land_102 rfl ?_
    refine G_aload_n (pc := 103) 0 dX2_land_103 rfl ?_
    refine G_getR (pc := 104) dX2_land_104 fX2_12 (by assumption) (by assumption) ?_
    refine G_iload (pc := 107) 6 dX2_land_107 rfl ?_
    have er : ∀ x y q k, apW (up2 i a 5 (-(i a 5))) a (z + 1) x y q k (v + 1) = i (v + 1) := fun x y q k => by unfold apW; simp (disch := omega) only [up2_ne]
    have e6 : ∀ x y q k, apW (up2 i a 5 (-(i a 5))) a (z + 1) x y q k a 6 = i a 6 := fun x y q k => by unfold apW; simp (disch := omega) only [up2_ne, up2_row]
    have ev : up2 i a 5 (-(i a 5)) (v + 1) = i (v + 1) := up2_ne (by omega)
    refine gV2 (pc := 109) (k' := 0) (n' := 0) dX2_land_109 lkX2_101 ⟨by decide, by decide⟩ (Nat.le_of_ble_eq_true rfl) rfl rfl ⟨by decide, by decide⟩ hW.1 (c_X9_addPlace hW hA v3.1 (by omega) (by rw [up2_row (by decide)]; exact h4) hz ?_)
    dsimp only [gRt]
    rw [ev]
    refine G_aload_n (pc := 112) 0 dX2_land_112 rfl ?_
    refine G_getR (pc := 113) dX2_land_113 fX2_12 (by assumption) (by assumption) ?_
    refine G_getI (pc := 116) dX2_land_116 fX2_105 (by assumption) ?_
    rw [er]
    refine G_iconst (pc := 119) (v := 2) dX2_land_119 rfl ?_
    refine G_icmp_gt (pc := 120) (tgt := 140) dX2_land_120 (by decide) (fun h120 => ?_) (fun h120 => ?_)
    · refine G_aload_n (pc := 140) 0 dX2_land_140 rfl ?_
      refine G_getR (pc := 141) dX2_land_141 fX2_12 (by assumption) (by assumption) ?_
      refine G_getI (pc := 144) dX2_land_144 fX2_105 (by assumption) ?_
      rw [er]
      refine G_iconst (pc := 147) (v := 5) dX2_land_147 rfl ?_
      refine G_icmp_lt (pc := 148) (tgt := 165) dX2_land_148 (by decide) (fun h148 => ?_) (fun h148 => ?_)
      · refine G_vret (pc := 165) dX2_land_165 rfl ⟨by decide, by decide⟩ ?_
        have hw : (gWay (l (v + 2) 1) (l (v + 2) 2) (i (v + 1) 1 - i (a + 1) z).toInt64 (i (v + 1) 2 - i (a + 2) z).toInt64 (i a 5) < 0) := Int64.not_le.mp h63
        have ek : gKnd (gWay (l (v + 2) 1) (l (v + 2) 2) (i (v + 1) 1 - i (a + 1) z).toInt64 (i (v + 1) 2 - i (a + 2) z).toInt64 (i a 5)) (l (v + 3) 2) (l (v + 2) 2) = 2 := if_pos hw
        have es : (if gWay (l (v + 2) 1) (l (v + 2) 2) (i (v + 1) 1 - i (a + 1) z).toInt64 (i (v + 1) 2 - i (a + 2) z).toInt64 (i a 5) < 0 then -(i a 5) else i a 5) = -(i a 5) := if_pos hw
        have ep : gPce (i (v + 1) 3) (i a 6) gl = i a 6 := by unfold gPce; rw [if_pos h120, if_pos h148]
        rw [ek, es, ep] at hQ
        exact hQ _ (landed.of' (i0 := up2 i a 5 (-(i a 5))) (frR.rf.put (by omega) (by omega)) (up2_self _ _ _ _) (fun j hj => up2_row hj) rfl)
      · refine G_aload_n (pc := 151) 1 dX2_land_151 rfl ?_
        refine G_aload_n (pc := 152) 1 dX2_land_152 rfl ?_
        refine G_getI (pc := 153) dX2_land_153 fX2_52 (by assumption) ?_
        rw [e6]
        refine G_iconst (pc := 156) (v := 2) dX2_land_156 rfl ?_
        refine G_idiv (pc := 157) dX2_land_157 (by decide) ?_
        refine G_iconst (pc := 158) (v := 1) dX2_land_158 rfl ?_
        refine gS2 (pc := 159) (k' := 0) (n' := 0) dX2_land_159 lkX2_114 ⟨by decide, by decide⟩ (Nat.le_of_ble_eq_true rfl) rfl rfl ⟨by decide, by decide⟩ (c_J9_max_7cf53 ?_)
        dsimp only [gRt]
        refine G_putI (pc := 162) dX2_land_162 fX2_52 (by assumption) rfl rfl (by first | assumption | omega) ?_
        refine G_vret (pc := 165) dX2_land_165 rfl ⟨by decide, by decide⟩ ?_
        have hw : (gWay (l (v + 2) 1) (l (v + 2) 2) (i (v + 1) 1 - i (a + 1) z).toInt64 (i (v + 1) 2 - i (a + 2) z).toInt64 (i a 5) < 0) := Int64.not_le.mp h63
        have ek : gKnd (gWay (l (v + 2) 1) (l (v + 2) 2) (i (v + 1) 1 - i (a + 1) z).toInt64 (i (v + 1) 2 - i (a + 2) z).toInt64 (i a 5)) (l (v + 3) 2) (l (v + 2) 2) = 2 := if_pos hw
        have es : (if gWay (l (v + 2) 1) (l (v + 2) 2) (i (v + 1) 1 - i (a + 1) z).toInt64 (i (v + 1) 2 - i (a + 2) z).toInt64 (i a 5) < 0 then -(i a 5) else i a 5) = -(i a 5) := if_pos hw
        have ep : gPce (i (v + 1) 3) (i a 6) gl = gMax (i a 6 / 2) 1 := by unfold gPce; rw [if_pos h120, if_neg h148]
        rw [ek, es, ep] at hQ
        exact hQ _ (landed.of (i0 := up2 i a 5 (-(i a 5))) (frR.rf.put (by omega) (by omega)) (up2_self _ _ _ _) (fun j hj => up2_row hj))
    · refine G_aload_n (pc := 123) 1 dX2_land_123 rfl ?_
      refine G_aload_n (pc := 124) 1 dX2_land_124 rfl ?_
      refine G_getI (pc := 125) dX2_land_125 fX2_52 (by assumption) ?_
      rw [e6]
      refine G_iconst (pc := 128) (v := 2) dX2_land_128 rfl ?_
      refine G_imul (pc := 129) dX2_land_129 ?_
      refine G_iload_n (pc := 130) 2 dX2_land_130 rfl ?_
      refine gS2 (pc := 131) (k' := 0) (n' := 0) dX2_land_131 lkX2_108 ⟨by decide, by decide⟩ (Nat.le_of_ble_eq_true rfl) rfl rfl ⟨by decide, by decide⟩ (c_J9_min_7cf53 ?_)
      dsimp only [gRt]
      refine G_putI (pc := 134) dX2_land_134 fX2_52 (by assumption) rfl rfl (by first | assumption | omega) ?_
      refine G_goto (pc := 137) (tgt := 165) dX2_land_137 (by decide) ?_
      refine G_vret (pc := 165) dX2_land_165 rfl ⟨by decide, by decide⟩ ?_
      have hw : (gWay (l (v + 2) 1) (l (v + 2) 2) (i (v + 1) 1 - i (a + 1) z).toInt64 (i (v + 1) 2 - i (a + 2) z).toInt64 (i a 5) < 0) := Int64.not_le.mp h63
      have ek : gKnd (gWay (l (v + 2) 1) (l (v + 2) 2) (i (v + 1) 1 - i (a + 1) z).toInt64 (i (v + 1) 2 - i (a + 2) z).toInt64 (i a 5)) (l (v + 3) 2) (l (v + 2) 2) = 2 := if_pos hw
      have es : (if gWay (l (v + 2) 1) (l (v + 2) 2) (i (v + 1) 1 - i (a + 1) z).toInt64 (i (v + 1) 2 - i (a + 2) z).toInt64 (i a 5) < 0 then -(i a 5) else i a 5) = -(i a 5) := if_pos hw
      have ep : gPce (i (v + 1) 3) (i a 6) gl = gMin (i a 6 * 2) gl := if_neg h120
      rw [ek, es, ep] at hQ
      exact hQ _ (landed.of (i0 := up2 i a 5 (-(i a 5))) (frR.rf.put (by omega) (by omega)) (up2_self _ _ _ _) (fun j hj => up2_row hj))
