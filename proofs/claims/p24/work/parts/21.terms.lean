/-! layouts: an object and what it holds, made in one stretch -/
def lyT (T : gTy) (r : gR) (a : Nat) : Prop := (T.2 a).1 = 7 ∧ r a 0 = some (a + 1) ∧ r a 1 = some (a + 2) ∧ r a 2 = some (a + 3) ∧ T.2 (a + 1) = (13, 6) ∧ T.2 (a + 2) = (13, 6) ∧ T.2 (a + 3) = (13, 6)
def lySe (T : gTy) (r : gR) (a : Nat) : Prop := (T.2 a).1 = 4 ∧ r a 0 = some (a + 1) ∧ T.2 (a + 1) = (13, 3)
/-- the terms at a: n of them, factors f, powers p and q -/
def tv (i : gI) (a n : Nat) (f : Nat → Int32) (p q : Nat → Nat) : Prop := n ≤ 6 ∧ i a 3 = nI n ∧ ∀ k, k < n → i (a + 1) k = f k ∧ i (a + 2) k = nI (p k) ∧ i (a + 3) k = nI (q k) ∧ p k + q k ≤ 3
/-! PURE: what terms give -/
def gW (f : Nat → Int32) (p q : Nat → Nat) (k : Nat) : Int64 := (f k).toInt64 * gPow 256 (3 - p k - q k)
def gvn (f : Nat → Int32) (p q : Nat → Nat) (x y : Int64) (w k : Nat) : Int64 :=
  if w = 1 then (if p k = 0 then 0 else gW f p q k * (nI (p k)).toInt64 * gPow x (p k - 1) * gPow y (q k))
  else if w = 2 then (if q k = 0 then 0 else gW f p q k * (nI (q k)).toInt64 * gPow x (p k) * gPow y (q k - 1))
  else gW f p q k * gPow x (p k) * gPow y (q k)
def gSum (f : Nat → Int32) (p q : Nat → Nat) (x y : Int64) (w : Nat) : Nat → Int64
  | 0 => 0
  | k + 1 => gSum f p q x y w k + gvn f p q x y w k
abbrev gGG (f : Nat → Int32) (p q : Nat → Nat) (n : Nat) (x y : Int64) : Int64 := gSum f p q x y 1 n * gSum f p q x y 1 n + gSum f p q x y 2 n * gSum f p q x y 2 n
def gCor (f : Nat → Int32) (p q : Nat → Nat) (n : Nat) : Nat → Nat → Int64 → Int64 → Option (Int64 × Int64 × Nat)
  | 0, _, _, _ => none
  | m + 1, rd, x, y => if inB x ∧ inB y then (if gGG f p q n x y = 0 then none else if gSum f p q x y 0 n * gSum f p q x y 1 n / gGG f p q n x y = 0 ∧ gSum f p q x y 0 n * gSum f p q x y 2 n / gGG f p q n x y = 0 then some (x, y, rd + 1) else gCor f p q n m (rd + 1) (x - gSum f p q x y 0 n * gSum f p q x y 1 n / gGG f p q n x y) (y - gSum f p q x y 0 n * gSum f p q x y 2 n / gGG f p q n x y)) else none
/-- a spot's three longs -/
def sp3 (l : gLg) (a : Nat) (F X Y : Int64) : gLg := va_up l a (fun j => if j = 0 then F else if j = 1 then X else if j = 2 then Y else l a j)
theorem sp3_0 {l : gLg} {a : Nat} {F X Y : Int64} : sp3 l a F X Y a 0 = F := by simp [sp3, va_up]
theorem sp3_1 {l : gLg} {a : Nat} {F X Y : Int64} : sp3 l a F X Y a 1 = X := by simp [sp3, va_up]
theorem sp3_2 {l : gLg} {a : Nat} {F X Y : Int64} : sp3 l a F X Y a 2 = Y := by simp [sp3, va_up]
theorem sp3_ne {l : gLg} {a b : Nat} {F X Y : Int64} (h : b ≠ a) : sp3 l a F X Y b = l b := by simp [sp3, va_up, h]
theorem sp3_p0 {l : gLg} {a : Nat} {F X Y Z : Int64} : up2 (sp3 l a F X Y) a 0 Z = sp3 l a Z X Y := by
  funext b j; by_cases hb : b = a <;> simp [up2, sp3, va_up, hb] <;> (by_cases h0 : j = 0 <;> simp [h0])
theorem sp3_p1 {l : gLg} {a : Nat} {F X Y Z : Int64} : up2 (sp3 l a F X Y) a 1 Z = sp3 l a F Z Y := by
  funext b j; by_cases hb : b = a <;> simp [up2, sp3, va_up, hb] <;> (by_cases h0 : j = 0 <;> by_cases h1 : j = 1 <;> simp [h0, h1])
theorem sp3_p2 {l : gLg} {a : Nat} {F X Y Z : Int64} : up2 (sp3 l a F X Y) a 2 Z = sp3 l a F X Z := by
  funext b j; by_cases hb : b = a <;> simp [up2, sp3, va_up, hb] <;> (by_cases h0 : j = 0 <;> by_cases h1 : j = 1 <;> by_cases h2 : j = 2 <;> simp [h0, h1, h2])
theorem sp3_000 {l : gLg} {a : Nat} : up2 (up2 (up2 l a 0 0) a 1 0) a 2 0 = sp3 l a 0 0 0 := by
  funext b j; by_cases hb : b = a <;> simp [up2, sp3, va_up, hb] <;> (by_cases h0 : j = 0 <;> by_cases h1 : j = 1 <;> by_cases h2 : j = 2 <;> simp [h0, h1, h2])
theorem nI_pr {k : Nat} (h : ¬ nI k < 1) : nI k - 1 = nI (k - 1) := by
  cases k with
  | zero => exact absurd (by decide) h
  | succ k => exact nI_pred k
theorem nI_lt1 {k : Nat} (hk : k < 2 ^ 31) : nI k < 1 ↔ k = 0 := by
  rw [show (1 : Int32) = nI 1 from rfl, nI_ltI hk (by decide)]; omega
theorem nI_sub3 {p q : Nat} (h : p + q ≤ 3) : (3 : Int32) - nI p - nI q = nI (3 - p - q) := by
  have h1 : (3 : Int32) = nI 3 := rfl
  rw [h1, pk_sub (by omega), pk_sub (by omega)]
set_option maxRecDepth 100000 in
set_option maxHeartbeats 4000000 in
theorem c_X7_isFull {Γ : gG} {T : gTy} {r : gR} {l : gLg} {i : gI} {Q : gQ} {a : Nat} (hk : (T.2 a).1 = 7) (hQ : Q (some (.int (gB (¬ i a 3 < 6)))) T r l i) : gC Γ MX7_isFull [.ref a] T r l i Q := by
  refine gC_of rfl (Nat.le_of_ble_eq_true rfl) (L := [(0, .ref a)]) rfl ?_
  refine G_aload_n (pc := 0) 0 dX7_isFull_0 rfl ?_
  refine G_getI (pc := 1) dX7_isFull_1 fX7_21 (by assumption) ?_
  refine G_bipush (pc := 4) (v := 6) dX7_isFull_4 rfl ?_
  refine G_icmp_lt (pc := 6) (tgt := 13) dX7_isFull_6 (by decide) (fun h6 => ?_) (fun h6 => ?_)
  · refine G_iconst (pc := 13) (v := 0) dX7_isFull_13 rfl ?_
    refine G_iret (pc := 14) dX7_isFull_14 ⟨_, rfl, rfl⟩ ⟨by decide, by decide⟩ ?_
    simpa [gB, h6] using hQ
  · refine G_iconst (pc := 9) (v := 1) dX7_isFull_9 rfl ?_
    refine G_goto (pc := 10) (tgt := 14) dX7_isFull_10 (by decide) ?_
    refine G_iret (pc := 14) dX7_isFull_14 ⟨_, rfl, rfl⟩ ⟨by decide, by decide⟩ ?_
    simpa [gB, h6] using hQ
set_option maxRecDepth 100000 in
set_option maxHeartbeats 4000000 in
theorem c_X7_has {Γ : gG} {T : gTy} {r : gR} {l : gLg} {i : gI} {Q : gQ} {a : Nat} {x : Int32} (hk : (T.2 a).1 = 7) (hQ : Q (some (.int (gB (¬ x < 0 ∧ ¬ i a 3 ≤ x)))) T r l i) : gC Γ MX7_has [.ref a, .int x] T r l i Q := by
  refine gC_of rfl (Nat.le_of_ble_eq_true rfl) (L := [(0, .ref a), (1, .int x)]) rfl ?_
  refine G_iload_n (pc := 0) 1 dX7_has_0 rfl ?_
  refine G_if_lt (pc := 1) (tgt := 16) dX7_has_1 (by decide) (fun h1 => ?_) (fun h1 => ?_)
  · refine G_iconst (pc := 16) (v := 0) dX7_has_16 rfl ?_
    refine G_iret (pc := 17) dX7_has_17 ⟨_, rfl, rfl⟩ ⟨by decide, by decide⟩ ?_
    simpa [gB, h1] using hQ
  · refine G_iload_n (pc := 4) 1 dX7_has_4 rfl ?_
    refine G_aload_n (pc := 5) 0 dX7_has_5 rfl ?_
    refine G_getI (pc := 6) dX7_has_6 fX7_21 (by assumption) ?_
    refine G_icmp_ge (pc := 9) (tgt := 16) dX7_has_9 (by decide) (fun h9 => ?_) (fun h9 => ?_)
    · refine G_iconst (pc := 16) (v := 0) dX7_has_16 rfl ?_
      refine G_iret (pc := 17) dX7_has_17 ⟨_, rfl, rfl⟩ ⟨by decide, by decide⟩ ?_
      simpa [gB, h1, h9] using hQ
    · refine G_iconst (pc := 12) (v := 1) dX7_has_12 rfl ?_
      refine G_goto (pc := 13) (tgt := 17) dX7_has_13 (by decide) ?_
      refine G_iret (pc := 17) dX7_has_17 ⟨_, rfl, rfl⟩ ⟨by decide, by decide⟩ ?_
      simpa [gB, h1, h9] using hQ
theorem has_in {k n : Nat} {x : Int32} (hx : x = nI n) (h : k < n) (hn : n < 2 ^ 31) : ¬ nI k < 0 ∧ ¬ x ≤ nI k := by
  subst hx; exact ⟨nI_pos (by omega), nI_ge h hn⟩
theorem has_out {k n : Nat} {x : Int32} (hx : x = nI n) (h : n ≤ k) (hk : k < 2 ^ 31) : ¬ (¬ nI k < 0 ∧ ¬ x ≤ nI k) := by
  subst hx; exact fun q => q.2 (nI_le h hk)
set_option maxRecDepth 100000 in
set_option maxHeartbeats 4000000 in
theorem c_X7_scale {Γ : gG} {T : gTy} {r : gR} {l : gLg} {i : gI} {Q : gQ} {a k n : Nat} {f : Nat → Int32} {p q : Nat → Nat} (hL : lyT T r a) (hV : tv i a n f p q) (hk : k < n) (hQ : Q (some (.long (gPow 256 (3 - p k - q k)))) T r l i) : gC Γ MX7_scale [.ref a, .int (nI k)] T r l i Q := by
  obtain ⟨h0, h1, h2, h3, h4, h5, h6⟩ := hL
  obtain ⟨hn6, hn, hv⟩ := hV
  obtain ⟨v1, v2, v3, v4⟩ := hv k hk
  have hin := has_in hn hk (by omega)
  refine gC_of rfl (Nat.le_of_ble_eq_true rfl) (L := [(0, .ref a), (1, .int (nI k))]) rfl ?_
  refine G_aload_n (pc := 0) 0 dX7_scale_0 rfl ?_
  refine G_iload_n (pc := 1) 1 dX7_scale_1 rfl ?_
  refine gV1 (pc := 2) (k' := 0) (n' := 0) dX7_scale_2 lkX7_29 ⟨by decide, by decide⟩ (Nat.le_of_ble_eq_true rfl) rfl rfl ⟨by decide, by decide⟩ (by assumption) (c_X7_has (by assumption) ?_)
  dsimp only [gRt]
  refine G_if_eq (pc := 5) (tgt := 32) dX7_scale_5 (by decide) (fun h5 => ?_) (fun h5 => ?_)
  · exact absurd hin (gB_eq.mp h5)
  · refine G_ldc2 (pc := 8) dX7_scale_8 kcX7_41 ?_
    refine G_iconst (pc := 11) (v := 3) dX7_scale_11 rfl ?_
    refine G_aload_n (pc := 12) 0 dX7_scale_12 rfl ?_
    refine G_getR (pc := 13) dX7_scale_13 fX7_15 (by assumption) (by assumption) ?_
    refine G_iload_n (pc := 16) 1 dX7_scale_16 rfl ?_
    refine G_ialdJ (pc := 17) dX7_scale_17 (by assumption) rfl (by first | assumption | omega) (by decide) ?_
    refine G_isub (pc := 18) dX7_scale_18 ?_
    refine G_aload_n (pc := 19) 0 dX7_scale_19 rfl ?_
    refine G_getR (pc := 20) dX7_scale_20 fX7_18 (by assumption) (by assumption) ?_
    refine G_iload_n (pc := 23) 1 dX7_scale_23 rfl ?_
    refine G_ialdJ (pc := 24) dX7_scale_24 (by assumption) rfl (by first | assumption | omega) (by decide) ?_
    refine G_isub (pc := 25) dX7_scale_25 ?_
    rw [v2, v3, nI_sub3 v4]
    refine gS2 (pc := 26) (k' := 0) (n' := 0) dX7_scale_26 lkX7_33 ⟨by decide, by decide⟩ (Nat.le_of_ble_eq_true rfl) rfl rfl ⟨by decide, by decide⟩ (c_X11_power (by omega) ?_)
    dsimp only [gRt]
    refine G_goto (pc := 29) (tgt := 33) dX7_scale_29 (by decide) ?_
    refine G_lret (pc := 33) dX7_scale_33 rfl ⟨by decide, by decide⟩ ?_
    exact hQ
set_option maxRecDepth 100000 in
set_option maxHeartbeats 4000000 in
theorem lp_X5_look {Γ : gG} {T : gTy} {r : gR} {l : gLg} {i : gI} {Q : gQ} {sp a n : Nat} {x y : Int64} {f : Nat → Int32} {p q : Nat → Nat} (hsp : (T.2 sp).1 = 5) (hA : gN Γ ≤ sp) (hLT : lyT T r a) (hV : tv i a n f p q) (hQ : Q none T r (sp3 l sp (gSum f p q x y 0 n) (gSum f p q x y 1 n) (gSum f p q x y 2 n)) i) : ∀ d k, k + d = n → G Γ MX5_look 0 0 18 [(0, .ref sp), (1, .ref a), (2, .long x), (4, .long y), (6, .int (nI k))] [] T r (sp3 l sp (gSum f p q x y 0 k) (gSum f p q x y 1 k) (gSum f p q x y 2 k)) i Q := by
  obtain ⟨hn6, hn, hv⟩ := id hV
  obtain ⟨h0, h1, h2, h3, h4, h5, h6⟩ := id hLT
  intro d
  induction d with
  | zero =>
    intro k hk
    obtain rfl : k = n := by omega
    refine G_iload (pc := 18) 4 dX5_look_18 rfl ?_
    refine G_aload_n (pc := 20) 1 dX5_look_20 rfl ?_
    refine G_getI (pc := 21) dX5_look_21 fX5_19 (by assumption) ?_
    refine G_icmp_ge (pc := 24) (tgt := 170) dX5_look_24 (by decide) (fun h24 => ?_) (fun h24 => ?_)
    · refine G_vret (pc := 170) dX5_look_170 rfl ⟨by decide, by decide⟩ ?_
      exact hQ
    · exact absurd (by rw [hn]; exact Int32.le_refl _) h24
  | succ d ih =>
    intro k hk
    have hkn : k < n := by omega
    obtain ⟨v1, v2, v3, v4⟩ := hv k hkn
    refine G_iload (pc := 18) 4 dX5_look_18 rfl ?_
    refine G_aload_n (pc := 20) 1 dX5_look_20 rfl ?_
    refine G_getI (pc := 21) dX5_look_21 fX5_19 (by assumption) ?_
    refine G_icmp_ge (pc := 24) (tgt := 170) dX5_look_24 (by decide) (fun h24 => ?_) (fun h24 => ?_)
    · exact absurd h24 (by rw [hn]; exact nI_ge (by omega) (by omega))
    · refine G_aload_n (pc := 27) 1 dX5_look_27 rfl ?_
      refine G_getR (pc := 28) dX5_look_28 fX5_25 (by assumption) (by assumption) ?_
      refine G_iload (pc := 31) 4 dX5_look_31 rfl ?_
      refine G_ialdJ (pc := 33) dX5_look_33 (by assumption) rfl (by first | assumption | omega) (by decide) ?_
      rw [v2]
      refine G_sn5 (pc := 34) (gSt_i dX5_look_34 (by decide)) rfl ?_
      refine G_aload_n (pc := 36) 1 dX5_look_36 rfl ?_
      refine G_getR (pc := 37) dX5_look_37 fX5_29 (by assumption) (by assumption) ?_
      refine G_iload (pc := 40) 4 dX5_look_40 rfl ?_
      refine G_ialdJ (pc := 42) dX5_look_42 (by assumption) rfl (by first | assumption | omega) (by decide) ?_
      rw [v3]
      refine G_sn6 (pc := 43) (gSt_i dX5_look_43 (by decide)) rfl ?_
      refine G_aload_n (pc := 45) 1 dX5_look_45 rfl ?_
      refine G_getR (pc := 46) dX5_look_46 fX5_32 (by assumption) (by assumption) ?_
      refine G_iload (pc := 49) 4 dX5_look_49 rfl ?_
      refine G_ialdJ (pc := 51) dX5_look_51 (by assumption) rfl (by first | assumption | omega) (by decide) ?_
      rw [v1]
      refine G_i2l (pc := 52) dX5_look_52 ?_
      refine G_aload_n (pc := 53) 1 dX5_look_53 rfl ?_
      refine G_iload (pc := 54) 4 dX5_look_54 rfl ?_
      refine gV1 (pc := 56) (k' := 0) (n' := 0) dX5_look_56 lkX5_35 ⟨by decide, by decide⟩ (Nat.le_of_ble_eq_true rfl) rfl rfl ⟨by decide, by decide⟩ (by assumption) (c_X7_scale hLT hV hkn ?_)
      dsimp only [gRt]
      refine G_lmul (pc := 59) dX5_look_59 ?_
      rw [show (f k).toInt64 * gPow 256 (3 - p k - q k) = gW f p q k from rfl]
      refine G_sn7 (pc := 60) (gSt_l dX5_look_60 (by decide)) rfl ?_
      refine G_aload_n (pc := 62) 0 dX5_look_62 rfl ?_
      refine G_dup (pc := 63) dX5_look_63 rfl ?_
      refine G_getL (pc := 64) dX5_look_64 fX5_7 (by assumption) ?_
      refine G_lload (pc := 67) 7 dX5_look_67 rfl ?_
      rw [sp3_0]
      refine G_lload_n (pc := 69) 2 dX5_look_69 rfl ?_
      refine G_iload (pc := 70) 5 dX5_look_70 rfl ?_
      refine gS2 (pc := 72) (k' := 0) (n' := 0) dX5_look_72 lkX5_39 ⟨by decide, by decide⟩ (Nat.le_of_ble_eq_true rfl) rfl rfl ⟨by decide, by decide⟩ (c_X11_power (by omega) ?_)
      dsimp only [gRt]
      refine G_lmul (pc := 75) dX5_look_75 ?_
      refine G_lload (pc := 76) 3 dX5_look_76 rfl ?_
      refine G_iload (pc := 78) 6 dX5_look_78 rfl ?_
      refine gS2 (pc := 80) (k' := 0) (n' := 0) dX5_look_80 lkX5_39 ⟨by decide, by decide⟩ (Nat.le_of_ble_eq_true rfl) rfl rfl ⟨by decide, by decide⟩ (c_X11_power (by omega) ?_)
      dsimp only [gRt]
      refine G_lmul (pc := 83) dX5_look_83 ?_
      refine G_ladd (pc := 84) dX5_look_84 ?_
      refine G_putL (pc := 85) dX5_look_85 fX5_7 (by assumption) (by first | assumption | omega) ?_
      rw [sp3_p0]
      refine G_iload (pc := 88) 5 dX5_look_88 rfl ?_
      refine G_iconst (pc := 90) (v := 1) dX5_look_90 rfl ?_
      refine G_icmp_lt (pc := 91) (tgt := 126) dX5_look_91 (by decide) (fun h91 => ?_) (fun h91 => ?_)
      · refine G_iload (pc := 126) 6 dX5_look_126 rfl ?_
        refine G_iconst (pc := 128) (v := 1) dX5_look_128 rfl ?_
        refine G_icmp_lt (pc := 129) (tgt := 164) dX5_look_129 (by decide) (fun h129 => ?_) (fun h129 => ?_)
        · refine G_inc4 (pc := 164) (v := 1) dX5_look_164 rfl (by decide) rfl ?_
          refine G_goto (pc := 167) (tgt := 18) dX5_look_167 (by decide) ?_
          refine G_drop7 ?_
          refine G_drop6 ?_
          refine G_drop5 ?_
          rw [nI_1]
          have e0 : gSum f p q x y 0 (k + 1) = gSum f p q x y 0 k + gW f p q k * gPow x (p k) * gPow y (q k) := by simp [gSum, gvn]
          have e1 : gSum f p q x y 1 (k + 1) = gSum f p q x y 1 k := by simp [gSum, gvn, (nI_lt1 (by omega)).mp h91]
          have e2 : gSum f p q x y 2 (k + 1) = gSum f p q x y 2 k := by simp [gSum, gvn, (nI_lt1 (by omega)).mp h129]
          have ih2 := ih (k + 1) (by omega)
          rw [e0, e1, e2] at ih2
          exact ih2
        · refine G_aload_n (pc := 132) 0 dX5_look_132 rfl ?_
          refine G_dup (pc := 133) dX5_look_133 rfl ?_
          refine G_getL (pc := 134) dX5_look_134 fX5_16 (by assumption) ?_
          rw [sp3_2]
          refine G_lload (pc := 137) 7 dX5_look_137 rfl ?_
          refine G_iload (pc := 139) 6 dX5_look_139 rfl ?_
          refine G_i2l (pc := 141) dX5_look_141 ?_
          refine G_lmul (pc := 142) dX5_look_142 ?_
          refine G_lload_n (pc := 143) 2 dX5_look_143 rfl ?_
          refine G_iload (pc := 144) 5 dX5_look_144 rfl ?_
          refine gS2 (pc := 146) (k' := 0) (n' := 0) dX5_look_146 lkX5_39 ⟨by decide, by decide⟩ (Nat.le_of_ble_eq_true rfl) rfl rfl ⟨by decide, by decide⟩ (c_X11_power (by omega) ?_)
          dsimp only [gRt]
          refine G_lmul (pc := 149) dX5_look_149 ?_
          refine G_lload (pc := 150) 3 dX5_look_150 rfl ?_
          refine G_iload (pc := 152) 6 dX5_look_152 rfl ?_
          refine G_iconst (pc := 154) (v := 1) dX5_look_154 rfl ?_
          refine G_isub (pc := 155) dX5_look_155 ?_
          rw [nI_pr h129]
          refine gS2 (pc := 156) (k' := 0) (n' := 0) dX5_look_156 lkX5_39 ⟨by decide, by decide⟩ (Nat.le_of_ble_eq_true rfl) rfl rfl ⟨by decide, by decide⟩ (c_X11_power (by omega) ?_)
          dsimp only [gRt]
          refine G_lmul (pc := 159) dX5_look_159 ?_
          refine G_ladd (pc := 160) dX5_look_160 ?_
          refine G_putL (pc := 161) dX5_look_161 fX5_16 (by assumption) (by first | assumption | omega) ?_
          rw [sp3_p2]
          refine G_inc4 (pc := 164) (v := 1) dX5_look_164 rfl (by decide) rfl ?_
          refine G_goto (pc := 167) (tgt := 18) dX5_look_167 (by decide) ?_
          refine G_drop7 ?_
          refine G_drop6 ?_
          refine G_drop5 ?_
          rw [nI_1]
          have e0 : gSum f p q x y 0 (k + 1) = gSum f p q x y 0 k + gW f p q k * gPow x (p k) * gPow y (q k) := by simp [gSum, gvn]
          have e1 : gSum f p q x y 1 (k + 1) = gSum f p q x y 1 k := by simp [gSum, gvn, (nI_lt1 (by omega)).mp h91]
          have e2 : gSum f p q x y 2 (k + 1) = gSum f p q x y 2 k + gW f p q k * (nI (q k)).toInt64 * gPow x (p k) * gPow y (q k - 1) := by
            have hz : ¬ q k = 0 := fun z => h129 ((nI_lt1 (by omega)).mpr z)
            simp [gSum, gvn, hz]
          have ih2 := ih (k + 1) (by omega)
          rw [e0, e1, e2] at ih2
          exact ih2
      · refine G_aload_n (pc := 94) 0 dX5_look_94 rfl ?_
        refine G_dup (pc := 95) dX5_look_95 rfl ?_
        refine G_getL (pc := 96) dX5_look_96 fX5_13 (by assumption) ?_
        rw [sp3_1]
        refine G_lload (pc := 99) 7 dX5_look_99 rfl ?_
        refine G_iload (pc := 101) 5 dX5_look_101 rfl ?_
        refine G_i2l (pc := 103) dX5_look_103 ?_
        refine G_lmul (pc := 104) dX5_look_104 ?_
        refine G_lload_n (pc := 105) 2 dX5_look_105 rfl ?_
        refine G_iload (pc := 106) 5 dX5_look_106 rfl ?_
        refine G_iconst (pc := 108) (v := 1) dX5_look_108 rfl ?_
        refine G_isub (pc := 109) dX5_look_109 ?_
        rw [nI_pr h91]
        refine gS2 (pc := 110) (k' := 0) (n' := 0) dX5_look_110 lkX5_39 ⟨by decide, by decide⟩ (Nat.le_of_ble_eq_true rfl) rfl rfl ⟨by decide, by decide⟩ (c_X11_power (by omega) ?_)
        dsimp only [gRt]
        refine G_lmul (pc := 113) dX5_look_113 ?_
        refine G_lload (pc := 114) 3 dX5_look_114 rfl ?_
        refine G_iload (pc := 116) 6 dX5_look_116 rfl ?_
        refine gS2 (pc := 118) (k' := 0) (n' := 0) dX5_look_118 lkX5_39 ⟨by decide, by decide⟩ (Nat.le_of_ble_eq_true rfl) rfl rfl ⟨by decide, by decide⟩ (c_X11_power (by omega) ?_)
        dsimp only [gRt]
        refine G_lmul (pc := 121) dX5_look_121 ?_
        refine G_ladd (pc := 122) dX5_look_122 ?_
        refine G_putL (pc := 123) dX5_look_123 fX5_13 (by assumption) (by first | assumption | omega) ?_
        rw [sp3_p1]
        refine G_iload (pc := 126) 6 dX5_look_126 rfl ?_
        refine G_iconst (pc := 128) (v := 1) dX5_look_128 rfl ?_
        refine G_icmp_lt (pc := 129) (tgt := 164) dX5_look_129 (by decide) (fun h129 => ?_) (fun h129 => ?_)
        · refine G_inc4 (pc := 164) (v := 1) dX5_look_164 rfl (by decide) rfl ?_
          refine G_goto (pc := 167) (tgt := 18) dX5_look_167 (by decide) ?_
          refine G_drop7 ?_
          refine G_drop6 ?_
          refine G_drop5 ?_
          rw [nI_1]
          have e0 : gSum f p q x y 0 (k + 1) = gSum f p q x y 0 k + gW f p q k * gPow x (p k) * gPow y (q k) := by simp [gSum, gvn]
          have e1 : gSum f p q x y 1 (k + 1) = gSum f p q x y 1 k + gW f p q k * (nI (p k)).toInt64 * gPow x (p k - 1) * gPow y (q k) := by
            have hz : ¬ p k = 0 := fun z => h91 ((nI_lt1 (by omega)).mpr z)
            simp [gSum, gvn, hz]
          have e2 : gSum f p q x y 2 (k + 1) = gSum f p q x y 2 k := by simp [gSum, gvn, (nI_lt1 (by omega)).mp h129]
          have ih2 := ih (k + 1) (by omega)
          rw [e0, e1, e2] at ih2
          exact ih2
        · refine G_aload_n (pc := 132) 0 dX5_look_132 rfl ?_
          refine G_dup (pc := 133) dX5_look_133 rfl ?_
          refine G_getL (pc := 134) dX5_look_134 fX5_16 (by assumption) ?_
          rw [sp3_2]
          refine G_lload (pc := 137) 7 dX5_look_137 rfl ?_
          refine G_iload (pc := 139) 6 dX5_look_139 rfl ?_
          refine G_i2l (pc := 141) dX5_look_141 ?_
          refine G_lmul (pc := 142) dX5_look_142 ?_
          refine G_lload_n (pc := 143) 2 dX5_look_143 rfl ?_
          refine G_iload (pc := 144) 5 dX5_look_144 rfl ?_
          refine gS2 (pc := 146) (k' := 0) (n' := 0) dX5_look_146 lkX5_39 ⟨by decide, by decide⟩ (Nat.le_of_ble_eq_true rfl) rfl rfl ⟨by decide, by decide⟩ (c_X11_power (by omega) ?_)
          dsimp only [gRt]
          refine G_lmul (pc := 149) dX5_look_149 ?_
          refine G_lload (pc := 150) 3 dX5_look_150 rfl ?_
          refine G_iload (pc := 152) 6 dX5_look_152 rfl ?_
          refine G_iconst (pc := 154) (v := 1) dX5_look_154 rfl ?_
          refine G_isub (pc := 155) dX5_look_155 ?_
          rw [nI_pr h129]
          refine gS2 (pc := 156) (k' := 0) (n' := 0) dX5_look_156 lkX5_39 ⟨by decide, by decide⟩ (Nat.le_of_ble_eq_true rfl) rfl rfl ⟨by decide, by decide⟩ (c_X11_power (by omega) ?_)
          dsimp only [gRt]
          refine G_lmul (pc := 159) dX5_look_159 ?_
          refine G_ladd (pc := 160) dX5_look_160 ?_
          refine G_putL (pc := 161) dX5_look_161 fX5_16 (by assumption) (by first | assumption | omega) ?_
          rw [sp3_p2]
          refine G_inc4 (pc := 164) (v := 1) dX5_look_164 rfl (by decide) rfl ?_
          refine G_goto (pc := 167) (tgt := 18) dX5_look_167 (by decide) ?_
          refine G_drop7 ?_
          refine G_drop6 ?_
          refine G_drop5 ?_
          rw [nI_1]
          have e0 : gSum f p q x y 0 (k + 1) = gSum f p q x y 0 k + gW f p q k * gPow x (p k) * gPow y (q k) := by simp [gSum, gvn]
          have e1 : gSum f p q x y 1 (k + 1) = gSum f p q x y 1 k + gW f p q k * (nI (p k)).toInt64 * gPow x (p k - 1) * gPow y (q k) := by
            have hz : ¬ p k = 0 := fun z => h91 ((nI_lt1 (by omega)).mpr z)
            simp [gSum, gvn, hz]
          have e2 : gSum f p q x y 2 (k + 1) = gSum f p q x y 2 k + gW f p q k * (nI (q k)).toInt64 * gPow x (p k) * gPow y (q k - 1) := by
            have hz : ¬ q k = 0 := fun z => h129 ((nI_lt1 (by omega)).mpr z)
            simp [gSum, gvn, hz]
          have ih2 := ih (k + 1) (by omega)
          rw [e0, e1, e2] at ih2
          exact ih2
set_option maxRecDepth 100000 in
set_option maxHeartbeats 4000000 in
theorem c_X5_look {Γ : gG} {T : gTy} {r : gR} {l : gLg} {i : gI} {Q : gQ} {sp a n : Nat} {x y : Int64} {f : Nat → Int32} {p q : Nat → Nat} (hsp : (T.2 sp).1 = 5) (hA : gN Γ ≤ sp) (hLT : lyT T r a) (hV : tv i a n f p q) (hQ : Q none T r (sp3 l sp (gSum f p q x y 0 n) (gSum f p q x y 1 n) (gSum f p q x y 2 n)) i) : gC Γ MX5_look [.ref sp, .ref a, .long x, .long y] T r l i Q := by
  refine gC_of rfl (Nat.le_of_ble_eq_true rfl) (L := [(0, .ref sp), (1, .ref a), (2, .long x), (4, .long y)]) rfl ?_
  refine G_aload_n (pc := 0) 0 dX5_look_0 rfl ?_
  refine G_lconst (pc := 1) (v := 0) dX5_look_1 rfl ?_
  refine G_putL (pc := 2) dX5_look_2 fX5_7 (by assumption) (by first | assumption | omega) ?_
  refine G_aload_n (pc := 5) 0 dX5_look_5 rfl ?_
  refine G_lconst (pc := 6) (v := 0) dX5_look_6 rfl ?_
  refine G_putL (pc := 7) dX5_look_7 fX5_13 (by assumption) (by first | assumption | omega) ?_
  refine G_aload_n (pc := 10) 0 dX5_look_10 rfl ?_
  refine G_lconst (pc := 11) (v := 0) dX5_look_11 rfl ?_
  refine G_putL (pc := 12) dX5_look_12 fX5_16 (by assumption) (by first | assumption | omega) ?_
  refine G_iconst (pc := 15) (v := 0) dX5_look_15 rfl ?_
  refine G_sn4 (pc := 16) (gSt_i dX5_look_16 (by decide)) rfl ?_
  rw [sp3_000]
  exact lp_X5_look hsp hA hLT hV hQ n 0 (Nat.zero_add n)
set_option maxRecDepth 100000 in
set_option maxHeartbeats 4000000 in
theorem c_X5_steepness {Γ : gG} {T : gTy} {r : gR} {l : gLg} {i : gI} {Q : gQ} {a : Nat} (hk : (T.2 a).1 = 5) (hQ : Q (some (.long (l a 1 * l a 1 + l a 2 * l a 2))) T r l i) : gC Γ MX5_steepness [.ref a] T r l i Q := by
  refine gC_of rfl (Nat.le_of_ble_eq_true rfl) (L := [(0, .ref a)]) rfl ?_
  refine G_aload_n (pc := 0) 0 dX5_steepness_0 rfl ?_
  refine G_getL (pc := 1) dX5_steepness_1 fX5_13 (by assumption) ?_
  refine G_aload_n (pc := 4) 0 dX5_steepness_4 rfl ?_
  refine G_getL (pc := 5) dX5_steepness_5 fX5_13 (by assumption) ?_
  refine G_lmul (pc := 8) dX5_steepness_8 ?_
  refine G_aload_n (pc := 9) 0 dX5_steepness_9 rfl ?_
  refine G_getL (pc := 10) dX5_steepness_10 fX5_16 (by assumption) ?_
  refine G_aload_n (pc := 13) 0 dX5_steepness_13 rfl ?_
  refine G_getL (pc := 14) dX5_steepness_14 fX5_16 (by assumption) ?_
  refine G_lmul (pc := 17) dX5_steepness_17 ?_
  refine G_ladd (pc := 18) dX5_steepness_18 ?_
  refine G_lret (pc := 19) dX5_steepness_19 rfl ⟨by decide, by decide⟩ ?_
  exact hQ
set_option maxRecDepth 100000 in
set_option maxHeartbeats 4000000 in
theorem c_X4_at {Γ : gG} {T : gTy} {r : gR} {l : gLg} {i : gI} {Q : gQ} {a j : Nat} (hL : lySe T r a) (hj : j < 3) (hQ : Q (some (.int (i (a + 1) j))) T r l i) : gC Γ MX4_at [.ref a, .int (nI j)] T r l i Q := by
  obtain ⟨h0, h1, h2⟩ := hL
  refine gC_of rfl (Nat.le_of_ble_eq_true rfl) (L := [(0, .ref a), (1, .int (nI j))]) rfl ?_
  refine G_iload_n (pc := 0) 1 dX4_at_0 rfl ?_
  refine G_if_lt (pc := 1) (tgt := 22) dX4_at_1 (by decide) (fun h1_ => ?_) (fun h1_ => ?_)
  · exact absurd h1_ (nI_pos (by omega))
  · refine G_iload_n (pc := 4) 1 dX4_at_4 rfl ?_
    refine G_aload_n (pc := 5) 0 dX4_at_5 rfl ?_
    refine G_getR (pc := 6) dX4_at_6 fX4_7 (by assumption) (by assumption) ?_
    refine G_alen (pc := 9) (z := 13) (v := 3) dX4_at_9 (by decide) (by assumption) rfl ?_
    refine G_icmp_ge (pc := 10) (tgt := 22) dX4_at_10 (by decide) (fun h10 => ?_) (fun h10 => ?_)
    · exact absurd h10 (nI_ge hj (by decide))
    · refine G_aload_n (pc := 13) 0 dX4_at_13 rfl ?_
      refine G_getR (pc := 14) dX4_at_14 fX4_7 (by assumption) (by assumption) ?_
      refine G_iload_n (pc := 17) 1 dX4_at_17 rfl ?_
      refine G_ialdJ (pc := 18) dX4_at_18 (by assumption) rfl (by first | assumption | omega) (by decide) ?_
      refine G_goto (pc := 19) (tgt := 23) dX4_at_19 (by decide) ?_
      refine G_iret (pc := 23) dX4_at_23 ⟨_, rfl, rfl⟩ ⟨by decide, by decide⟩ ?_
      exact hQ
