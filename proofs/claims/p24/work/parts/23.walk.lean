/-! Walk -/
def lyW (T : gTy) (r : gR) (a : Nat) : Prop := (T.2 a).1 = 9 ∧ r a 0 = some (a + 1) ∧ r a 1 = some (a + 2) ∧ r a 2 = some (a + 3) ∧ r a 3 = some (a + 4) ∧ T.2 (a + 1) = (13, 40) ∧ T.2 (a + 2) = (13, 40) ∧ T.2 (a + 3) = (13, 40) ∧ T.2 (a + 4) = (13, 40)
/-- outside lo .. hi - 1 nothing moved -/
def frR (lo hi : Nat) (i i' : gI) : Prop := ∀ b, b < lo ∨ hi ≤ b → i' b = i b
theorem frR.rf {lo hi : Nat} {i : gI} : frR lo hi i i := fun _ _ => rfl
theorem frR.tr {lo hi : Nat} {i j k : gI} (h : frR lo hi i j) (g : frR lo hi j k) : frR lo hi i k := fun b hb => (g b hb).trans (h b hb)
theorem frR.mono {lo hi lo' hi' : Nat} {i j : gI} (h : frR lo hi i j) (h1 : lo' ≤ lo) (h2 : hi ≤ hi') : frR lo' hi' i j := fun b hb => h b (by omega)
theorem frR.put {lo hi a j : Nat} {i i' : gI} {x : Int32} (h : frR lo hi i i') (h1 : lo ≤ a) (h2 : a < hi) : frR lo hi i (up2 i' a j x) := fun b hb => by rw [up2_ne (by omega)]; exact h b hb
/-- the walk at a is the one that the flat state s tells at w, with n places -/
def rpW (i : gI) (a : Nat) (s : Nat → Int32) (w n : Nat) : Prop := n ≤ 40 ∧ i a 4 = nI n ∧ (∀ j, j < 6 → i a (4 + j) = s (w + j)) ∧ (∀ p, p < n → ∀ c, c < 4 → i (a + 1 + c) p = s (w + 6 + 4 * p + c)) ∧ (s (w + 3) = 0 ∨ s (w + 3) = 1)
theorem rpW.kept {i i' : gI} {a w n : Nat} {s : Nat → Int32} (h : rpW i a s w n) (hf : ∀ b, a ≤ b → b < a + 5 → i' b = i b) : rpW i' a s w n := by
  obtain ⟨h1, h2, h3, h4, h5⟩ := h
  exact ⟨h1, by rw [hf a (by omega) (by omega)]; exact h2, fun j hj => by rw [hf a (by omega) (by omega)]; exact h3 j hj, fun p hp c hc => by rw [hf (a + 1 + c) (by omega) (by omega)]; exact h4 p hp c hc, h5⟩
theorem rpW.flat {i : gI} {a w n : Nat} {s s' : Nat → Int32} (h : rpW i a s w n) (hf : ∀ j, w ≤ j → j < w + 166 → s' j = s j) : rpW i a s' w n := by
  obtain ⟨h1, h2, h3, h4, h5⟩ := h
  exact ⟨h1, h2, fun j hj => by rw [hf _ (by omega) (by omega)]; exact h3 j hj, fun p hp c hc => by rw [hf _ (by omega) (by omega)]; exact h4 p hp c hc, by rw [hf _ (by omega) (by omega)]; exact h5⟩
def gCond (st n : Int32) : Int32 := if st = 0 then (if n < 40 then 0 else 2) else 1
def cntK (f : Nat → Int32) (k : Int32) : Nat → Nat
  | 0 => 0
  | p + 1 => cntK f k p + (if f p = k then 1 else 0)
theorem cntK_le (f : Nat → Int32) (k : Int32) : ∀ n, cntK f k n ≤ n
  | 0 => Nat.le_refl _
  | n + 1 => by have := cntK_le f k n; unfold cntK; split <;> omega
def mvR (x y : Nat → Int32) (p : Nat) : Int32 := (gRoot ((x (p + 1) - x p).toInt64 * (x (p + 1) - x p).toInt64 + (y (p + 1) - y p).toInt64 * (y (p + 1) - y p).toInt64)).toInt32
def lenL (x y : Nat → Int32) : Nat → Int32
  | 0 => 0
  | p + 1 => lenL x y p + mvR x y p
def sqT (x y : Nat → Int32) (u v : Int64) (p : Nat) : Int64 := ((x p).toInt64 - u) * ((x p).toInt64 - u) + ((y p).toInt64 - v) * ((y p).toInt64 - v)
def nrT (x y : Nat → Int32) (u v : Int64) : Nat → Nat
  | 0 => 0
  | p + 1 => if sqT x y u v (p + 1) < sqT x y u v (nrT x y u v p) then p + 1 else nrT x y u v p
theorem nrT_le (x y : Nat → Int32) (u v : Int64) : ∀ n, nrT x y u v n ≤ n
  | 0 => Nat.le_refl _
  | n + 1 => by have := nrT_le x y u v n; unfold nrT; split <;> omega
set_option maxRecDepth 100000 in
set_option maxHeartbeats 4000000 in
theorem c_X9_has {Γ : gG} {T : gTy} {r : gR} {l : gLg} {i : gI} {Q : gQ} {a : Nat} {x : Int32} (hk : (T.2 a).1 = 9) (hQ : Q (some (.int (gB (¬ x < 0 ∧ ¬ i a 4 ≤ x)))) T r l i) : gC Γ MX9_has [.ref a, .int x] T r l i Q := by
  refine gC_of rfl (Nat.le_of_ble_eq_true rfl) (L := [(0, .ref a), (1, .int x)]) rfl ?_
  refine G_iload_n (pc := 0) 1 dX9_has_0 rfl ?_
  refine G_if_lt (pc := 1) (tgt := 16) dX9_has_1 (by decide) (fun h1 => ?_) (fun h1 => ?_)
  · refine G_iconst (pc := 16) (v := 0) dX9_has_16 rfl ?_
    refine G_iret (pc := 17) dX9_has_17 ⟨_, rfl, rfl⟩ ⟨by decide, by decide⟩ ?_
    simpa [gB, h1] using hQ
  · refine G_iload_n (pc := 4) 1 dX9_has_4 rfl ?_
    refine G_aload_n (pc := 5) 0 dX9_has_5 rfl ?_
    refine G_getI (pc := 6) dX9_has_6 fX9_24 (by assumption) ?_
    refine G_icmp_ge (pc := 9) (tgt := 16) dX9_has_9 (by decide) (fun h9 => ?_) (fun h9 => ?_)
    · refine G_iconst (pc := 16) (v := 0) dX9_has_16 rfl ?_
      refine G_iret (pc := 17) dX9_has_17 ⟨_, rfl, rfl⟩ ⟨by decide, by decide⟩ ?_
      simpa [gB, h1, h9] using hQ
    · refine G_iconst (pc := 12) (v := 1) dX9_has_12 rfl ?_
      refine G_goto (pc := 13) (tgt := 17) dX9_has_13 (by decide) ?_
      refine G_iret (pc := 17) dX9_has_17 ⟨_, rfl, rfl⟩ ⟨by decide, by decide⟩ ?_
      simpa [gB, h1, h9] using hQ
set_option maxRecDepth 100000 in
set_option maxHeartbeats 4000000 in
theorem c_X9_condition {Γ : gG} {T : gTy} {r : gR} {l : gLg} {i : gI} {Q : gQ} {a : Nat} (hk : (T.2 a).1 = 9) (hQ : Q (some (.int (gCond (i a 7) (i a 4)))) T r l i) : gC Γ MX9_condition [.ref a] T r l i Q := by
  refine gC_of rfl (Nat.le_of_ble_eq_true rfl) (L := [(0, .ref a)]) rfl ?_
  refine G_aload_n (pc := 0) 0 dX9_condition_0 rfl ?_
  refine G_getI (pc := 1) dX9_condition_1 fX9_34 (by assumption) ?_
  refine G_if_eq (pc := 4) (tgt := 9) dX9_condition_4 (by decide) (fun h4 => ?_) (fun h4 => ?_)
  · refine G_aload_n (pc := 9) 0 dX9_condition_9 rfl ?_
    refine G_getI (pc := 10) dX9_condition_10 fX9_24 (by assumption) ?_
    refine G_bipush (pc := 13) (v := 40) dX9_condition_13 rfl ?_
    refine G_icmp_lt (pc := 15) (tgt := 22) dX9_condition_15 (by decide) (fun h15 => ?_) (fun h15 => ?_)
    · refine G_iconst (pc := 22) (v := 0) dX9_condition_22 rfl ?_
      refine G_iret (pc := 23) dX9_condition_23 ⟨_, rfl, rfl⟩ ⟨by decide, by decide⟩ ?_
      simpa [gCond, h4, h15] using hQ
    · refine G_iconst (pc := 18) (v := 2) dX9_condition_18 rfl ?_
      refine G_goto (pc := 19) (tgt := 23) dX9_condition_19 (by decide) ?_
      refine G_iret (pc := 23) dX9_condition_23 ⟨_, rfl, rfl⟩ ⟨by decide, by decide⟩ ?_
      simpa [gCond, h4, h15] using hQ
  · refine G_iconst (pc := 7) (v := 1) dX9_condition_7 rfl ?_
    refine G_iret (pc := 8) dX9_condition_8 ⟨_, rfl, rfl⟩ ⟨by decide, by decide⟩ ?_
    simpa [gCond, h4] using hQ
set_option maxRecDepth 100000 in
set_option maxHeartbeats 4000000 in
theorem c_X9_lastX {Γ : gG} {T : gTy} {r : gR} {l : gLg} {i : gI} {Q : gQ} {a n : Nat} (hL : lyW T r a) (h4 : i a 4 = nI (n + 1)) (hn : n + 1 ≤ 40) (hQ : Q (some (.int (i (a + 1) n))) T r l i) : gC Γ MX9_lastX [.ref a] T r l i Q := by
  obtain ⟨w0, w1, w2, w3, w4, w5, w6, w7, w8⟩ := hL
  refine gC_of rfl (Nat.le_of_ble_eq_true rfl) (L := [(0, .ref a)]) rfl ?_
  refine G_aload_n (pc := 0) 0 dX9_lastX_0 rfl ?_
  refine G_aload_n (pc := 1) 0 dX9_lastX_1 rfl ?_
  refine G_getI (pc := 2) dX9_lastX_2 fX9_24 (by assumption) ?_
  refine G_iconst (pc := 5) (v := 1) dX9_lastX_5 rfl ?_
  refine G_isub (pc := 6) dX9_lastX_6 ?_
  rw [h4, nI_pred]
  refine gV1 (pc := 7) (k' := 0) (n' := 0) dX9_lastX_7 lkX9_54 ⟨by decide, by decide⟩ (Nat.le_of_ble_eq_true rfl) rfl rfl ⟨by decide, by decide⟩ (by assumption) (c_X9_has (by assumption) ?_)
  dsimp only [gRt]
  refine G_if_eq (pc := 10) (tgt := 27) dX9_lastX_10 (by decide) (fun h10 => ?_) (fun h10 => ?_)
  · exact absurd (has_in h4 (Nat.lt_succ_self n) (by omega)) (gB_eq.mp h10)
  · refine G_aload_n (pc := 13) 0 dX9_lastX_13 rfl ?_
    refine G_getR (pc := 14) dX9_lastX_14 fX9_9 (by assumption) (by assumption) ?_
    refine G_aload_n (pc := 17) 0 dX9_lastX_17 rfl ?_
    refine G_getI (pc := 18) dX9_lastX_18 fX9_24 (by assumption) ?_
    refine G_iconst (pc := 21) (v := 1) dX9_lastX_21 rfl ?_
    refine G_isub (pc := 22) dX9_lastX_22 ?_
    rw [h4, nI_pred]
    refine G_ialdJ (pc := 23) dX9_lastX_23 (by assumption) rfl (by first | assumption | omega) (by decide) ?_
    refine G_goto (pc := 24) (tgt := 28) dX9_lastX_24 (by decide) ?_
    refine G_iret (pc := 28) dX9_lastX_28 ⟨_, rfl, rfl⟩ ⟨by decide, by decide⟩ ?_
    exact hQ
set_option maxRecDepth 100000 in
set_option maxHeartbeats 4000000 in
theorem c_X9_lastY {Γ : gG} {T : gTy} {r : gR} {l : gLg} {i : gI} {Q : gQ} {a n : Nat} (hL : lyW T r a) (h4 : i a 4 = nI (n + 1)) (hn : n + 1 ≤ 40) (hQ : Q (some (.int (i (a + 2) n))) T r l i) : gC Γ MX9_lastY [.ref a] T r l i Q := by
  obtain ⟨w0, w1, w2, w3, w4, w5, w6, w7, w8⟩ := hL
  refine gC_of rfl (Nat.le_of_ble_eq_true rfl) (L := [(0, .ref a)]) rfl ?_
  refine G_aload_n (pc := 0) 0 dX9_lastY_0 rfl ?_
  refine G_aload_n (pc := 1) 0 dX9_lastY_1 rfl ?_
  refine G_getI (pc := 2) dX9_lastY_2 fX9_24 (by assumption) ?_
  refine G_iconst (pc := 5) (v := 1) dX9_lastY_5 rfl ?_
  refine G_isub (pc := 6) dX9_lastY_6 ?_
  rw [h4, nI_pred]
  refine gV1 (pc := 7) (k' := 0) (n' := 0) dX9_lastY_7 lkX9_54 ⟨by decide, by decide⟩ (Nat.le_of_ble_eq_true rfl) rfl rfl ⟨by decide, by decide⟩ (by assumption) (c_X9_has (by assumption) ?_)
  dsimp only [gRt]
  refine G_if_eq (pc := 10) (tgt := 27) dX9_lastY_10 (by decide) (fun h10 => ?_) (fun h10 => ?_)
  · exact absurd (has_in h4 (Nat.lt_succ_self n) (by omega)) (gB_eq.mp h10)
  · refine G_aload_n (pc := 13) 0 dX9_lastY_13 rfl ?_
    refine G_getR (pc := 14) dX9_lastY_14 fX9_15 (by assumption) (by assumption) ?_
    refine G_aload_n (pc := 17) 0 dX9_lastY_17 rfl ?_
    refine G_getI (pc := 18) dX9_lastY_18 fX9_24 (by assumption) ?_
    refine G_iconst (pc := 21) (v := 1) dX9_lastY_21 rfl ?_
    refine G_isub (pc := 22) dX9_lastY_22 ?_
    rw [h4, nI_pred]
    refine G_ialdJ (pc := 23) dX9_lastY_23 (by assumption) rfl (by first | assumption | omega) (by decide) ?_
    refine G_goto (pc := 24) (tgt := 28) dX9_lastY_24 (by decide) ?_
    refine G_iret (pc := 28) dX9_lastY_28 ⟨_, rfl, rfl⟩ ⟨by decide, by decide⟩ ?_
    exact hQ
set_option maxRecDepth 100000 in
set_option maxHeartbeats 4000000 in
theorem c_X9_changeOfX {Γ : gG} {T : gTy} {r : gR} {l : gLg} {i : gI} {Q : gQ} {a n p : Nat} (hL : lyW T r a) (h4 : i a 4 = nI n) (hn : n ≤ 40) (hp : p + 1 < n) (hQ : Q (some (.int (i (a + 1) (p + 1) - i (a + 1) p))) T r l i) : gC Γ MX9_changeOfX [.ref a, .int (nI (p + 1))] T r l i Q := by
  obtain ⟨w0, w1, w2, w3, w4, w5, w6, w7, w8⟩ := hL
  refine gC_of rfl (Nat.le_of_ble_eq_true rfl) (L := [(0, .ref a), (1, .int (nI (p + 1)))]) rfl ?_
  refine G_aload_n (pc := 0) 0 dX9_changeOfX_0 rfl ?_
  refine G_iload_n (pc := 1) 1 dX9_changeOfX_1 rfl ?_
  refine gV1 (pc := 2) (k' := 0) (n' := 0) dX9_changeOfX_2 lkX9_54 ⟨by decide, by decide⟩ (Nat.le_of_ble_eq_true rfl) rfl rfl ⟨by decide, by decide⟩ (by assumption) (c_X9_has (by assumption) ?_)
  dsimp only [gRt]
  refine G_if_eq (pc := 5) (tgt := 36) dX9_changeOfX_5 (by decide) (fun h5 => ?_) (fun h5 => ?_)
  · exact absurd (has_in h4 hp (by omega)) (gB_eq.mp h5)
  · refine G_aload_n (pc := 8) 0 dX9_changeOfX_8 rfl ?_
    refine G_iload_n (pc := 9) 1 dX9_changeOfX_9 rfl ?_
    refine G_iconst (pc := 10) (v := 1) dX9_changeOfX_10 rfl ?_
    refine G_isub (pc := 11) dX9_changeOfX_11 ?_
    rw [nI_pred]
    refine gV1 (pc := 12) (k' := 0) (n' := 0) dX9_changeOfX_12 lkX9_54 ⟨by decide, by decide⟩ (Nat.le_of_ble_eq_true rfl) rfl rfl ⟨by decide, by decide⟩ (by assumption) (c_X9_has (by assumption) ?_)
    dsimp only [gRt]
    refine G_if_eq (pc := 15) (tgt := 36) dX9_changeOfX_15 (by decide) (fun h15 => ?_) (fun h15 => ?_)
    · exact absurd (has_in h4 (by omega) (by omega)) (gB_eq.mp h15)
    · refine G_aload_n (pc := 18) 0 dX9_changeOfX_18 rfl ?_
      refine G_getR (pc := 19) dX9_changeOfX_19 fX9_9 (by assumption) (by assumption) ?_
      refine G_iload_n (pc := 22) 1 dX9_changeOfX_22 rfl ?_
      refine G_ialdJ (pc := 23) dX9_changeOfX_23 (by assumption) rfl (by first | assumption | omega) (by decide) ?_
      refine G_aload_n (pc := 24) 0 dX9_changeOfX_24 rfl ?_
      refine G_getR (pc := 25) dX9_changeOfX_25 fX9_9 (by assumption) (by assumption) ?_
      refine G_iload_n (pc := 28) 1 dX9_changeOfX_28 rfl ?_
      refine G_iconst (pc := 29) (v := 1) dX9_changeOfX_29 rfl ?_
      refine G_isub (pc := 30) dX9_changeOfX_30 ?_
      rw [nI_pred]
      refine G_ialdJ (pc := 31) dX9_changeOfX_31 (by assumption) rfl (by first | assumption | omega) (by decide) ?_
      refine G_isub (pc := 32) dX9_changeOfX_32 ?_
      refine G_goto (pc := 33) (tgt := 37) dX9_changeOfX_33 (by decide) ?_
      refine G_iret (pc := 37) dX9_changeOfX_37 ⟨_, rfl, rfl⟩ ⟨by decide, by decide⟩ ?_
      exact hQ
set_option maxRecDepth 100000 in
set_option maxHeartbeats 4000000 in
theorem c_X9_changeOfY {Γ : gG} {T : gTy} {r : gR} {l : gLg} {i : gI} {Q : gQ} {a n p : Nat} (hL : lyW T r a) (h4 : i a 4 = nI n) (hn : n ≤ 40) (hp : p + 1 < n) (hQ : Q (some (.int (i (a + 2) (p + 1) - i (a + 2) p))) T r l i) : gC Γ MX9_changeOfY [.ref a, .int (nI (p + 1))] T r l i Q := by
  obtain ⟨w0, w1, w2, w3, w4, w5, w6, w7, w8⟩ := hL
  refine gC_of rfl (Nat.le_of_ble_eq_true rfl) (L := [(0, .ref a), (1, .int (nI (p + 1)))]) rfl ?_
  refine G_aload_n (pc := 0) 0 dX9_changeOfY_0 rfl ?_
  refine G_iload_n (pc := 1) 1 dX9_changeOfY_1 rfl ?_
  refine gV1 (pc := 2) (k' := 0) (n' := 0) dX9_changeOfY_2 lkX9_54 ⟨by decide, by decide⟩ (Nat.le_of_ble_eq_true rfl) rfl rfl ⟨by decide, by decide⟩ (by assumption) (c_X9_has (by assumption) ?_)
  dsimp only [gRt]
  refine G_if_eq (pc := 5) (tgt := 36) dX9_changeOfY_5 (by decide) (fun h5 => ?_) (fun h5 => ?_)
  · exact absurd (has_in h4 hp (by omega)) (gB_eq.mp h5)
  · refine G_aload_n (pc := 8) 0 dX9_changeOfY_8 rfl ?_
    refine G_iload_n (pc := 9) 1 dX9_changeOfY_9 rfl ?_
    refine G_iconst (pc := 10) (v := 1) dX9_changeOfY_10 rfl ?_
    refine G_isub (pc := 11) dX9_changeOfY_11 ?_
    rw [nI_pred]
    refine gV1 (pc := 12) (k' := 0) (n' := 0) dX9_changeOfY_12 lkX9_54 ⟨by decide, by decide⟩ (Nat.le_of_ble_eq_true rfl) rfl rfl ⟨by decide, by decide⟩ (by assumption) (c_X9_has (by assumption) ?_)
    dsimp only [gRt]
    refine G_if_eq (pc := 15) (tgt := 36) dX9_changeOfY_15 (by decide) (fun h15 => ?_) (fun h15 => ?_)
    · exact absurd (has_in h4 (by omega) (by omega)) (gB_eq.mp h15)
    · refine G_aload_n (pc := 18) 0 dX9_changeOfY_18 rfl ?_
      refine G_getR (pc := 19) dX9_changeOfY_19 fX9_15 (by assumption) (by assumption) ?_
      refine G_iload_n (pc := 22) 1 dX9_changeOfY_22 rfl ?_
      refine G_ialdJ (pc := 23) dX9_changeOfY_23 (by assumption) rfl (by first | assumption | omega) (by decide) ?_
      refine G_aload_n (pc := 24) 0 dX9_changeOfY_24 rfl ?_
      refine G_getR (pc := 25) dX9_changeOfY_25 fX9_15 (by assumption) (by assumption) ?_
      refine G_iload_n (pc := 28) 1 dX9_changeOfY_28 rfl ?_
      refine G_iconst (pc := 29) (v := 1) dX9_changeOfY_29 rfl ?_
      refine G_isub (pc := 30) dX9_changeOfY_30 ?_
      rw [nI_pred]
      refine G_ialdJ (pc := 31) dX9_changeOfY_31 (by assumption) rfl (by first | assumption | omega) (by decide) ?_
      refine G_isub (pc := 32) dX9_changeOfY_32 ?_
      refine G_goto (pc := 33) (tgt := 37) dX9_changeOfY_33 (by decide) ?_
      refine G_iret (pc := 37) dX9_changeOfY_37 ⟨_, rfl, rfl⟩ ⟨by decide, by decide⟩ ?_
      exact hQ
set_option maxRecDepth 100000 in
set_option maxHeartbeats 4000000 in
theorem lp_X9_placesOfKind {Γ : gG} {T : gTy} {r : gR} {l : gLg} {i : gI} {Q : gQ} {a n : Nat} {v : Int32} (hL : lyW T r a) (h4 : i a 4 = nI n) (hn : n ≤ 40) (hQ : Q (some (.int (nI (cntK (i (a + 4)) v n)))) T r l i) : ∀ d k, k + d = n → G Γ MX9_placesOfKind 0 0 4 [(0, .ref a), (1, .int v), (2, .int (nI (cntK (i (a + 4)) v k))), (3, .int (nI k))] [] T r l i Q := by
  obtain ⟨w0, w1, w2, w3, w4, w5, w6, w7, w8⟩ := hL
  intro d
  induction d with
  | zero =>
    intro k hk
    obtain rfl : k = n := by omega
    refine G_iload_n (pc := 4) 3 dX9_placesOfKind_4 rfl ?_
    refine G_aload_n (pc := 5) 0 dX9_placesOfKind_5 rfl ?_
    refine G_getI (pc := 6) dX9_placesOfKind_6 fX9_24 (by assumption) ?_
    refine G_icmp_ge (pc := 9) (tgt := 31) dX9_placesOfKind_9 (by decide) (fun h9 => ?_) (fun h9 => ?_)
    · refine G_iload_n (pc := 31) 2 dX9_placesOfKind_31 rfl ?_
      refine G_iret (pc := 32) dX9_placesOfKind_32 ⟨_, rfl, rfl⟩ ⟨by decide, by decide⟩ ?_
      exact hQ
    · exact absurd (by rw [h4]; exact Int32.le_refl _) h9
  | succ d ih =>
    intro k hk
    refine G_iload_n (pc := 4) 3 dX9_placesOfKind_4 rfl ?_
    refine G_aload_n (pc := 5) 0 dX9_placesOfKind_5 rfl ?_
    refine G_getI (pc := 6) dX9_placesOfKind_6 fX9_24 (by assumption) ?_
    refine G_icmp_ge (pc := 9) (tgt := 31) dX9_placesOfKind_9 (by decide) (fun h9 => ?_) (fun h9 => ?_)
    · exact absurd h9 (by rw [h4]; exact nI_ge (by omega) (by omega))
    · refine G_aload_n (pc := 12) 0 dX9_placesOfKind_12 rfl ?_
      refine G_getR (pc := 13) dX9_placesOfKind_13 fX9_21 (by assumption) (by assumption) ?_
      refine G_iload_n (pc := 16) 3 dX9_placesOfKind_16 rfl ?_
      refine G_ialdJ (pc := 17) dX9_placesOfKind_17 (by assumption) rfl (by first | assumption | omega) (by decide) ?_
      refine G_iload_n (pc := 18) 1 dX9_placesOfKind_18 rfl ?_
      refine G_icmp_ne (pc := 19) (tgt := 25) dX9_placesOfKind_19 (by decide) (fun h19 => ?_) (fun h19 => ?_)
      · refine G_inc3 (pc := 25) (v := 1) dX9_placesOfKind_25 rfl (by decide) rfl ?_
        refine G_goto (pc := 28) (tgt := 4) dX9_placesOfKind_28 (by decide) ?_
        rw [nI_1]
        have e : cntK (i (a + 4)) v (k + 1) = cntK (i (a + 4)) v k := by simp [cntK, h19]
        rw [← e]
        exact ih (k + 1) (by omega)
      · refine G_inc2 (pc := 22) (v := 1) dX9_placesOfKind_22 rfl (by decide) rfl ?_
        refine G_inc3 (pc := 25) (v := 1) dX9_placesOfKind_25 rfl (by decide) rfl ?_
        refine G_goto (pc := 28) (tgt := 4) dX9_placesOfKind_28 (by decide) ?_
        rw [nI_1, nI_1]
        have e : cntK (i (a + 4)) v (k + 1) = cntK (i (a + 4)) v k + 1 := by simp [cntK, h19]
        rw [← e]
        exact ih (k + 1) (by omega)
set_option maxRecDepth 100000 in
set_option maxHeartbeats 4000000 in
theorem c_X9_placesOfKind {Γ : gG} {T : gTy} {r : gR} {l : gLg} {i : gI} {Q : gQ} {a n : Nat} {v : Int32} (hL : lyW T r a) (h4 : i a 4 = nI n) (hn : n ≤ 40) (hQ : Q (some (.int (nI (cntK (i (a + 4)) v n)))) T r l i) : gC Γ MX9_placesOfKind [.ref a, .int v] T r l i Q := by
  refine gC_of rfl (Nat.le_of_ble_eq_true rfl) (L := [(0, .ref a), (1, .int v)]) rfl ?_
  refine G_iconst (pc := 0) (v := 0) dX9_placesOfKind_0 rfl ?_
  refine G_sn2 (pc := 1) (gSt_in dX9_placesOfKind_1 rfl (by decide)) rfl ?_
  refine G_iconst (pc := 2) (v := 0) dX9_placesOfKind_2 rfl ?_
  refine G_sn3 (pc := 3) (gSt_in dX9_placesOfKind_3 rfl (by decide)) rfl ?_
  exact lp_X9_placesOfKind hL h4 hn hQ n 0 (Nat.zero_add n)
set_option maxRecDepth 100000 in
set_option maxHeartbeats 4000000 in
theorem c_X9_squaresTo {Γ : gG} {T : gTy} {r : gR} {l : gLg} {i : gI} {Q : gQ} {a n p : Nat} {u v : Int64} (hL : lyW T r a) (h4 : i a 4 = nI n) (hn : n ≤ 40) (hp : p < n) (hQ : Q (some (.long (sqT (i (a + 1)) (i (a + 2)) u v p))) T r l i) : gC Γ MX9_squaresTo [.ref a, .int (nI p), .long u, .long v] T r l i Q := by
  obtain ⟨w0, w1, w2, w3, w4, w5, w6, w7, w8⟩ := hL
  refine gC_of rfl (Nat.le_of_ble_eq_true rfl) (L := [(0, .ref a), (1, .int (nI p)), (2, .long u), (4, .long v)]) rfl ?_
  refine G_aload_n (pc := 0) 0 dX9_squaresTo_0 rfl ?_
  refine G_iload_n (pc := 1) 1 dX9_squaresTo_1 rfl ?_
  refine gV1 (pc := 2) (k' := 0) (n' := 0) dX9_squaresTo_2 lkX9_54 ⟨by decide, by decide⟩ (Nat.le_of_ble_eq_true rfl) rfl rfl ⟨by decide, by decide⟩ (by assumption) (c_X9_has (by assumption) ?_)
  dsimp only [gRt]
  refine G_if_ne (pc := 5) (tgt := 10) dX9_squaresTo_5 (by decide) (fun h5 => ?_) (fun h5 => ?_)
  · refine G_aload_n (pc := 10) 0 dX9_squaresTo_10 rfl ?_
    refine G_getR (pc := 11) dX9_squaresTo_11 fX9_9 (by assumption) (by assumption) ?_
    refine G_iload_n (pc := 14) 1 dX9_squaresTo_14 rfl ?_
    refine G_ialdJ (pc := 15) dX9_squaresTo_15 (by assumption) rfl (by first | assumption | omega) (by decide) ?_
    refine G_i2l (pc := 16) dX9_squaresTo_16 ?_
    refine G_lload_n (pc := 17) 2 dX9_squaresTo_17 rfl ?_
    refine G_lsub (pc := 18) dX9_squaresTo_18 ?_
    refine G_sn4 (pc := 19) (gSt_l dX9_squaresTo_19 (by decide)) rfl ?_
    refine G_aload_n (pc := 21) 0 dX9_squaresTo_21 rfl ?_
    refine G_getR (pc := 22) dX9_squaresTo_22 fX9_15 (by assumption) (by assumption) ?_
    refine G_iload_n (pc := 25) 1 dX9_squaresTo_25 rfl ?_
    refine G_ialdJ (pc := 26) dX9_squaresTo_26 (by assumption) rfl (by first | assumption | omega) (by decide) ?_
    refine G_i2l (pc := 27) dX9_squaresTo_27 ?_
    refine G_lload (pc := 28) 3 dX9_squaresTo_28 rfl ?_
    refine G_lsub (pc := 30) dX9_squaresTo_30 ?_
    refine G_sn5 (pc := 31) (gSt_l dX9_squaresTo_31 (by decide)) rfl ?_
    refine G_lload (pc := 33) 4 dX9_squaresTo_33 rfl ?_
    refine G_lload (pc := 35) 4 dX9_squaresTo_35 rfl ?_
    refine G_lmul (pc := 37) dX9_squaresTo_37 ?_
    refine G_lload (pc := 38) 5 dX9_squaresTo_38 rfl ?_
    refine G_lload (pc := 40) 5 dX9_squaresTo_40 rfl ?_
    refine G_lmul (pc := 42) dX9_squaresTo_42 ?_
    refine G_ladd (pc := 43) dX9_squaresTo_43 ?_
    refine G_lret (pc := 44) dX9_squaresTo_44 rfl ⟨by decide, by decide⟩ ?_
    exact hQ
  · exact absurd (has_in h4 hp (by omega)) (gB_eq.mp h5)
set_option maxRecDepth 100000 in
set_option maxHeartbeats 4000000 in
theorem lp_X9_nearestTo {Γ : gG} {T : gTy} {r : gR} {l : gLg} {i : gI} {Q : gQ} {a n : Nat} {u v : Int64} (hL : lyW T r a) (h4 : i a 4 = nI (n + 1)) (hn : n + 1 ≤ 40) (hQ : Q (some (.int (nI (nrT (i (a + 1)) (i (a + 2)) u v n)))) T r l i) : ∀ d k, k + d = n → G Γ MX9_nearestTo 0 0 6 [(0, .ref a), (1, .long u), (3, .long v), (5, .int (nI (nrT (i (a + 1)) (i (a + 2)) u v k))), (6, .int (nI (k + 1)))] [] T r l i Q := by
  have hL2 := hL
  obtain ⟨w0, w1, w2, w3, w4, w5, w6, w7, w8⟩ := hL
  intro d
  induction d with
  | zero =>
    intro k hk
    obtain rfl : k = n := by omega
    refine G_iload (pc := 6) 4 dX9_nearestTo_6 rfl ?_
    refine G_aload_n (pc := 8) 0 dX9_nearestTo_8 rfl ?_
    refine G_getI (pc := 9) dX9_nearestTo_9 fX9_24 (by assumption) ?_
    refine G_icmp_ge (pc := 12) (tgt := 45) dX9_nearestTo_12 (by decide) (fun h12 => ?_) (fun h12 => ?_)
    · refine G_iload (pc := 45) 3 dX9_nearestTo_45 rfl ?_
      refine G_iret (pc := 47) dX9_nearestTo_47 ⟨_, rfl, rfl⟩ ⟨by decide, by decide⟩ ?_
      exact hQ
    · exact absurd (by rw [h4]; exact Int32.le_refl _) h12
  | succ d ih =>
    intro k hk
    have hle := nrT_le (i (a + 1)) (i (a + 2)) u v k
    refine G_iload (pc := 6) 4 dX9_nearestTo_6 rfl ?_
    refine G_aload_n (pc := 8) 0 dX9_nearestTo_8 rfl ?_
    refine G_getI (pc := 9) dX9_nearestTo_9 fX9_24 (by assumption) ?_
    refine G_icmp_ge (pc := 12) (tgt := 45) dX9_nearestTo_12 (by decide) (fun h12 => ?_) (fun h12 => ?_)
    · exact absurd h12 (by rw [h4]; exact nI_ge (by omega) (by omega))
    · refine G_aload_n (pc := 15) 0 dX9_nearestTo_15 rfl ?_
      refine G_iload (pc := 16) 4 dX9_nearestTo_16 rfl ?_
      refine G_lload_n (pc := 18) 1 dX9_nearestTo_18 rfl ?_
      refine G_lload_n (pc := 19) 2 dX9_nearestTo_19 rfl ?_
      refine gV3 (pc := 20) (k' := 0) (n' := 0) dX9_nearestTo_20 lkX9_69 ⟨by decide, by decide⟩ (Nat.le_of_ble_eq_true rfl) rfl rfl ⟨by decide, by decide⟩ (by assumption) (c_X9_squaresTo hL2 h4 hn (by omega) ?_)
      dsimp only [gRt]
      refine G_aload_n (pc := 23) 0 dX9_nearestTo_23 rfl ?_
      refine G_iload (pc := 24) 3 dX9_nearestTo_24 rfl ?_
      refine G_lload_n (pc := 26) 1 dX9_nearestTo_26 rfl ?_
      refine G_lload_n (pc := 27) 2 dX9_nearestTo_27 rfl ?_
      refine gV3 (pc := 28) (k' := 0) (n' := 0) dX9_nearestTo_28 lkX9_69 ⟨by decide, by decide⟩ (Nat.le_of_ble_eq_true rfl) rfl rfl ⟨by decide, by decide⟩ (by assumption) (c_X9_squaresTo hL2 h4 hn (by omega) ?_)
      dsimp only [gRt]
      refine G_lif_ge (pc := 31) (tgt := 39) dX9_nearestTo_31 dX9_nearestTo_32 (by decide) (fun h31 => ?_) (fun h31 => ?_)
      · refine G_inc4 (pc := 39) (v := 1) dX9_nearestTo_39 rfl (by decide) rfl ?_
        refine G_goto (pc := 42) (tgt := 6) dX9_nearestTo_42 (by decide) ?_
        rw [nI_1]
        have e : nrT (i (a + 1)) (i (a + 2)) u v (k + 1) = nrT (i (a + 1)) (i (a + 2)) u v k := by rw [nrT, if_neg (Int64.not_lt.mpr h31)]
        rw [← e]
        exact ih (k + 1) (by omega)
      · refine G_iload (pc := 35) 4 dX9_nearestTo_35 rfl ?_
        refine G_st3 (pc := 37) (gSt_i dX9_nearestTo_37 (by decide)) rfl ?_
        refine G_inc4 (pc := 39) (v := 1) dX9_nearestTo_39 rfl (by decide) rfl ?_
        refine G_goto (pc := 42) (tgt := 6) dX9_nearestTo_42 (by decide) ?_
        rw [nI_1]
        have e : nrT (i (a + 1)) (i (a + 2)) u v (k + 1) = k + 1 := by rw [nrT, if_pos (Int64.not_le.mp h31)]
        rw [show nI (k + 1) = nI (nrT (i (a + 1)) (i (a + 2)) u v (k + 1)) by rw [e]]
        have ih2 := ih (k + 1) (by omega)
        rw [e] at ih2 ⊢
        exact ih2
set_option maxRecDepth 100000 in
set_option maxHeartbeats 4000000 in
theorem c_X9_nearestTo {Γ : gG} {T : gTy} {r : gR} {l : gLg} {i : gI} {Q : gQ} {a n : Nat} {u v : Int64} (hL : lyW T r a) (h4 : i a 4 = nI (n + 1)) (hn : n + 1 ≤ 40) (hQ : Q (some (.int (nI (nrT (i (a + 1)) (i (a + 2)) u v n)))) T r l i) : gC Γ MX9_nearestTo [.ref a, .long u, .long v] T r l i Q := by
  refine gC_of rfl (Nat.le_of_ble_eq_true rfl) (L := [(0, .ref a), (1, .long u), (3, .long v)]) rfl ?_
  refine G_iconst (pc := 0) (v := 0) dX9_nearestTo_0 rfl ?_
  refine G_sn3 (pc := 1) (gSt_i dX9_nearestTo_1 (by decide)) rfl ?_
  refine G_iconst (pc := 3) (v := 1) dX9_nearestTo_3 rfl ?_
  refine G_sn4 (pc := 4) (gSt_i dX9_nearestTo_4 (by decide)) rfl ?_
  exact lp_X9_nearestTo hL h4 hn hQ n 0 (Nat.zero_add n)
def stW (i : gI) (a : Nat) (s p m w : Int32) : gI := up2 (up2 (up2 (up2 (up2 (up2 i a 4 0) a 5 s) a 6 p) a 7 0) a 8 m) a 9 w
def apW (i : gI) (a n : Nat) (x y z k : Int32) : gI := up2 (up2 (up2 (up2 (up2 i (a + 1) n x) (a + 2) n y) (a + 3) n z) (a + 4) n k) a 4 (nI (n + 1))
set_option maxRecDepth 100000 in
set_option maxHeartbeats 4000000 in
theorem c_X9_start {Γ : gG} {T : gTy} {r : gR} {l : gLg} {i : gI} {Q : gQ} {a : Nat} {s p m w : Int32} (hk : (T.2 a).1 = 9) (hA : gN Γ ≤ a) (hQ : Q none T r l (stW i a s p m w))  : gC Γ MX9_start [.ref a, .int s, .int p, .int m, .int w] T r l i Q := by
  refine gC_of rfl (Nat.le_of_ble_eq_true rfl) (L := [(0, .ref a), (1, .int s), (2, .int p), (3, .int m), (4, .int w)]) rfl ?_
  refine G_aload_n (pc := 0) 0 dX9_start_0 rfl ?_
  refine G_iconst (pc := 1) (v := 0) dX9_start_1 rfl ?_
  refine G_putI (pc := 2) dX9_start_2 fX9_24 (by assumption) rfl rfl (by first | assumption | omega) ?_
  refine G_aload_n (pc := 5) 0 dX9_start_5 rfl ?_
  refine G_iload_n (pc := 6) 1 dX9_start_6 rfl ?_
  refine G_putI (pc := 7) dX9_start_7 fX9_28 (by assumption) rfl rfl (by first | assumption | omega) ?_
  refine G_aload_n (pc := 10) 0 dX9_start_10 rfl ?_
  refine G_iload_n (pc := 11) 2 dX9_start_11 rfl ?_
  refine G_putI (pc := 12) dX9_start_12 fX9_31 (by assumption) rfl rfl (by first | assumption | omega) ?_
  refine G_aload_n (pc := 15) 0 dX9_start_15 rfl ?_
  refine G_iconst (pc := 16) (v := 0) dX9_start_16 rfl ?_
  refine G_putI (pc := 17) dX9_start_17 fX9_34 (by assumption) rfl rfl (by first | assumption | omega) ?_
  refine G_aload_n (pc := 20) 0 dX9_start_20 rfl ?_
  refine G_iload_n (pc := 21) 3 dX9_start_21 rfl ?_
  refine G_putI (pc := 22) dX9_start_22 fX9_38 (by assumption) rfl rfl (by first | assumption | omega) ?_
  refine G_aload_n (pc := 25) 0 dX9_start_25 rfl ?_
  refine G_iload (pc := 26) 4 dX9_start_26 rfl ?_
  refine G_putI (pc := 28) dX9_start_28 fX9_41 (by assumption) rfl rfl (by first | assumption | omega) ?_
  refine G_vret (pc := 31) dX9_start_31 rfl ⟨by decide, by decide⟩ ?_
  exact hQ
set_option maxRecDepth 100000 in
set_option maxHeartbeats 4000000 in
theorem c_X9_addPlace {Γ : gG} {T : gTy} {r : gR} {l : gLg} {i : gI} {Q : gQ} {a c n : Nat} {k : Int32} (hL : lyW T r a) (hA : gN Γ ≤ a) (hc0 : (T.2 c).1 = 0) (hc : c < a ∨ a + 5 ≤ c) (h4 : i a 4 = nI n) (hn : n < 40) (hQ : Q none T r l (apW i a n (i c 1) (i c 2) (i c 3) k)) : gC Γ MX9_addPlace [.ref a, .ref c, .int k] T r l i Q := by
  obtain ⟨w0, w1, w2, w3, w4, w5, w6, w7, w8⟩ := hL
  refine gC_of rfl (Nat.le_of_ble_eq_true rfl) (L := [(0, .ref a), (1, .ref c), (2, .int k)]) rfl ?_
  refine G_aload_n (pc := 0) 0 dX9_addPlace_0 rfl ?_
  refine G_getI (pc := 1) dX9_addPlace_1 fX9_24 (by assumption) ?_
  refine G_bipush (pc := 4) (v := 40) dX9_addPlace_4 rfl ?_
  refine G_icmp_lt (pc := 6) (tgt := 10) dX9_addPlace_6 (by decide) (fun h6 => ?_) (fun h6 => ?_)
  · refine G_aload_n (pc := 10) 0 dX9_addPlace_10 rfl ?_
    refine G_getR (pc := 11) dX9_addPlace_11 fX9_9 (by assumption) (by assumption) ?_
    refine G_aload_n (pc := 14) 0 dX9_addPlace_14 rfl ?_
    refine G_getI (pc := 15) dX9_addPlace_15 fX9_24 (by assumption) ?_
    refine G_aload_n (pc := 18) 1 dX9_addPlace_18 rfl ?_
    refine G_getI (pc := 19) dX9_addPlace_19 fX9_44 (by assumption) ?_
    refine G_iastJ (pc := 22) (j := n) dX9_addPlace_22 (by assumption) h4 (by first | assumption | omega) (by decide) (by first | assumption | omega) ?_
    refine G_aload_n (pc := 23) 0 dX9_addPlace_23 rfl ?_
    refine G_getR (pc := 24) dX9_addPlace_24 fX9_15 (by assumption) (by assumption) ?_
    refine G_aload_n (pc := 27) 0 dX9_addPlace_27 rfl ?_
    refine G_getI (pc := 28) dX9_addPlace_28 fX9_24 (by assumption) ?_
    refine G_aload_n (pc := 31) 1 dX9_addPlace_31 rfl ?_
    simp (disch := omega) only [up2_ne, up2_row, up2_self]
    refine G_getI (pc := 32) dX9_addPlace_32 fX9_49 (by assumption) ?_
    simp (disch := omega) only [up2_ne, up2_row, up2_self]
    refine G_iastJ (pc := 35) (j := n) dX9_addPlace_35 (by assumption) h4 (by first | assumption | omega) (by decide) (by first | assumption | omega) ?_
    refine G_aload_n (pc := 36) 0 dX9_addPlace_36 rfl ?_
    refine G_getR (pc := 37) dX9_addPlace_37 fX9_18 (by assumption) (by assumption) ?_
    refine G_aload_n (pc := 40) 0 dX9_addPlace_40 rfl ?_
    refine G_getI (pc := 41) dX9_addPlace_41 fX9_24 (by assumption) ?_
    refine G_aload_n (pc := 44) 1 dX9_addPlace_44 rfl ?_
    simp (disch := omega) only [up2_ne, up2_row, up2_self]
    refine G_getI (pc := 45) dX9_addPlace_45 fX9_52 (by assumption) ?_
    simp (disch := omega) only [up2_ne, up2_row, up2_self]
    refine G_iastJ (pc := 48) (j := n) dX9_addPlace_48 (by assumption) h4 (by first | assumption | omega) (by decide) (by first | assumption | omega) ?_
    refine G_aload_n (pc := 49) 0 dX9_addPlace_49 rfl ?_
    refine G_getR (pc := 50) dX9_addPlace_50 fX9_21 (by assumption) (by assumption) ?_
    refine G_aload_n (pc := 53) 0 dX9_addPlace_53 rfl ?_
    refine G_getI (pc := 54) dX9_addPlace_54 fX9_24 (by assumption) ?_
    refine G_iload_n (pc := 57) 2 dX9_addPlace_57 rfl ?_
    simp (disch := omega) only [up2_ne, up2_row, up2_self]
    refine G_iastJ (pc := 58) (j := n) dX9_addPlace_58 (by assumption) h4 (by first | assumption | omega) (by decide) (by first | assumption | omega) ?_
    refine G_aload_n (pc := 59) 0 dX9_addPlace_59 rfl ?_
    refine G_dup (pc := 60) dX9_addPlace_60 rfl ?_
    refine G_getI (pc := 61) dX9_addPlace_61 fX9_24 (by assumption) ?_
    refine G_iconst (pc := 64) (v := 1) dX9_addPlace_64 rfl ?_
    simp (disch := omega) only [up2_ne, up2_row, up2_self]
    rw [h4]
    refine G_iadd (pc := 65) dX9_addPlace_65 ?_
    rw [nI_1]
    refine G_putI (pc := 66) dX9_addPlace_66 fX9_24 (by assumption) rfl rfl (by first | assumption | omega) ?_
    refine G_vret (pc := 69) dX9_addPlace_69 rfl ⟨by decide, by decide⟩ ?_
    exact hQ
  · exact absurd (by rw [h4]; exact nI_lt hn (by decide)) h6
/-- the copy so far: k places of b's rows lie in a's -/
def cpW (i i' : gI) (a b k : Nat) : Prop := frR a (a + 5) i i' ∧ (∀ j, j < 6 → i' a (4 + j) = i b (4 + j)) ∧ ∀ p, p < k → ∀ c, c < 4 → i' (a + 1 + c) p = i (b + 1 + c) p
theorem cpW.step {i i' : gI} {a b k : Nat} (h : cpW i i' a b k) : cpW i (up2 (up2 (up2 (up2 i' (a + 1) k (i (b + 1) k)) (a + 2) k (i (b + 2) k)) (a + 3) k (i (b + 3) k)) (a + 4) k (i (b + 4) k)) a b (k + 1) := by
  obtain ⟨h1, h2, h3⟩ := h
  refine ⟨(((h1.put (by omega) (by omega)).put (by omega) (by omega)).put (by omega) (by omega)).put (by omega) (by omega), fun j hj => ?_, fun p hp c hc => ?_⟩
  · simp (disch := omega) only [up2_ne]
    exact h2 j hj
  · rcases (show c = 0 ∨ c = 1 ∨ c = 2 ∨ c = 3 by omega) with rfl | rfl | rfl | rfl <;> (by_cases hpk : p = k)
    · subst hpk; simp (disch := omega) only [Nat.add_zero, up2_ne, up2_self]
    · have h9 := h3 p (by omega) 0 (by omega)
      simp (disch := omega) only [Nat.add_zero, up2_ne, up2_row] at h9 ⊢; exact h9
    · subst hpk; show up2 _ (a + 4) _ _ (a + 2) _ = i (b + 2) _; simp (disch := omega) only [up2_ne, up2_self]
    · have h9 := h3 p (by omega) 1 (by omega)
      show up2 _ (a + 4) _ _ (a + 2) _ = i (b + 2) _; simp (disch := omega) only [up2_ne, up2_row]; exact h9
    · subst hpk; show up2 _ (a + 4) _ _ (a + 3) _ = i (b + 3) _; simp (disch := omega) only [up2_ne, up2_self]
    · have h9 := h3 p (by omega) 2 (by omega)
      show up2 _ (a + 4) _ _ (a + 3) _ = i (b + 3) _; simp (disch := omega) only [up2_ne, up2_row]; exact h9
    · subst hpk; show up2 _ (a + 4) _ _ (a + 4) _ = i (b + 4) _; simp (disch := omega) only [up2_self]
    · have h9 := h3 p (by omega) 3 (by omega)
      show up2 _ (a + 4) _ _ (a + 4) _ = i (b + 4) _; simp (disch := omega) only [up2_ne, up2_row]; exact h9
theorem cpW.rp {i i' : gI} {a b w n : Nat} {s : Nat → Int32} (h : cpW i i' a b n) (hb : rpW i b s w n) : rpW i' a s w n := by
  obtain ⟨h1, h2, h3⟩ := h
  obtain ⟨g1, g2, g3, g4, g5⟩ := hb
  exact ⟨g1, (h2 0 (by omega)).trans g2, fun j hj => (h2 j hj).trans (g3 j hj), fun p hp c hc => (h3 p hp c hc).trans (g4 p hp c hc), g5⟩
set_option maxRecDepth 100000 in
set_option maxHeartbeats 4000000 in
theorem lp_X9_copyFrom {Γ : gG} {T : gTy} {r : gR} {l : gLg} {i : gI} {Q : gQ} {a b n : Nat} (hL : lyW T r a) (hB : lyW T r b) (hA : gN Γ ≤ a) (hab : a + 5 ≤ b ∨ b + 5 ≤ a) (h4 : i b 4 = nI n) (hn : n ≤ 40) (hQ : ∀ i', cpW i i' a b n → Q none T r l i') : ∀ d k i1, k + d = n → cpW i i1 a b k → G Γ MX9_copyFrom 0 0 38 [(0, .ref a), (1, .ref b), (2, .int (nI k))] [] T r l i1 Q := by
  obtain ⟨w0, w1, w2, w3, w4, w5, w6, w7, w8⟩ := hL
  obtain ⟨b0, b1, b2, b3, b4, b5, b6, b7, b8⟩ := hB
  intro d
  induction d with
  | zero =>
    intro k i1 hk hi
    have hkn : k = n := by omega
    rw [hkn] at hi ⊢
    have e4 : i1 a 4 = nI n := (hi.2.1 0 (by omega)).trans h4
    refine G_iload_n (pc := 38) 2 dX9_copyFrom_38 rfl ?_
    refine G_aload_n (pc := 39) 0 dX9_copyFrom_39 rfl ?_
    refine G_getI (pc := 40) dX9_copyFrom_40 fX9_24 (by assumption) ?_
    refine G_icmp_ge (pc := 43) (tgt := 100) dX9_copyFrom_43 (by decide) (fun h43 => ?_) (fun h43 => ?_)
    · refine G_vret (pc := 100) dX9_copyFrom_100 rfl ⟨by decide, by decide⟩ ?_
      exact hQ _ hi
    · exact absurd (by rw [e4]; exact Int32.le_refl _) h43
  | succ d ih =>
    intro k i1 hk hi
    have e4 : i1 a 4 = nI n := (hi.2.1 0 (by omega)).trans h4
    have r0 : i1 (b + 1) = i (b + 1) := hi.1 (b + 1) (by omega)
    have r1 : i1 (b + 2) = i (b + 2) := hi.1 (b + 2) (by omega)
    have r2 : i1 (b + 3) = i (b + 3) := hi.1 (b + 3) (by omega)
    have r3 : i1 (b + 4) = i (b + 4) := hi.1 (b + 4) (by omega)
    refine G_iload_n (pc := 38) 2 dX9_copyFrom_38 rfl ?_
    refine G_aload_n (pc := 39) 0 dX9_copyFrom_39 rfl ?_
    refine G_getI (pc := 40) dX9_copyFrom_40 fX9_24 (by assumption) ?_
    refine G_icmp_ge (pc := 43) (tgt := 100) dX9_copyFrom_43 (by decide) (fun h43 => ?_) (fun h43 => ?_)
    · exact absurd h43 (by rw [e4]; exact nI_ge (by omega) (by omega))
    · refine G_aload_n (pc := 46) 0 dX9_copyFrom_46 rfl ?_
      refine G_getR (pc := 47) dX9_copyFrom_47 fX9_9 (by assumption) (by assumption) ?_
      refine G_iload_n (pc := 50) 2 dX9_copyFrom_50 rfl ?_
      refine G_aload_n (pc := 51) 1 dX9_copyFrom_51 rfl ?_
      refine G_getR (pc := 52) dX9_copyFrom_52 fX9_9 (by assumption) (by assumption) ?_
      refine G_iload_n (pc := 55) 2 dX9_copyFrom_55 rfl ?_
      refine G_ialdJ (pc := 56) dX9_copyFrom_56 (by assumption) rfl (by first | assumption | omega) (by decide) ?_
      rw [r0]
      refine G_iastJ (pc := 57) dX9_copyFrom_57 (by assumption) rfl (by first | assumption | omega) (by decide) (by first | assumption | omega) ?_
      refine G_aload_n (pc := 58) 0 dX9_copyFrom_58 rfl ?_
      refine G_getR (pc := 59) dX9_copyFrom_59 fX9_15 (by assumption) (by assumption) ?_
      refine G_iload_n (pc := 62) 2 dX9_copyFrom_62 rfl ?_
      refine G_aload_n (pc := 63) 1 dX9_copyFrom_63 rfl ?_
      refine G_getR (pc := 64) dX9_copyFrom_64 fX9_15 (by assumption) (by assumption) ?_
      refine G_iload_n (pc := 67) 2 dX9_copyFrom_67 rfl ?_
      refine G_ialdJ (pc := 68) dX9_copyFrom_68 (by assumption) rfl (by first | assumption | omega) (by decide) ?_
      simp (disch := omega) only [up2_ne, up2_row, up2_self]
      rw [r1]
      refine G_iastJ (pc := 69) dX9_copyFrom_69 (by assumption) rfl (by first | assumption | omega) (by decide) (by first | assumption | omega) ?_
      refine G_aload_n (pc := 70) 0 dX9_copyFrom_70 rfl ?_
      refine G_getR (pc := 71) dX9_copyFrom_71 fX9_18 (by assumption) (by assumption) ?_
      refine G_iload_n (pc := 74) 2 dX9_copyFrom_74 rfl ?_
      refine G_aload_n (pc := 75) 1 dX9_copyFrom_75 rfl ?_
      refine G_getR (pc := 76) dX9_copyFrom_76 fX9_18 (by assumption) (by assumption) ?_
      refine G_iload_n (pc := 79) 2 dX9_copyFrom_79 rfl ?_
      refine G_ialdJ (pc := 80) dX9_copyFrom_80 (by assumption) rfl (by first | assumption | omega) (by decide) ?_
      simp (disch := omega) only [up2_ne, up2_row, up2_self]
      rw [r2]
      refine G_iastJ (pc := 81) dX9_copyFrom_81 (by assumption) rfl (by first | assumption | omega) (by decide) (by first | assumption | omega) ?_
      refine G_aload_n (pc := 82) 0 dX9_copyFrom_82 rfl ?_
      refine G_getR (pc := 83) dX9_copyFrom_83 fX9_21 (by assumption) (by assumption) ?_
      refine G_iload_n (pc := 86) 2 dX9_copyFrom_86 rfl ?_
      refine G_aload_n (pc := 87) 1 dX9_copyFrom_87 rfl ?_
      refine G_getR (pc := 88) dX9_copyFrom_88 fX9_21 (by assumption) (by assumption) ?_
      refine G_iload_n (pc := 91) 2 dX9_copyFrom_91 rfl ?_
      refine G_ialdJ (pc := 92) dX9_copyFrom_92 (by assumption) rfl (by first | assumption | omega) (by decide) ?_
      simp (disch := omega) only [up2_ne, up2_row, up2_self]
      rw [r3]
      refine G_iastJ (pc := 93) dX9_copyFrom_93 (by assumption) rfl (by first | assumption | omega) (by decide) (by first | assumption | omega) ?_
      refine G_inc2 (pc := 94) (v := 1) dX9_copyFrom_94 rfl (by decide) rfl ?_
      refine G_goto (pc := 97) (tgt := 38) dX9_copyFrom_97 (by decide) ?_
      rw [nI_1]
      exact ih (k + 1) _ (by omega) hi.step
theorem cpW.base {i : gI} {a b : Nat} (hab : a + 5 ≤ b ∨ b + 5 ≤ a) : cpW i (up2 (up2 (stW i a (i b 5) (i b 6) (i b 8) (i b 9)) a 7 (i b 7)) a 4 (i b 4)) a b 0 := by
  refine ⟨fun c hc => ?_, fun j hj => ?_, fun p hp => absurd hp (by omega)⟩
  · unfold stW; simp (disch := omega) only [up2_ne]
  · unfold stW
    rcases (show j = 0 ∨ j = 1 ∨ j = 2 ∨ j = 3 ∨ j = 4 ∨ j = 5 by omega) with rfl | rfl | rfl | rfl | rfl | rfl <;> simp (disch := omega) only [Nat.add_zero, Nat.reduceAdd, up2_ne, up2_row, up2_self]
set_option maxRecDepth 100000 in
set_option maxHeartbeats 4000000 in
theorem c_X9_copyFrom {Γ : gG} {T : gTy} {r : gR} {l : gLg} {i : gI} {Q : gQ} {a b n : Nat} (hL : lyW T r a) (hB : lyW T r b) (hA : gN Γ ≤ a) (hab : a + 5 ≤ b ∨ b + 5 ≤ a) (h4 : i b 4 = nI n) (hn : n ≤ 40) (h7 : i b 7 = 0 ∨ i b 7 = 1) (hQ : ∀ i', cpW i i' a b n → Q none T r l i') : gC Γ MX9_copyFrom [.ref a, .ref b] T r l i Q := by
  have hL2 := hL
  have hB2 := hB
  obtain ⟨w0, w1, w2, w3, w4, w5, w6, w7, w8⟩ := hL
  obtain ⟨b0, b1, b2, b3, b4, b5, b6, b7, b8⟩ := hB
  refine gC_of rfl (Nat.le_of_ble_eq_true rfl) (L := [(0, .ref a), (1, .ref b)]) rfl ?_
  refine G_aload_n (pc := 0) 0 dX9_copyFrom_0 rfl ?_
  refine G_aload_n (pc := 1) 1 dX9_copyFrom_1 rfl ?_
  refine G_getI (pc := 2) dX9_copyFrom_2 fX9_28 (by assumption) ?_
  refine G_aload_n (pc := 5) 1 dX9_copyFrom_5 rfl ?_
  refine G_getI (pc := 6) dX9_copyFrom_6 fX9_31 (by assumption) ?_
  refine G_aload_n (pc := 9) 1 dX9_copyFrom_9 rfl ?_
  refine G_getI (pc := 10) dX9_copyFrom_10 fX9_38 (by assumption) ?_
  refine G_aload_n (pc := 13) 1 dX9_copyFrom_13 rfl ?_
  refine G_getI (pc := 14) dX9_copyFrom_14 fX9_41 (by assumption) ?_
  refine gV4 (pc := 17) (k' := 0) (n' := 0) dX9_copyFrom_17 lkX9_73 ⟨by decide, by decide⟩ (Nat.le_of_ble_eq_true rfl) rfl rfl ⟨by decide, by decide⟩ (by assumption) (c_X9_start w0 hA ?_)
  dsimp only [gRt]
  refine G_aload_n (pc := 20) 0 dX9_copyFrom_20 rfl ?_
  refine G_aload_n (pc := 21) 1 dX9_copyFrom_21 rfl ?_
  refine G_getI (pc := 22) dX9_copyFrom_22 fX9_34 (by assumption) ?_
  have e7 : stW i a (i b 5) (i b 6) (i b 8) (i b 9) b = i b := by unfold stW; simp (disch := omega) only [up2_ne]
  rw [e7]
  refine G_putI (pc := 25) dX9_copyFrom_25 fX9_34 (by assumption) (by rcases h7 with h | h <;> rw [h] <;> rfl) (by rcases h7 with h | h <;> rw [h] <;> rfl) (by first | assumption | omega) ?_
  refine G_aload_n (pc := 28) 0 dX9_copyFrom_28 rfl ?_
  refine G_aload_n (pc := 29) 1 dX9_copyFrom_29 rfl ?_
  refine G_getI (pc := 30) dX9_copyFrom_30 fX9_24 (by assumption) ?_
  rw [up2_ne (by omega), e7]
  refine G_putI (pc := 33) dX9_copyFrom_33 fX9_24 (by assumption) rfl rfl (by first | assumption | omega) ?_
  refine G_iconst (pc := 36) (v := 0) dX9_copyFrom_36 rfl ?_
  refine G_sn2 (pc := 37) (gSt_in dX9_copyFrom_37 rfl (by decide)) rfl ?_
  exact lp_X9_copyFrom hL2 hB2 hA hab h4 hn hQ n 0 _ (Nat.zero_add n) (cpW.base hab)
