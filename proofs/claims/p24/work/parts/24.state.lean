/-! Terms' writes, Settings, Walks, State -/
def rpT (i : gI) (a : Nat) (s : Nat → Int32) (n : Nat) : Prop := n ≤ 6 ∧ i a 3 = nI n ∧ s 0 = nI n ∧ ∀ k, k < n → ∀ c, c < 3 → i (a + 1 + c) k = s (5 + 3 * k + c)
theorem rpT.kept {i i' : gI} {a n : Nat} {s : Nat → Int32} (h : rpT i a s n) (hf : ∀ b, a ≤ b → b < a + 4 → i' b = i b) : rpT i' a s n := by
  obtain ⟨h1, h2, h3, h4⟩ := h
  exact ⟨h1, by rw [hf a (by omega) (by omega)]; exact h2, h3, fun k hk c hc => by rw [hf (a + 1 + c) (by omega) (by omega)]; exact h4 k hk c hc⟩
theorem rpT.flat {i : gI} {a n : Nat} {s s' : Nat → Int32} (h : rpT i a s n) (h0 : s' 0 = s 0) (hf : ∀ j, 5 ≤ j → j < 23 → s' j = s j) : rpT i a s' n := by
  obtain ⟨h1, h2, h3, h4⟩ := h
  exact ⟨h1, h2, h0.trans h3, fun k hk c hc => by rw [hf _ (by omega) (by omega)]; exact h4 k hk c hc⟩
def rpS (i : gI) (a : Nat) (s : Nat → Int32) : Prop := ∀ c, c < 3 → i (a + 1) c = s (2 + c)
theorem rpS.kept {i i' : gI} {a : Nat} {s : Nat → Int32} (h : rpS i a s) (hf : i' (a + 1) = i (a + 1)) : rpS i' a s := fun c hc => by rw [hf]; exact h c hc
def lyWs (T : gTy) (r : gR) (a : Nat) (w : Nat → Nat) : Prop := (T.2 a).1 = 10 ∧ r a 0 = some (a + 1) ∧ r a 1 = some (a + 2) ∧ r a 2 = some (a + 3) ∧ T.2 (a + 1) = (16, 5) ∧ T.2 (a + 2) = (14, 5) ∧ T.2 (a + 3) = (13, 5) ∧ (∀ k, k < 5 → r (a + 1) k = some (w k) ∧ lyW T r (w k) ∧ a + 4 ≤ w k ∧ w k + 5 ≤ a + 29) ∧ ∀ k j, k < 5 → j < 5 → k ≠ j → w k + 5 ≤ w j ∨ w j + 5 ≤ w k
def rpWs (i : gI) (w : Nat → Nat) (s : Nat → Int32) (a m : Nat) : Prop := m ≤ 5 ∧ i a 3 = nI m ∧ s 1 = nI m ∧ ∀ k, k < m → ∃ n, rpW i (w k) s (23 + 166 * k) n
theorem rpWs.kept {T : gTy} {r : gR} {i i' : gI} {w : Nat → Nat} {s : Nat → Int32} {a m : Nat} (h : rpWs i w s a m) (hl : lyWs T r a w) (hf : ∀ b, a ≤ b → b < a + 29 → i' b = i b) : rpWs i' w s a m := by
  obtain ⟨h1, h2, h3, h4⟩ := h
  refine ⟨h1, by rw [hf a (by omega) (by omega)]; exact h2, h3, fun k hk => ?_⟩
  obtain ⟨n, hn⟩ := h4 k hk
  obtain ⟨-, -, g1, g2⟩ := hl.2.2.2.2.2.2.2.1 k (by omega)
  exact ⟨n, hn.kept (fun b hb1 hb2 => hf b (by omega) (by omega))⟩
def gSumI (f : Nat → Int32) : Nat → Int32
  | 0 => 0
  | k + 1 => gSumI f k + f k
theorem gSumI_c {f g : Nat → Int32} : ∀ n, (∀ k, k < n → f k = g k) → gSumI f n = gSumI g n
  | 0, _ => rfl
  | n + 1, h => by rw [gSumI, gSumI, gSumI_c n (fun k hk => h k (by omega)), h n (by omega)]
def adT (i : gI) (a n : Nat) (f x y : Int32) : gI := up2 (up2 (up2 (up2 i (a + 1) n f) (a + 2) n x) (a + 3) n y) a 3 (nI (n + 1))
theorem adT_fr {i : gI} {a n : Nat} {f x y : Int32} : frR a (a + 4) i (adT i a n f x y) := (((frR.rf.put (by omega) (by omega)).put (by omega) (by omega)).put (by omega) (by omega)).put (by omega) (by omega)
theorem adT_rp {i : gI} {a n : Nat} {f x y : Int32} {s s' : Nat → Int32} (h : rpT i a s n) (hn : n < 6) (h0 : s' 0 = nI (n + 1)) (hs : ∀ j, 5 ≤ j → j < 5 + 3 * n → s' j = s j) (e0 : s' (5 + 3 * n) = f) (e1 : s' (5 + 3 * n + 1) = x) (e2 : s' (5 + 3 * n + 2) = y) : rpT (adT i a n f x y) a s' (n + 1) := by
  obtain ⟨h1, h2, h3, h4⟩ := h
  refine ⟨by omega, by unfold adT; rw [up2_self], h0, fun k hk c hc => ?_⟩
  by_cases hkn : k = n
  · subst hkn
    rcases (show c = 0 ∨ c = 1 ∨ c = 2 by omega) with rfl | rfl | rfl
    · show adT i a k f x y (a + 1) k = s' (5 + 3 * k); unfold adT; simp (disch := omega) only [up2_ne, up2_self]; exact e0.symm
    · show adT i a k f x y (a + 2) k = s' (5 + 3 * k + 1); unfold adT; simp (disch := omega) only [up2_ne, up2_self]; exact e1.symm
    · show adT i a k f x y (a + 3) k = s' (5 + 3 * k + 2); unfold adT; simp (disch := omega) only [up2_ne, up2_self]; exact e2.symm
  · have h9 := h4 k (by omega) c hc
    rw [hs _ (by omega) (by omega), ← h9]
    rcases (show c = 0 ∨ c = 1 ∨ c = 2 by omega) with rfl | rfl | rfl
    · show adT i a n f x y (a + 1) k = i (a + 1) k; unfold adT; simp (disch := omega) only [up2_ne, up2_row]
    · show adT i a n f x y (a + 2) k = i (a + 2) k; unfold adT; simp (disch := omega) only [up2_ne, up2_row]
    · show adT i a n f x y (a + 3) k = i (a + 3) k; unfold adT; simp (disch := omega) only [up2_ne, up2_row]
set_option maxRecDepth 100000 in
set_option maxHeartbeats 4000000 in
theorem c_X7_add {Γ : gG} {T : gTy} {r : gR} {l : gLg} {i : gI} {Q : gQ} {a n : Nat} {f x y : Int32} (hL : lyT T r a) (hA : gN Γ ≤ a) (h3 : i a 3 = nI n) (hn : n < 6) (hQ : Q none T r l (adT i a n f x y)) : gC Γ MX7_add [.ref a, .int f, .int x, .int y] T r l i Q := by
  obtain ⟨t0, t1, t2, t3, t4, t5, t6⟩ := hL
  refine gC_of rfl (Nat.le_of_ble_eq_true rfl) (L := [(0, .ref a), (1, .int f), (2, .int x), (3, .int y)]) rfl ?_
  refine G_aload_n (pc := 0) 0 dX7_add_0 rfl ?_
  refine gV0 (pc := 1) (k' := 0) (n' := 0) dX7_add_1 lkX7_25 ⟨by decide, by decide⟩ (Nat.le_of_ble_eq_true rfl) rfl rfl ⟨by decide, by decide⟩ (by assumption) (c_X7_isFull (by assumption) ?_)
  dsimp only [gRt]
  refine G_if_eq (pc := 4) (tgt := 8) dX7_add_4 (by decide) (fun h4 => ?_) (fun h4 => ?_)
  · refine G_aload_n (pc := 8) 0 dX7_add_8 rfl ?_
    refine G_getR (pc := 9) dX7_add_9 fX7_9 (by assumption) (by assumption) ?_
    refine G_aload_n (pc := 12) 0 dX7_add_12 rfl ?_
    refine G_getI (pc := 13) dX7_add_13 fX7_21 (by assumption) ?_
    refine G_iload_n (pc := 16) 1 dX7_add_16 rfl ?_
    refine G_iastJ (pc := 17) (j := n) dX7_add_17 (by assumption) h3 (by first | assumption | omega) (by decide) (by first | assumption | omega) ?_
    refine G_aload_n (pc := 18) 0 dX7_add_18 rfl ?_
    refine G_getR (pc := 19) dX7_add_19 fX7_15 (by assumption) (by assumption) ?_
    refine G_aload_n (pc := 22) 0 dX7_add_22 rfl ?_
    refine G_getI (pc := 23) dX7_add_23 fX7_21 (by assumption) ?_
    refine G_iload_n (pc := 26) 2 dX7_add_26 rfl ?_
    simp (disch := omega) only [up2_ne, up2_row, up2_self]
    refine G_iastJ (pc := 27) (j := n) dX7_add_27 (by assumption) h3 (by first | assumption | omega) (by decide) (by first | assumption | omega) ?_
    refine G_aload_n (pc := 28) 0 dX7_add_28 rfl ?_
    refine G_getR (pc := 29) dX7_add_29 fX7_18 (by assumption) (by assumption) ?_
    refine G_aload_n (pc := 32) 0 dX7_add_32 rfl ?_
    refine G_getI (pc := 33) dX7_add_33 fX7_21 (by assumption) ?_
    refine G_iload_n (pc := 36) 3 dX7_add_36 rfl ?_
    simp (disch := omega) only [up2_ne, up2_row, up2_self]
    refine G_iastJ (pc := 37) (j := n) dX7_add_37 (by assumption) h3 (by first | assumption | omega) (by decide) (by first | assumption | omega) ?_
    refine G_aload_n (pc := 38) 0 dX7_add_38 rfl ?_
    refine G_dup (pc := 39) dX7_add_39 rfl ?_
    refine G_getI (pc := 40) dX7_add_40 fX7_21 (by assumption) ?_
    refine G_iconst (pc := 43) (v := 1) dX7_add_43 rfl ?_
    simp (disch := omega) only [up2_ne, up2_row, up2_self]
    rw [h3]
    refine G_iadd (pc := 44) dX7_add_44 ?_
    rw [nI_1]
    refine G_putI (pc := 45) dX7_add_45 fX7_21 (by assumption) rfl rfl (by first | assumption | omega) ?_
    refine G_vret (pc := 48) dX7_add_48 rfl ⟨by decide, by decide⟩ ?_
    exact hQ
  · exact absurd (show i a 3 < 6 by rw [h3]; exact nI_lt hn (by decide)) (gB_ne.mp h4)
set_option maxRecDepth 100000 in
set_option maxHeartbeats 4000000 in
theorem c_X7_clear {Γ : gG} {T : gTy} {r : gR} {l : gLg} {i : gI} {Q : gQ} {a : Nat} (hk : (T.2 a).1 = 7) (hA : gN Γ ≤ a) (hQ : Q none T r l (up2 i a 3 0)) : gC Γ MX7_clear [.ref a] T r l i Q := by
  refine gC_of rfl (Nat.le_of_ble_eq_true rfl) (L := [(0, .ref a)]) rfl ?_
  refine G_aload_n (pc := 0) 0 dX7_clear_0 rfl ?_
  refine G_iconst (pc := 1) (v := 0) dX7_clear_1 rfl ?_
  refine G_putI (pc := 2) dX7_clear_2 fX7_21 (by assumption) rfl rfl (by first | assumption | omega) ?_
  refine G_vret (pc := 5) dX7_clear_5 rfl ⟨by decide, by decide⟩ ?_
  exact hQ
set_option maxRecDepth 100000 in
set_option maxHeartbeats 4000000 in
theorem c_X10_clear {Γ : gG} {T : gTy} {r : gR} {l : gLg} {i : gI} {Q : gQ} {a : Nat} (hk : (T.2 a).1 = 10) (hA : gN Γ ≤ a) (hQ : Q none T r l (up2 i a 3 0)) : gC Γ MX10_clear [.ref a] T r l i Q := by
  refine gC_of rfl (Nat.le_of_ble_eq_true rfl) (L := [(0, .ref a)]) rfl ?_
  refine G_aload_n (pc := 0) 0 dX10_clear_0 rfl ?_
  refine G_iconst (pc := 1) (v := 0) dX10_clear_1 rfl ?_
  refine G_putI (pc := 2) dX10_clear_2 fX10_26 (by assumption) rfl rfl (by first | assumption | omega) ?_
  refine G_vret (pc := 5) dX10_clear_5 rfl ⟨by decide, by decide⟩ ?_
  exact hQ
set_option maxRecDepth 100000 in
set_option maxHeartbeats 4000000 in
theorem c_X10_isFull {Γ : gG} {T : gTy} {r : gR} {l : gLg} {i : gI} {Q : gQ} {a : Nat} (hk : (T.2 a).1 = 10) (hQ : Q (some (.int (gB (¬ i a 3 < 5)))) T r l i) : gC Γ MX10_isFull [.ref a] T r l i Q := by
  refine gC_of rfl (Nat.le_of_ble_eq_true rfl) (L := [(0, .ref a)]) rfl ?_
  refine G_aload_n (pc := 0) 0 dX10_isFull_0 rfl ?_
  refine G_getI (pc := 1) dX10_isFull_1 fX10_26 (by assumption) ?_
  refine G_iconst (pc := 4) (v := 5) dX10_isFull_4 rfl ?_
  refine G_icmp_lt (pc := 5) (tgt := 12) dX10_isFull_5 (by decide) (fun h5 => ?_) (fun h5 => ?_)
  · refine G_iconst (pc := 12) (v := 0) dX10_isFull_12 rfl ?_
    refine G_iret (pc := 13) dX10_isFull_13 ⟨_, rfl, rfl⟩ ⟨by decide, by decide⟩ ?_
    simpa [gB, h5] using hQ
  · refine G_iconst (pc := 8) (v := 1) dX10_isFull_8 rfl ?_
    refine G_goto (pc := 9) (tgt := 13) dX10_isFull_9 (by decide) ?_
    refine G_iret (pc := 13) dX10_isFull_13 ⟨_, rfl, rfl⟩ ⟨by decide, by decide⟩ ?_
    simpa [gB, h5] using hQ
/-- a row without its place k, up to m -/
def rmI (i i' : gI) (a n k m : Nat) : Prop := frR a (a + 4) i i' ∧ i' a 3 = nI n ∧ ∀ j, ∀ c, c < 3 → i' (a + 1 + c) j = if k ≤ j ∧ j < m then i (a + 1 + c) (j + 1) else i (a + 1 + c) j
theorem rmI.step {i i' : gI} {a n k m : Nat} (h : rmI i i' a n k m) (hk : k ≤ m) : rmI i (up2 (up2 (up2 i' (a + 1) m (i (a + 1) (m + 1))) (a + 2) m (i (a + 2) (m + 1))) (a + 3) m (i (a + 3) (m + 1))) a n k (m + 1) := by
  obtain ⟨h1, h2, h3⟩ := h
  refine ⟨((h1.put (by omega) (by omega)).put (by omega) (by omega)).put (by omega) (by omega), by simp (disch := omega) only [up2_ne]; exact h2, fun j c hc => ?_⟩
  have h9 := h3 j c hc
  by_cases hj : j = m
  · subst hj
    rw [if_pos ⟨hk, Nat.lt_succ_self _⟩]
    rcases (show c = 0 ∨ c = 1 ∨ c = 2 by omega) with rfl | rfl | rfl
    · show up2 _ (a + 3) _ _ (a + 1) _ = i (a + 1) _; simp (disch := omega) only [up2_ne, up2_self]
    · show up2 _ (a + 3) _ _ (a + 2) _ = i (a + 2) _; simp (disch := omega) only [up2_ne, up2_self]
    · show up2 _ (a + 3) _ _ (a + 3) _ = i (a + 3) _; simp (disch := omega) only [up2_self]
  · have hc2 : (k ≤ j ∧ j < m + 1) ↔ (k ≤ j ∧ j < m) := by omega
    simp only [hc2]
    rw [← h9]
    rcases (show c = 0 ∨ c = 1 ∨ c = 2 by omega) with rfl | rfl | rfl
    · show up2 _ (a + 3) _ _ (a + 1) _ = i' (a + 1) _; simp (disch := omega) only [up2_ne, up2_row]
    · show up2 _ (a + 3) _ _ (a + 2) _ = i' (a + 2) _; simp (disch := omega) only [up2_ne, up2_row]
    · show up2 _ (a + 3) _ _ (a + 3) _ = i' (a + 3) _; simp (disch := omega) only [up2_ne, up2_row]
set_option maxRecDepth 100000 in
set_option maxHeartbeats 4000000 in
theorem lp_X7_remove {Γ : gG} {T : gTy} {r : gR} {l : gLg} {i : gI} {Q : gQ} {a n k : Nat} (hL : lyT T r a) (hA : gN Γ ≤ a) (h3 : i a 3 = nI (n + 1)) (hn : n < 6) (hk : k ≤ n) (hQ : ∀ i', rmI i i' a n k n → Q (some (.int (i (a + 1) k))) T r l i') : ∀ d m i1, m + d = n → k ≤ m → rmI i i1 a n k m → G Γ MX7_remove 0 0 29 [(0, .ref a), (1, .int (nI k)), (2, .int (i (a + 1) k)), (3, .int (nI m))] [] T r l i1 Q := by
  have hL2 := hL
  obtain ⟨t0, t1, t2, t3, t4, t5, t6⟩ := hL
  intro d
  induction d with
  | zero =>
    intro m i1 hm hkm hi
    have hmn : m = n := by omega
    rw [hmn] at hi ⊢
    have e3 := hi.2.1
    refine G_iload_n (pc := 29) 3 dX7_remove_29 rfl ?_
    refine G_aload_n (pc := 30) 0 dX7_remove_30 rfl ?_
    refine G_getI (pc := 31) dX7_remove_31 fX7_21 (by assumption) ?_
    refine G_icmp_ge (pc := 34) (tgt := 85) dX7_remove_34 (by decide) (fun h34 => ?_) (fun h34 => ?_)
    · refine G_iload_n (pc := 85) 2 dX7_remove_85 rfl ?_
      refine G_iret (pc := 86) dX7_remove_86 ⟨_, rfl, rfl⟩ ⟨by decide, by decide⟩ ?_
      exact hQ _ hi
    · exact absurd (by rw [e3]; exact Int32.le_refl _) h34
  | succ d ih =>
    intro m i1 hm hkm hi
    have e3 := hi.2.1
    have q1 : i1 (a + 1) (m + 1) = i (a + 1) (m + 1) := by
      have h9 := hi.2.2 (m + 1) 0 (by omega)
      rw [if_neg (by omega)] at h9
      exact h9
    have q2 : i1 (a + 2) (m + 1) = i (a + 2) (m + 1) := by
      have h9 := hi.2.2 (m + 1) 1 (by omega)
      rw [if_neg (by omega)] at h9
      exact h9
    have q3 : i1 (a + 3) (m + 1) = i (a + 3) (m + 1) := by
      have h9 := hi.2.2 (m + 1) 2 (by omega)
      rw [if_neg (by omega)] at h9
      exact h9
    refine G_iload_n (pc := 29) 3 dX7_remove_29 rfl ?_
    refine G_aload_n (pc := 30) 0 dX7_remove_30 rfl ?_
    refine G_getI (pc := 31) dX7_remove_31 fX7_21 (by assumption) ?_
    refine G_icmp_ge (pc := 34) (tgt := 85) dX7_remove_34 (by decide) (fun h34 => ?_) (fun h34 => ?_)
    · exact absurd h34 (by rw [e3]; exact nI_ge (by omega) (by omega))
    · refine G_aload_n (pc := 37) 0 dX7_remove_37 rfl ?_
      refine G_getR (pc := 38) dX7_remove_38 fX7_9 (by assumption) (by assumption) ?_
      refine G_iload_n (pc := 41) 3 dX7_remove_41 rfl ?_
      refine G_aload_n (pc := 42) 0 dX7_remove_42 rfl ?_
      refine G_getR (pc := 43) dX7_remove_43 fX7_9 (by assumption) (by assumption) ?_
      refine G_iload_n (pc := 46) 3 dX7_remove_46 rfl ?_
      refine G_iconst (pc := 47) (v := 1) dX7_remove_47 rfl ?_
      refine G_iadd (pc := 48) dX7_remove_48 ?_
      rw [nI_1]
      refine G_ialdJ (pc := 49) dX7_remove_49 (by assumption) rfl (by first | assumption | omega) (by decide) ?_
      rw [q1]
      refine G_iastJ (pc := 50) dX7_remove_50 (by assumption) rfl (by first | assumption | omega) (by decide) (by first | assumption | omega) ?_
      refine G_aload_n (pc := 51) 0 dX7_remove_51 rfl ?_
      refine G_getR (pc := 52) dX7_remove_52 fX7_15 (by assumption) (by assumption) ?_
      refine G_iload_n (pc := 55) 3 dX7_remove_55 rfl ?_
      refine G_aload_n (pc := 56) 0 dX7_remove_56 rfl ?_
      refine G_getR (pc := 57) dX7_remove_57 fX7_15 (by assumption) (by assumption) ?_
      refine G_iload_n (pc := 60) 3 dX7_remove_60 rfl ?_
      refine G_iconst (pc := 61) (v := 1) dX7_remove_61 rfl ?_
      refine G_iadd (pc := 62) dX7_remove_62 ?_
      rw [nI_1]
      refine G_ialdJ (pc := 63) dX7_remove_63 (by assumption) rfl (by first | assumption | omega) (by decide) ?_
      simp (disch := omega) only [up2_ne, up2_row, up2_self]
      rw [q2]
      refine G_iastJ (pc := 64) dX7_remove_64 (by assumption) rfl (by first | assumption | omega) (by decide) (by first | assumption | omega) ?_
      refine G_aload_n (pc := 65) 0 dX7_remove_65 rfl ?_
      refine G_getR (pc := 66) dX7_remove_66 fX7_18 (by assumption) (by assumption) ?_
      refine G_iload_n (pc := 69) 3 dX7_remove_69 rfl ?_
      refine G_aload_n (pc := 70) 0 dX7_remove_70 rfl ?_
      refine G_getR (pc := 71) dX7_remove_71 fX7_18 (by assumption) (by assumption) ?_
      refine G_iload_n (pc := 74) 3 dX7_remove_74 rfl ?_
      refine G_iconst (pc := 75) (v := 1) dX7_remove_75 rfl ?_
      refine G_iadd (pc := 76) dX7_remove_76 ?_
      rw [nI_1]
      refine G_ialdJ (pc := 77) dX7_remove_77 (by assumption) rfl (by first | assumption | omega) (by decide) ?_
      simp (disch := omega) only [up2_ne, up2_row, up2_self]
      rw [q3]
      refine G_iastJ (pc := 78) dX7_remove_78 (by assumption) rfl (by first | assumption | omega) (by decide) (by first | assumption | omega) ?_
      refine G_inc3 (pc := 79) (v := 1) dX7_remove_79 rfl (by decide) rfl ?_
      refine G_goto (pc := 82) (tgt := 29) dX7_remove_82 (by decide) ?_
      rw [nI_1]
      exact ih (m + 1) _ (by omega) (by omega) (hi.step (by omega))
theorem rmI.base {i : gI} {a n k : Nat} : rmI i (up2 i a 3 (nI n)) a n k k := by
  refine ⟨frR.rf.put (by omega) (by omega), up2_self _ _ _ _, fun j c hc => ?_⟩
  rw [if_neg (by omega), up2_ne (by omega)]
set_option maxRecDepth 100000 in
set_option maxHeartbeats 4000000 in
theorem c_X7_remove {Γ : gG} {T : gTy} {r : gR} {l : gLg} {i : gI} {Q : gQ} {a n k : Nat} (hL : lyT T r a) (hA : gN Γ ≤ a) (h3 : i a 3 = nI (n + 1)) (hn : n < 6) (hk : k ≤ n) (hQ : ∀ i', rmI i i' a n k n → Q (some (.int (i (a + 1) k))) T r l i') : gC Γ MX7_remove [.ref a, .int (nI k)] T r l i Q := by
  have hL2 := hL
  obtain ⟨t0, t1, t2, t3, t4, t5, t6⟩ := hL
  refine gC_of rfl (Nat.le_of_ble_eq_true rfl) (L := [(0, .ref a), (1, .int (nI k))]) rfl ?_
  refine G_aload_n (pc := 0) 0 dX7_remove_0 rfl ?_
  refine G_iload_n (pc := 1) 1 dX7_remove_1 rfl ?_
  refine gV1 (pc := 2) (k' := 0) (n' := 0) dX7_remove_2 lkX7_29 ⟨by decide, by decide⟩ (Nat.le_of_ble_eq_true rfl) rfl rfl ⟨by decide, by decide⟩ (by assumption) (c_X7_has t0 ?_)
  dsimp only [gRt]
  refine G_if_ne (pc := 5) (tgt := 10) dX7_remove_5 (by decide) (fun h5 => ?_) (fun h5 => ?_)
  · refine G_aload_n (pc := 10) 0 dX7_remove_10 rfl ?_
    refine G_getR (pc := 11) dX7_remove_11 fX7_9 (by assumption) (by assumption) ?_
    refine G_iload_n (pc := 14) 1 dX7_remove_14 rfl ?_
    refine G_ialdJ (pc := 15) dX7_remove_15 (by assumption) rfl (by first | assumption | omega) (by decide) ?_
    refine G_sn2 (pc := 16) (gSt_in dX7_remove_16 rfl (by decide)) rfl ?_
    refine G_aload_n (pc := 17) 0 dX7_remove_17 rfl ?_
    refine G_dup (pc := 18) dX7_remove_18 rfl ?_
    refine G_getI (pc := 19) dX7_remove_19 fX7_21 (by assumption) ?_
    refine G_iconst (pc := 22) (v := 1) dX7_remove_22 rfl ?_
    rw [h3]
    refine G_isub (pc := 23) dX7_remove_23 ?_
    rw [nI_pred]
    refine G_putI (pc := 24) dX7_remove_24 fX7_21 (by assumption) rfl rfl (by first | assumption | omega) ?_
    refine G_iload_n (pc := 27) 1 dX7_remove_27 rfl ?_
    refine G_sn3 (pc := 28) (gSt_in dX7_remove_28 rfl (by decide)) rfl ?_
    exact lp_X7_remove hL2 hA h3 hn hk hQ (n - k) k _ (by omega) (Nat.le_refl k) rmI.base
  · exact absurd (has_in h3 (by omega) (by omega)) (gB_eq.mp h5)
def cpT (i i' : gI) (a b n k : Nat) : Prop := frR a (a + 4) i i' ∧ i' a 3 = nI n ∧ ∀ j, j < k → ∀ c, c < 3 → i' (a + 1 + c) j = i (b + 1 + c) j
theorem cpT.step {i i' : gI} {a b n k : Nat} (h : cpT i i' a b n k) : cpT i (up2 (up2 (up2 i' (a + 1) k (i (b + 1) k)) (a + 2) k (i (b + 2) k)) (a + 3) k (i (b + 3) k)) a b n (k + 1) := by
  obtain ⟨h1, h2, h3⟩ := h
  refine ⟨((h1.put (by omega) (by omega)).put (by omega) (by omega)).put (by omega) (by omega), by simp (disch := omega) only [up2_ne]; exact h2, fun j hj c hc => ?_⟩
  by_cases hjk : j = k
  · subst hjk
    rcases (show c = 0 ∨ c = 1 ∨ c = 2 by omega) with rfl | rfl | rfl
    · show up2 _ (a + 3) _ _ (a + 1) _ = i (b + 1) _; simp (disch := omega) only [up2_ne, up2_self]
    · show up2 _ (a + 3) _ _ (a + 2) _ = i (b + 2) _; simp (disch := omega) only [up2_ne, up2_self]
    · show up2 _ (a + 3) _ _ (a + 3) _ = i (b + 3) _; simp (disch := omega) only [up2_self]
  · rw [← h3 j (by omega) c hc]
    rcases (show c = 0 ∨ c = 1 ∨ c = 2 by omega) with rfl | rfl | rfl
    · show up2 _ (a + 3) _ _ (a + 1) _ = i' (a + 1) _; simp (disch := omega) only [up2_ne, up2_row]
    · show up2 _ (a + 3) _ _ (a + 2) _ = i' (a + 2) _; simp (disch := omega) only [up2_ne, up2_row]
    · show up2 _ (a + 3) _ _ (a + 3) _ = i' (a + 3) _; simp (disch := omega) only [up2_ne, up2_row]
theorem cpT.rp {i i' : gI} {a b n : Nat} {s : Nat → Int32} (h : cpT i i' a b n n) (hb : rpT i b s n) : rpT i' a s n := ⟨hb.1, h.2.1, hb.2.2.1, fun k hk c hc => (h.2.2 k hk c hc).trans (hb.2.2.2 k hk c hc)⟩
set_option maxRecDepth 100000 in
set_option maxHeartbeats 4000000 in
theorem lp_X7_copyFrom {Γ : gG} {T : gTy} {r : gR} {l : gLg} {i : gI} {Q : gQ} {a b n : Nat} (hL : lyT T r a) (hB : lyT T r b) (hA : gN Γ ≤ a) (hab : a + 4 ≤ b ∨ b + 4 ≤ a) (h3 : i b 3 = nI n) (hn : n ≤ 6) (hQ : ∀ i', cpT i i' a b n n → Q none T r l i') : ∀ d k i1, k + d = n → cpT i i1 a b n k → G Γ MX7_copyFrom 0 0 10 [(0, .ref a), (1, .ref b), (2, .int (nI k))] [] T r l i1 Q := by
  obtain ⟨t0, t1, t2, t3, t4, t5, t6⟩ := hL
  obtain ⟨b0, b1, b2, b3, b4, b5, b6⟩ := hB
  intro d
  induction d with
  | zero =>
    intro k i1 hk hi
    have hkn : k = n := by omega
    rw [hkn] at hi ⊢
    have e3 := hi.2.1
    refine G_iload_n (pc := 10) 2 dX7_copyFrom_10 rfl ?_
    refine G_aload_n (pc := 11) 0 dX7_copyFrom_11 rfl ?_
    refine G_getI (pc := 12) dX7_copyFrom_12 fX7_21 (by assumption) ?_
    refine G_icmp_ge (pc := 15) (tgt := 60) dX7_copyFrom_15 (by decide) (fun h15 => ?_) (fun h15 => ?_)
    · refine G_vret (pc := 60) dX7_copyFrom_60 rfl ⟨by decide, by decide⟩ ?_
      exact hQ _ hi
    · exact absurd (by rw [e3]; exact Int32.le_refl _) h15
  | succ d ih =>
    intro k i1 hk hi
    have e3 := hi.2.1
    have q1 : i1 (b + 1) = i (b + 1) := hi.1 (b + 1) (by omega)
    have q2 : i1 (b + 2) = i (b + 2) := hi.1 (b + 2) (by omega)
    have q3 : i1 (b + 3) = i (b + 3) := hi.1 (b + 3) (by omega)
    refine G_iload_n (pc := 10) 2 dX7_copyFrom_10 rfl ?_
    refine G_aload_n (pc := 11) 0 dX7_copyFrom_11 rfl ?_
    refine G_getI (pc := 12) dX7_copyFrom_12 fX7_21 (by assumption) ?_
    refine G_icmp_ge (pc := 15) (tgt := 60) dX7_copyFrom_15 (by decide) (fun h15 => ?_) (fun h15 => ?_)
    · exact absurd h15 (by rw [e3]; exact nI_ge (by omega) (by omega))
    · refine G_aload_n (pc := 18) 0 dX7_copyFrom_18 rfl ?_
      refine G_getR (pc := 19) dX7_copyFrom_19 fX7_9 (by assumption) (by assumption) ?_
      refine G_iload_n (pc := 22) 2 dX7_copyFrom_22 rfl ?_
      refine G_aload_n (pc := 23) 1 dX7_copyFrom_23 rfl ?_
      refine G_getR (pc := 24) dX7_copyFrom_24 fX7_9 (by assumption) (by assumption) ?_
      refine G_iload_n (pc := 27) 2 dX7_copyFrom_27 rfl ?_
      refine G_ialdJ (pc := 28) dX7_copyFrom_28 (by assumption) rfl (by first | assumption | omega) (by decide) ?_
      rw [q1]
      refine G_iastJ (pc := 29) dX7_copyFrom_29 (by assumption) rfl (by first | assumption | omega) (by decide) (by first | assumption | omega) ?_
      refine G_aload_n (pc := 30) 0 dX7_copyFrom_30 rfl ?_
      refine G_getR (pc := 31) dX7_copyFrom_31 fX7_15 (by assumption) (by assumption) ?_
      refine G_iload_n (pc := 34) 2 dX7_copyFrom_34 rfl ?_
      refine G_aload_n (pc := 35) 1 dX7_copyFrom_35 rfl ?_
      refine G_getR (pc := 36) dX7_copyFrom_36 fX7_15 (by assumption) (by assumption) ?_
      refine G_iload_n (pc := 39) 2 dX7_copyFrom_39 rfl ?_
      refine G_ialdJ (pc := 40) dX7_copyFrom_40 (by assumption) rfl (by first | assumption | omega) (by decide) ?_
      simp (disch := omega) only [up2_ne, up2_row, up2_self]
      rw [q2]
      refine G_iastJ (pc := 41) dX7_copyFrom_41 (by assumption) rfl (by first | assumption | omega) (by decide) (by first | assumption | omega) ?_
      refine G_aload_n (pc := 42) 0 dX7_copyFrom_42 rfl ?_
      refine G_getR (pc := 43) dX7_copyFrom_43 fX7_18 (by assumption) (by assumption) ?_
      refine G_iload_n (pc := 46) 2 dX7_copyFrom_46 rfl ?_
      refine G_aload_n (pc := 47) 1 dX7_copyFrom_47 rfl ?_
      refine G_getR (pc := 48) dX7_copyFrom_48 fX7_18 (by assumption) (by assumption) ?_
      refine G_iload_n (pc := 51) 2 dX7_copyFrom_51 rfl ?_
      refine G_ialdJ (pc := 52) dX7_copyFrom_52 (by assumption) rfl (by first | assumption | omega) (by decide) ?_
      simp (disch := omega) only [up2_ne, up2_row, up2_self]
      rw [q3]
      refine G_iastJ (pc := 53) dX7_copyFrom_53 (by assumption) rfl (by first | assumption | omega) (by decide) (by first | assumption | omega) ?_
      refine G_inc2 (pc := 54) (v := 1) dX7_copyFrom_54 rfl (by decide) rfl ?_
      refine G_goto (pc := 57) (tgt := 10) dX7_copyFrom_57 (by decide) ?_
      rw [nI_1]
      exact ih (k + 1) _ (by omega) hi.step
set_option maxRecDepth 100000 in
set_option maxHeartbeats 4000000 in
theorem c_X7_copyFrom {Γ : gG} {T : gTy} {r : gR} {l : gLg} {i : gI} {Q : gQ} {a b n : Nat} (hL : lyT T r a) (hB : lyT T r b) (hA : gN Γ ≤ a) (hab : a + 4 ≤ b ∨ b + 4 ≤ a) (h3 : i b 3 = nI n) (hn : n ≤ 6) (hQ : ∀ i', cpT i i' a b n n → Q none T r l i') : gC Γ MX7_copyFrom [.ref a, .ref b] T r l i Q := by
  have hL2 := hL
  have hB2 := hB
  obtain ⟨t0, t1, t2, t3, t4, t5, t6⟩ := hL
  obtain ⟨b0, b1, b2, b3, b4, b5, b6⟩ := hB
  refine gC_of rfl (Nat.le_of_ble_eq_true rfl) (L := [(0, .ref a), (1, .ref b)]) rfl ?_
  refine G_aload_n (pc := 0) 0 dX7_copyFrom_0 rfl ?_
  refine G_aload_n (pc := 1) 1 dX7_copyFrom_1 rfl ?_
  refine G_getI (pc := 2) dX7_copyFrom_2 fX7_21 (by assumption) ?_
  rw [h3]
  refine G_putI (pc := 5) dX7_copyFrom_5 fX7_21 (by assumption) rfl rfl (by first | assumption | omega) ?_
  refine G_iconst (pc := 8) (v := 0) dX7_copyFrom_8 rfl ?_
  refine G_sn2 (pc := 9) (gSt_in dX7_copyFrom_9 rfl (by decide)) rfl ?_
  exact lp_X7_copyFrom hL2 hB2 hA hab h3 hn hQ n 0 _ (Nat.zero_add n) ⟨frR.rf.put (by omega) (by omega), up2_self _ _ _ _, fun j hj => absurd hj (by omega)⟩
def cpS (i i' : gI) (a b k : Nat) : Prop := frR a (a + 2) i i' ∧ ∀ c, c < k → i' (a + 1) c = i (b + 1) c
theorem cpS.step {i i' : gI} {a b k : Nat} (h : cpS i i' a b k) : cpS i (up2 i' (a + 1) k (i (b + 1) k)) a b (k + 1) := by
  refine ⟨h.1.put (by omega) (by omega), fun c hc => ?_⟩
  by_cases hck : c = k
  · subst hck; rw [up2_self]
  · rw [up2_row hck]; exact h.2 c (by omega)
theorem cpS.rp {i i' : gI} {a b : Nat} {s : Nat → Int32} (h : cpS i i' a b 3) (hb : rpS i b s) : rpS i' a s := fun c hc => (h.2 c hc).trans (hb c hc)
set_option maxRecDepth 100000 in
set_option maxHeartbeats 4000000 in
theorem lp_X4_copyFrom {Γ : gG} {T : gTy} {r : gR} {l : gLg} {i : gI} {Q : gQ} {a b : Nat} (hL : lySe T r a) (hB : lySe T r b) (hA : gN Γ ≤ a) (hab : a + 2 ≤ b ∨ b + 2 ≤ a) (hQ : ∀ i', cpS i i' a b 3 → Q none T r l i') : ∀ d k i1, k + d = 3 → cpS i i1 a b k → G Γ MX4_copyFrom 0 0 2 [(0, .ref a), (1, .ref b), (2, .int (nI k))] [] T r l i1 Q := by
  obtain ⟨a0, a1, a2⟩ := hL
  obtain ⟨b0, b1, b2⟩ := hB
  intro d
  induction d with
  | zero =>
    intro k i1 hk hi
    have hkn : k = 3 := by omega
    rw [hkn] at hi ⊢
    refine G_iload_n (pc := 2) 2 dX4_copyFrom_2 rfl ?_
    refine G_aload_n (pc := 3) 0 dX4_copyFrom_3 rfl ?_
    refine G_getR (pc := 4) dX4_copyFrom_4 fX4_7 (by assumption) (by assumption) ?_
    refine G_alen (pc := 7) (z := 13) (v := 3) dX4_copyFrom_7 (by decide) (by assumption) rfl ?_
    refine G_icmp_ge (pc := 8) (tgt := 38) dX4_copyFrom_8 (by decide) (fun h8 => ?_) (fun h8 => ?_)
    · refine G_vret (pc := 38) dX4_copyFrom_38 rfl ⟨by decide, by decide⟩ ?_
      exact hQ _ hi
    · exact absurd (by decide) h8
  | succ d ih =>
    intro k i1 hk hi
    have q1 : i1 (b + 1) = i (b + 1) := hi.1 (b + 1) (by omega)
    refine G_iload_n (pc := 2) 2 dX4_copyFrom_2 rfl ?_
    refine G_aload_n (pc := 3) 0 dX4_copyFrom_3 rfl ?_
    refine G_getR (pc := 4) dX4_copyFrom_4 fX4_7 (by assumption) (by assumption) ?_
    refine G_alen (pc := 7) (z := 13) (v := 3) dX4_copyFrom_7 (by decide) (by assumption) rfl ?_
    refine G_icmp_ge (pc := 8) (tgt := 38) dX4_copyFrom_8 (by decide) (fun h8 => ?_) (fun h8 => ?_)
    · exact absurd h8 (nI_ge (b := 3) (by omega) (by decide))
    · refine G_iload_n (pc := 11) 2 dX4_copyFrom_11 rfl ?_
      refine G_aload_n (pc := 12) 1 dX4_copyFrom_12 rfl ?_
      refine G_getR (pc := 13) dX4_copyFrom_13 fX4_7 (by assumption) (by assumption) ?_
      refine G_alen (pc := 16) (z := 13) (v := 3) dX4_copyFrom_16 (by decide) (by assumption) rfl ?_
      refine G_icmp_ge (pc := 17) (tgt := 38) dX4_copyFrom_17 (by decide) (fun h17 => ?_) (fun h17 => ?_)
      · exact absurd h17 (nI_ge (b := 3) (by omega) (by decide))
      · refine G_aload_n (pc := 20) 0 dX4_copyFrom_20 rfl ?_
        refine G_getR (pc := 21) dX4_copyFrom_21 fX4_7 (by assumption) (by assumption) ?_
        refine G_iload_n (pc := 24) 2 dX4_copyFrom_24 rfl ?_
        refine G_aload_n (pc := 25) 1 dX4_copyFrom_25 rfl ?_
        refine G_getR (pc := 26) dX4_copyFrom_26 fX4_7 (by assumption) (by assumption) ?_
        refine G_iload_n (pc := 29) 2 dX4_copyFrom_29 rfl ?_
        refine G_ialdJ (pc := 30) dX4_copyFrom_30 (by assumption) rfl (by first | assumption | omega) (by decide) ?_
        rw [q1]
        refine G_iastJ (pc := 31) dX4_copyFrom_31 (by assumption) rfl (by first | assumption | omega) (by decide) (by first | assumption | omega) ?_
        refine G_inc2 (pc := 32) (v := 1) dX4_copyFrom_32 rfl (by decide) rfl ?_
        refine G_goto (pc := 35) (tgt := 2) dX4_copyFrom_35 (by decide) ?_
        rw [nI_1]
        exact ih (k + 1) _ (by omega) hi.step
set_option maxRecDepth 100000 in
set_option maxHeartbeats 4000000 in
theorem c_X4_copyFrom {Γ : gG} {T : gTy} {r : gR} {l : gLg} {i : gI} {Q : gQ} {a b : Nat} (hL : lySe T r a) (hB : lySe T r b) (hA : gN Γ ≤ a) (hab : a + 2 ≤ b ∨ b + 2 ≤ a) (hQ : ∀ i', cpS i i' a b 3 → Q none T r l i') : gC Γ MX4_copyFrom [.ref a, .ref b] T r l i Q := by
  refine gC_of rfl (Nat.le_of_ble_eq_true rfl) (L := [(0, .ref a), (1, .ref b)]) rfl ?_
  refine G_iconst (pc := 0) (v := 0) dX4_copyFrom_0 rfl ?_
  refine G_sn2 (pc := 1) (gSt_in dX4_copyFrom_1 rfl (by decide)) rfl ?_
  exact lp_X4_copyFrom hL hB hA hab hQ 3 0 _ (by decide) ⟨frR.rf, fun c hc => absurd hc (by omega)⟩
