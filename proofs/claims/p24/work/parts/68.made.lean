/-! what is made -/
theorem vu_o {α : Type} {f : Nat → α} {a b : Nat} {v : α} (h : b ≠ a) : va_up f a v b = f b := by simp [va_up, h]
theorem vu_s {α : Type} {f : Nat → α} {a : Nat} {v : α} : va_up f a v a = v := by simp [va_up]
theorem lyT.mv {T T' : gTy} {r r' : gR} {a : Nat} (h : lyT T r a) (e : ∀ b, a ≤ b → b < a + 4 → T'.2 b = T.2 b ∧ r' b = r b) : lyT T' r' a := by
  obtain ⟨h0, h1, h2, h3, h4, h5, h6⟩ := h
  refine ⟨?_, ?_, ?_, ?_, ?_, ?_, ?_⟩
  · rw [(e a (by omega) (by omega)).1]; exact h0
  · rw [(e a (by omega) (by omega)).2]; exact h1
  · rw [(e a (by omega) (by omega)).2]; exact h2
  · rw [(e a (by omega) (by omega)).2]; exact h3
  · rw [(e _ (by omega) (by omega)).1]; exact h4
  · rw [(e _ (by omega) (by omega)).1]; exact h5
  · rw [(e _ (by omega) (by omega)).1]; exact h6
theorem lyW.mv {T T' : gTy} {r r' : gR} {a : Nat} (h : lyW T r a) (e : ∀ b, a ≤ b → b < a + 5 → T'.2 b = T.2 b ∧ r' b = r b) : lyW T' r' a := by
  obtain ⟨h0, h1, h2, h3, h4, h5, h6, h7, h8⟩ := h
  refine ⟨?_, ?_, ?_, ?_, ?_, ?_, ?_, ?_, ?_⟩
  · rw [(e a (by omega) (by omega)).1]; exact h0
  · rw [(e a (by omega) (by omega)).2]; exact h1
  · rw [(e a (by omega) (by omega)).2]; exact h2
  · rw [(e a (by omega) (by omega)).2]; exact h3
  · rw [(e a (by omega) (by omega)).2]; exact h4
  · rw [(e _ (by omega) (by omega)).1]; exact h5
  · rw [(e _ (by omega) (by omega)).1]; exact h6
  · rw [(e _ (by omega) (by omega)).1]; exact h7
  · rw [(e _ (by omega) (by omega)).1]; exact h8
theorem lySe.mv {T T' : gTy} {r r' : gR} {a : Nat} (h : lySe T r a) (e : ∀ b, a ≤ b → b < a + 2 → T'.2 b = T.2 b ∧ r' b = r b) : lySe T' r' a := by
  obtain ⟨h0, h1, h2⟩ := h
  exact ⟨by rw [(e a (by omega) (by omega)).1]; exact h0, by rw [(e a (by omega) (by omega)).2]; exact h1, by rw [(e _ (by omega) (by omega)).1]; exact h2⟩
theorem lyWs.mv {T T' : gTy} {r r' : gR} {a : Nat} {w : Nat → Nat} (h : lyWs T r a w) (e : ∀ b, a ≤ b → b < a + 29 → T'.2 b = T.2 b ∧ r' b = r b) : lyWs T' r' a w := by
  obtain ⟨h0, h1, h2, h3, h4, h5, h6, h7, h8⟩ := h
  refine ⟨by rw [(e a (by omega) (by omega)).1]; exact h0, by rw [(e a (by omega) (by omega)).2]; exact h1, by rw [(e a (by omega) (by omega)).2]; exact h2, by rw [(e a (by omega) (by omega)).2]; exact h3, by rw [(e _ (by omega) (by omega)).1]; exact h4, by rw [(e _ (by omega) (by omega)).1]; exact h5, by rw [(e _ (by omega) (by omega)).1]; exact h6, fun k hk => ?_, h8⟩
  obtain ⟨g1, g2, g3, g4⟩ := h7 k hk
  exact ⟨by rw [(e _ (by omega) (by omega)).2]; exact g1, g2.mv (fun b b1 b2 => e b (by omega) (by omega)), g3, g4⟩
theorem lySt.mv {T T' : gTy} {r r' : gR} {a : Nat} {w : Nat → Nat} (h : lySt T r a w) (e : ∀ b, a ≤ b → b < a + 36 → T'.2 b = T.2 b ∧ r' b = r b) : lySt T' r' a w := by
  obtain ⟨h0, h1, h2, h3, h4, h5, h6⟩ := h
  exact ⟨by rw [(e a (by omega) (by omega)).1]; exact h0, by rw [(e a (by omega) (by omega)).2]; exact h1, by rw [(e a (by omega) (by omega)).2]; exact h2, by rw [(e a (by omega) (by omega)).2]; exact h3, h4.mv (fun b b1 b2 => e b (by omega) (by omega)), h5.mv (fun b b1 b2 => e b (by omega) (by omega)), h6.mv (fun b b1 b2 => e b (by omega) (by omega))⟩
theorem lyH.mv {T T' : gTy} {r r' : gR} {a : Nat} {w : Nat → Nat → Nat} (h : lyH T r a w) (e : ∀ b, a ≤ b → b < a + 146 → T'.2 b = T.2 b ∧ r' b = r b) : lyH T' r' a w := by
  obtain ⟨h0, h1, h2, h3⟩ := h
  refine ⟨by rw [(e a (by omega) (by omega)).1]; exact h0, by rw [(e a (by omega) (by omega)).2]; exact h1, by rw [(e _ (by omega) (by omega)).1]; exact h2, fun j hj => ?_⟩
  obtain ⟨g1, g2⟩ := h3 j hj
  exact ⟨by rw [(e _ (by omega) (by omega)).2]; exact g1, g2.mv (fun b b1 b2 => e b (by omega) (by omega))⟩
theorem lyCo.mv {T T' : gTy} {r r' : gR} {a : Nat} (h : lyCo T r a) (e : ∀ b, a ≤ b → b < a + 2 → T'.2 b = T.2 b ∧ r' b = r b) : lyCo T' r' a := by
  obtain ⟨h0, h1, h2⟩ := h
  exact ⟨by rw [(e a (by omega) (by omega)).1]; exact h0, by rw [(e a (by omega) (by omega)).2]; exact h1, by rw [(e _ (by omega) (by omega)).1]; exact h2⟩
theorem lyMo.mv {T T' : gTy} {r r' : gR} {a : Nat} (h : lyMo T r a) (e : ∀ b, a ≤ b → b < a + 4 → T'.2 b = T.2 b ∧ r' b = r b) : lyMo T' r' a := by
  obtain ⟨h0, h1, h2, h3, h4⟩ := h
  exact ⟨by rw [(e a (by omega) (by omega)).1]; exact h0, by rw [(e a (by omega) (by omega)).2]; exact h1, by rw [(e a (by omega) (by omega)).2]; exact h2, h3.mv (fun b b1 b2 => e b (by omega) (by omega)), by rw [(e _ (by omega) (by omega)).1]; exact h4⟩
theorem lyTx.mv {T T' : gTy} {r r' : gR} {a : Nat} (h : lyTx T r a) (e : ∀ b, a ≤ b → b < a + 2 → T'.2 b = T.2 b ∧ r' b = r b) : lyTx T' r' a := by
  obtain ⟨h0, h1, h2⟩ := h
  exact ⟨by rw [(e a (by omega) (by omega)).1]; exact h0, by rw [(e a (by omega) (by omega)).2]; exact h1, by rw [(e _ (by omega) (by omega)).1]; exact h2⟩
theorem lyRd.mv {T T' : gTy} {r r' : gR} {a : Nat} (h : lyRd T r a) (e : ∀ b, a ≤ b → b < a + 5 → T'.2 b = T.2 b ∧ r' b = r b) : lyRd T' r' a := by
  obtain ⟨h0, h1, h2⟩ := h
  exact ⟨by rw [(e a (by omega) (by omega)).1]; exact h0, by rw [(e a (by omega) (by omega)).2]; exact h1, h2.mv (fun b b1 b2 => e b (by omega) (by omega))⟩
theorem lyX.mv {T T' : gTy} {r r' : gR} {a : Nat} {ws : Nat → Nat} {hs : Nat → Nat → Nat} (h : lyX T r a ws hs) (e : ∀ b, a ≤ b → b < a + 194 → T'.2 b = T.2 b ∧ r' b = r b) : lyX T' r' a ws hs := by
  obtain ⟨h0, h1, h2, h3, h4, h5, h6, h7, h8, h9, h10⟩ := h
  have ea := e a (by omega) (by omega)
  exact ⟨by rw [ea.1]; exact h0, by rw [ea.2]; exact h1, by rw [ea.2]; exact h2, by rw [ea.2]; exact h3, by rw [ea.2]; exact h4, by rw [ea.2]; exact h5, h6.mv (fun b b1 b2 => e b (by omega) (by omega)), h7.mv (fun b b1 b2 => e b (by omega) (by omega)), h8.mv (fun b b1 b2 => e b (by omega) (by omega)), h9.mv (fun b b1 b2 => e b (by omega) (by omega)), h10.mv (fun b b1 b2 => e b (by omega) (by omega))⟩
set_option maxRecDepth 100000 in
set_option maxHeartbeats 4000000 in
theorem c_X7_init {Γ : gG} {T : gTy} {r : gR} {l : gLg} {i : gI} {Q : gQ} {a : Nat} (hT : T.1 = a + 1) (hk : (T.2 a).1 = 7) (hA : gN Γ ≤ a) (hz : i a = fun _ => 0) (hQ : ∀ (T' : gTy) (r' : gR) (l' : gLg) (i' : gI), T'.1 = a + 4 → (∀ b, b < a → T'.2 b = T.2 b ∧ r' b = r b ∧ i' b = i b) → lyT T' r' a → (∀ b, a ≤ b → b < a + 4 → i' b = fun _ => 0) → Q none T' r' l' i') : gC Γ MX7_init [.ref a] T r l i Q := by
  obtain ⟨tt, sh⟩ := T
  obtain rfl : tt = a + 1 := hT
  replace hk : (sh a).1 = 7 := hk
  refine gC_of rfl (Nat.le_of_ble_eq_true rfl) (L := [(0, .ref a)]) rfl ?_
  refine G_aload_n (pc := 0) 0 dX7_init_0 rfl ?_
  refine G_objInit (pc := 1) dX7_init_1 oiX7_3 oim oic (by decide) (by decide) ?_
  refine G_aload_n (pc := 4) 0 dX7_init_4 rfl ?_
  refine G_bipush (pc := 5) (v := 6) dX7_init_5 rfl ?_
  refine G_newI (pc := 7) (nn := 6) dX7_init_7 aci (by decide) (by decide) (by decide) (by decide) (by decide) ?_
  dsimp only [gT1, gR1, gL1, gI1]
  refine G_putF (pc := 9) dX7_init_9 ffX7_9 rfl (by simp (disch := omega) only [vu_o, vu_s, up2_ne, up2_row, up2_self]; exact hk) rfl rfl (by first | assumption | omega) ?_
  refine G_aload_n (pc := 12) 0 dX7_init_12 rfl ?_
  refine G_bipush (pc := 13) (v := 6) dX7_init_13 rfl ?_
  refine G_newI (pc := 15) (nn := 6) dX7_init_15 aci (by decide) (by decide) (by decide) (by decide) (by decide) ?_
  dsimp only [gT1, gR1, gL1, gI1]
  refine G_putF (pc := 17) dX7_init_17 ffX7_15 rfl (by simp (disch := omega) only [vu_o, vu_s, up2_ne, up2_row, up2_self]; exact hk) rfl rfl (by first | assumption | omega) ?_
  refine G_aload_n (pc := 20) 0 dX7_init_20 rfl ?_
  refine G_bipush (pc := 21) (v := 6) dX7_init_21 rfl ?_
  refine G_newI (pc := 23) (nn := 6) dX7_init_23 aci (by decide) (by decide) (by decide) (by decide) (by decide) ?_
  dsimp only [gT1, gR1, gL1, gI1]
  refine G_putF (pc := 25) dX7_init_25 ffX7_18 rfl (by simp (disch := omega) only [vu_o, vu_s, up2_ne, up2_row, up2_self]; exact hk) rfl rfl (by first | assumption | omega) ?_
  refine G_vret (pc := 28) dX7_init_28 rfl ⟨by decide, by decide⟩ ?_
  refine hQ _ _ _ _ rfl (fun b hb => ⟨?_, ?_, ?_⟩) ⟨?_, ?_, ?_, ?_, ?_, ?_, ?_⟩ (fun b b1 b2 => ?_)
  · simp (disch := omega) only [vu_o, vu_s, up2_ne, up2_row, up2_self]
  · simp (disch := omega) only [vu_o, vu_s, up2_ne, up2_row, up2_self]
  · simp (disch := omega) only [vu_o, vu_s, up2_ne, up2_row, up2_self]
  · simp (disch := omega) only [vu_o, vu_s, up2_ne, up2_row, up2_self]; exact hk
  · simp (disch := omega) only [vu_o, vu_s, up2_ne, up2_row, up2_self]
  · simp (disch := omega) only [vu_o, vu_s, up2_ne, up2_row, up2_self]
  · simp (disch := omega) only [vu_o, vu_s, up2_ne, up2_row, up2_self]
  · simp (disch := omega) only [vu_o, vu_s, up2_ne, up2_row, up2_self]
  · simp (disch := omega) only [vu_o, vu_s, up2_ne, up2_row, up2_self]
  · simp (disch := omega) only [vu_o, vu_s, up2_ne, up2_row, up2_self]
  · rcases (show b = a ∨ b = a + 1 ∨ b = a + 1 + 1 ∨ b = a + 1 + 1 + 1 by omega) with rfl | rfl | rfl | rfl
    · simp (disch := omega) only [vu_o, vu_s, up2_ne, up2_row, up2_self]; exact hz
    · simp (disch := omega) only [vu_o, vu_s, up2_ne, up2_row, up2_self]
    · simp (disch := omega) only [vu_o, vu_s, up2_ne, up2_row, up2_self]
    · simp (disch := omega) only [vu_o, vu_s, up2_ne, up2_row, up2_self]
set_option maxRecDepth 100000 in
set_option maxHeartbeats 4000000 in
theorem c_X9_init {Γ : gG} {T : gTy} {r : gR} {l : gLg} {i : gI} {Q : gQ} {a : Nat} (hT : T.1 = a + 1) (hk : (T.2 a).1 = 9) (hA : gN Γ ≤ a) (hz : i a = fun _ => 0) (hQ : ∀ (T' : gTy) (r' : gR) (l' : gLg) (i' : gI), T'.1 = a + 5 → (∀ b, b < a → T'.2 b = T.2 b ∧ r' b = r b ∧ i' b = i b) → lyW T' r' a → (∀ b, a ≤ b → b < a + 5 → i' b = fun _ => 0) → Q none T' r' l' i') : gC Γ MX9_init [.ref a] T r l i Q := by
  obtain ⟨tt, sh⟩ := T
  obtain rfl : tt = a + 1 := hT
  replace hk : (sh a).1 = 9 := hk
  refine gC_of rfl (Nat.le_of_ble_eq_true rfl) (L := [(0, .ref a)]) rfl ?_
  refine G_aload_n (pc := 0) 0 dX9_init_0 rfl ?_
  refine G_objInit (pc := 1) dX9_init_1 oiX9_3 oim oic (by decide) (by decide) ?_
  refine G_aload_n (pc := 4) 0 dX9_init_4 rfl ?_
  refine G_bipush (pc := 5) (v := 40) dX9_init_5 rfl ?_
  refine G_newI (pc := 7) (nn := 40) dX9_init_7 aci (by decide) (by decide) (by decide) (by decide) (by decide) ?_
  dsimp only [gT1, gR1, gL1, gI1]
  refine G_putF (pc := 9) dX9_init_9 ffX9_9 rfl (by simp (disch := omega) only [vu_o, vu_s, up2_ne, up2_row, up2_self]; exact hk) rfl rfl (by first | assumption | omega) ?_
  refine G_aload_n (pc := 12) 0 dX9_init_12 rfl ?_
  refine G_bipush (pc := 13) (v := 40) dX9_init_13 rfl ?_
  refine G_newI (pc := 15) (nn := 40) dX9_init_15 aci (by decide) (by decide) (by decide) (by decide) (by decide) ?_
  dsimp only [gT1, gR1, gL1, gI1]
  refine G_putF (pc := 17) dX9_init_17 ffX9_15 rfl (by simp (disch := omega) only [vu_o, vu_s, up2_ne, up2_row, up2_self]; exact hk) rfl rfl (by first | assumption | omega) ?_
  refine G_aload_n (pc := 20) 0 dX9_init_20 rfl ?_
  refine G_bipush (pc := 21) (v := 40) dX9_init_21 rfl ?_
  refine G_newI (pc := 23) (nn := 40) dX9_init_23 aci (by decide) (by decide) (by decide) (by decide) (by decide) ?_
  dsimp only [gT1, gR1, gL1, gI1]
  refine G_putF (pc := 25) dX9_init_25 ffX9_18 rfl (by simp (disch := omega) only [vu_o, vu_s, up2_ne, up2_row, up2_self]; exact hk) rfl rfl (by first | assumption | omega) ?_
  refine G_aload_n (pc := 28) 0 dX9_init_28 rfl ?_
  refine G_bipush (pc := 29) (v := 40) dX9_init_29 rfl ?_
  refine G_newI (pc := 31) (nn := 40) dX9_init_31 aci (by decide) (by decide) (by decide) (by decide) (by decide) ?_
  dsimp only [gT1, gR1, gL1, gI1]
  refine G_putF (pc := 33) dX9_init_33 ffX9_21 rfl (by simp (disch := omega) only [vu_o, vu_s, up2_ne, up2_row, up2_self]; exact hk) rfl rfl (by first | assumption | omega) ?_
  refine G_vret (pc := 36) dX9_init_36 rfl ⟨by decide, by decide⟩ ?_
  refine hQ _ _ _ _ rfl (fun b hb => ⟨?_, ?_, ?_⟩) ⟨?_, ?_, ?_, ?_, ?_, ?_, ?_, ?_, ?_⟩ (fun b b1 b2 => ?_)
  · simp (disch := omega) only [vu_o, vu_s, up2_ne, up2_row, up2_self]
  · simp (disch := omega) only [vu_o, vu_s, up2_ne, up2_row, up2_self]
  · simp (disch := omega) only [vu_o, vu_s, up2_ne, up2_row, up2_self]
  · simp (disch := omega) only [vu_o, vu_s, up2_ne, up2_row, up2_self]; exact hk
  · simp (disch := omega) only [vu_o, vu_s, up2_ne, up2_row, up2_self]
  · simp (disch := omega) only [vu_o, vu_s, up2_ne, up2_row, up2_self]
  · simp (disch := omega) only [vu_o, vu_s, up2_ne, up2_row, up2_self]
  · simp (disch := omega) only [vu_o, vu_s, up2_ne, up2_row, up2_self]
  · simp (disch := omega) only [vu_o, vu_s, up2_ne, up2_row, up2_self]
  · simp (disch := omega) only [vu_o, vu_s, up2_ne, up2_row, up2_self]
  · simp (disch := omega) only [vu_o, vu_s, up2_ne, up2_row, up2_self]
  · simp (disch := omega) only [vu_o, vu_s, up2_ne, up2_row, up2_self]
  · rcases (show b = a ∨ b = a + 1 ∨ b = a + 1 + 1 ∨ b = a + 1 + 1 + 1 ∨ b = a + 1 + 1 + 1 + 1 by omega) with rfl | rfl | rfl | rfl | rfl
    · simp (disch := omega) only [vu_o, vu_s, up2_ne, up2_row, up2_self]; exact hz
    · simp (disch := omega) only [vu_o, vu_s, up2_ne, up2_row, up2_self]
    · simp (disch := omega) only [vu_o, vu_s, up2_ne, up2_row, up2_self]
    · simp (disch := omega) only [vu_o, vu_s, up2_ne, up2_row, up2_self]
    · simp (disch := omega) only [vu_o, vu_s, up2_ne, up2_row, up2_self]
set_option maxRecDepth 100000 in
set_option maxHeartbeats 4000000 in
theorem c_X8_init {Γ : gG} {T : gTy} {r : gR} {l : gLg} {i : gI} {Q : gQ} {a : Nat} (hT : T.1 = a + 1) (hk : (T.2 a).1 = 8) (hA : gN Γ ≤ a) (hz : i a = fun _ => 0) (hQ : ∀ (T' : gTy) (r' : gR) (l' : gLg) (i' : gI), T'.1 = a + 2 → (∀ b, b < a → T'.2 b = T.2 b ∧ r' b = r b ∧ i' b = i b) → lyTx T' r' a → (∀ b, a ≤ b → b < a + 2 → i' b = fun _ => 0) → Q none T' r' l' i') : gC Γ MX8_init [.ref a] T r l i Q := by
  obtain ⟨tt, sh⟩ := T
  obtain rfl : tt = a + 1 := hT
  replace hk : (sh a).1 = 8 := hk
  refine gC_of rfl (Nat.le_of_ble_eq_true rfl) (L := [(0, .ref a)]) rfl ?_
  refine G_aload_n (pc := 0) 0 dX8_init_0 rfl ?_
  refine G_objInit (pc := 1) dX8_init_1 oiX8_3 oim oic (by decide) (by decide) ?_
  refine G_aload_n (pc := 4) 0 dX8_init_4 rfl ?_
  refine G_bipush (pc := 5) (v := 60) dX8_init_5 rfl ?_
  refine G_newI (pc := 7) (nn := 60) dX8_init_7 aci (by decide) (by decide) (by decide) (by decide) (by decide) ?_
  dsimp only [gT1, gR1, gL1, gI1]
  refine G_putF (pc := 9) dX8_init_9 ffX8_9 rfl (by simp (disch := omega) only [vu_o, vu_s, up2_ne, up2_row, up2_self]; exact hk) rfl rfl (by first | assumption | omega) ?_
  refine G_vret (pc := 12) dX8_init_12 rfl ⟨by decide, by decide⟩ ?_
  refine hQ _ _ _ _ rfl (fun b hb => ⟨?_, ?_, ?_⟩) ⟨?_, ?_, ?_⟩ (fun b b1 b2 => ?_)
  · simp (disch := omega) only [vu_o, vu_s, up2_ne, up2_row, up2_self]
  · simp (disch := omega) only [vu_o, vu_s, up2_ne, up2_row, up2_self]
  · simp (disch := omega) only [vu_o, vu_s, up2_ne, up2_row, up2_self]
  · simp (disch := omega) only [vu_o, vu_s, up2_ne, up2_row, up2_self]; exact hk
  · simp (disch := omega) only [vu_o, vu_s, up2_ne, up2_row, up2_self]
  · simp (disch := omega) only [vu_o, vu_s, up2_ne, up2_row, up2_self]
  · rcases (show b = a ∨ b = a + 1 by omega) with rfl | rfl
    · simp (disch := omega) only [vu_o, vu_s, up2_ne, up2_row, up2_self]; exact hz
    · simp (disch := omega) only [vu_o, vu_s, up2_ne, up2_row, up2_self]
set_option maxRecDepth 100000 in
set_option maxHeartbeats 4000000 in
theorem c_X4_init {Γ : gG} {T : gTy} {r : gR} {l : gLg} {i : gI} {Q : gQ} {a : Nat} (hT : T.1 = a + 1) (hk : (T.2 a).1 = 4) (hA : gN Γ ≤ a) (hz : i a = fun _ => 0) (hQ : ∀ (T' : gTy) (r' : gR) (l' : gLg) (i' : gI), T'.1 = a + 2 → (∀ b, b < a → T'.2 b = T.2 b ∧ r' b = r b ∧ i' b = i b) → lySe T' r' a → (i' (a + 1) 0 = 16 ∧ i' (a + 1) 1 = 64 ∧ i' (a + 1) 2 = 8) → Q none T' r' l' i') : gC Γ MX4_init [.ref a] T r l i Q := by
  obtain ⟨tt, sh⟩ := T
  obtain rfl : tt = a + 1 := hT
  replace hk : (sh a).1 = 4 := hk
  refine gC_of rfl (Nat.le_of_ble_eq_true rfl) (L := [(0, .ref a)]) rfl ?_
  refine G_aload_n (pc := 0) 0 dX4_init_0 rfl ?_
  refine G_objInit (pc := 1) dX4_init_1 oiX4_1 oim oic (by decide) (by decide) ?_
  refine G_aload_n (pc := 4) 0 dX4_init_4 rfl ?_
  refine G_iconst (pc := 5) (v := 3) dX4_init_5 rfl ?_
  refine G_newI (pc := 6) (nn := 3) dX4_init_6 aci (by decide) (by decide) (by decide) (by decide) (by decide) ?_
  dsimp only [gT1, gR1, gL1, gI1]
  refine G_dup (pc := 8) dX4_init_8 rfl ?_
  refine G_iconst (pc := 9) (v := 0) dX4_init_9 rfl ?_
  refine G_bipush (pc := 10) (v := 16) dX4_init_10 rfl ?_
  refine G_iastJ (pc := 12) (j := 0) (nn := 3) dX4_init_12 (by simp (disch := omega) only [vu_o, vu_s, up2_ne, up2_row, up2_self]) gl0 (by first | assumption | omega) (by decide) (by first | assumption | omega) ?_
  refine G_dup (pc := 13) dX4_init_13 rfl ?_
  refine G_iconst (pc := 14) (v := 1) dX4_init_14 rfl ?_
  refine G_bipush (pc := 15) (v := 64) dX4_init_15 rfl ?_
  refine G_iastJ (pc := 17) (j := 1) (nn := 3) dX4_init_17 (by simp (disch := omega) only [vu_o, vu_s, up2_ne, up2_row, up2_self]) gl1 (by first | assumption | omega) (by decide) (by first | assumption | omega) ?_
  refine G_dup (pc := 18) dX4_init_18 rfl ?_
  refine G_iconst (pc := 19) (v := 2) dX4_init_19 rfl ?_
  refine G_bipush (pc := 20) (v := 8) dX4_init_20 rfl ?_
  refine G_iastJ (pc := 22) (j := 2) (nn := 3) dX4_init_22 (by simp (disch := omega) only [vu_o, vu_s, up2_ne, up2_row, up2_self]) gl2 (by first | assumption | omega) (by decide) (by first | assumption | omega) ?_
  refine G_putF (pc := 23) dX4_init_23 ffX4_7 rfl (by simp (disch := omega) only [vu_o, vu_s, up2_ne, up2_row, up2_self]; exact hk) rfl rfl (by first | assumption | omega) ?_
  refine G_vret (pc := 26) dX4_init_26 rfl ⟨by decide, by decide⟩ ?_
  refine hQ _ _ _ _ rfl (fun b hb => ⟨?_, ?_, ?_⟩) ⟨?_, ?_, ?_⟩ ⟨?_, ?_, ?_⟩
  · simp (disch := omega) only [vu_o, vu_s, up2_ne, up2_row, up2_self]
  · simp (disch := omega) only [vu_o, vu_s, up2_ne, up2_row, up2_self]
  · simp (disch := omega) only [vu_o, vu_s, up2_ne, up2_row, up2_self]
  · simp (disch := omega) only [vu_o, vu_s, up2_ne, up2_row, up2_self]; exact hk
  · simp (disch := omega) only [vu_o, vu_s, up2_ne, up2_row, up2_self]
  · simp (disch := omega) only [vu_o, vu_s, up2_ne, up2_row, up2_self]
  · simp (disch := omega) only [vu_o, vu_s, up2_ne, up2_row, up2_self]
  · simp (disch := omega) only [vu_o, vu_s, up2_ne, up2_row, up2_self]
  · simp (disch := omega) only [vu_o, vu_s, up2_ne, up2_row, up2_self]
set_option maxRecDepth 100000 in
set_option maxHeartbeats 4000000 in
theorem c_X5_init {Γ : gG} {T : gTy} {r : gR} {l : gLg} {i : gI} {Q : gQ} {a : Nat} (hQ : Q none T r l i) : gC Γ MX5_init [.ref a] T r l i Q := by
  refine gC_of rfl (Nat.le_of_ble_eq_true rfl) (L := [(0, .ref a)]) rfl ?_
  refine G_aload_n (pc := 0) 0 dX5_init_0 rfl ?_
  refine G_objInit (pc := 1) dX5_init_1 oiX5_1 oim oic (by decide) (by decide) ?_
  refine G_vret (pc := 4) dX5_init_4 rfl ⟨by decide, by decide⟩ ?_
  exact hQ
set_option maxRecDepth 100000 in
set_option maxHeartbeats 4000000 in
theorem c_X0_init {Γ : gG} {T : gTy} {r : gR} {l : gLg} {i : gI} {Q : gQ} {a : Nat} (hT : T.1 = a + 1) (hk : (T.2 a).1 = 0) (hA : gN Γ ≤ a) (hz : i a = fun _ => 0) (hQ : ∀ (T' : gTy) (r' : gR) (l' : gLg) (i' : gI), T'.1 = a + 2 → (∀ b, b < a → T'.2 b = T.2 b ∧ r' b = r b ∧ i' b = i b) → lyCo T' r' a → Q none T' r' l' i') : gC Γ MX0_init [.ref a] T r l i Q := by
  obtain ⟨tt, sh⟩ := T
  obtain rfl : tt = a + 1 := hT
  replace hk : (sh a).1 = 0 := hk
  refine gC_of rfl (Nat.le_of_ble_eq_true rfl) (L := [(0, .ref a)]) rfl ?_
  refine G_aload_n (pc := 0) 0 dX0_init_0 rfl ?_
  refine G_objInit (pc := 1) dX0_init_1 oiX0_1 oim oic (by decide) (by decide) ?_
  refine G_aload_n (pc := 4) 0 dX0_init_4 rfl ?_
  refine G_new (pc := 5) (ci := 5) (C := RX5) (Tb := TX5) (ty0 := tyX5) dX0_init_5 rfl (by decide) rfl inGX5 tyX5_ok (fun j hj => by rcases (show j = 0 ∨ j = 1 ∨ j = 2 by omega) with rfl | rfl | rfl <;> rfl) clX0_7 insX5 iniX5 (by decide) (by decide) ?_
  dsimp only [gT1, gR1, gL1, gI1]
  refine G_dup (pc := 8) dX0_init_8 rfl ?_
  refine gI0 (pc := 9) (k' := 1) (n' := 3) dX0_init_9 lkX0_9 ⟨by decide, by decide⟩ (Nat.le_of_ble_eq_true rfl) rfl rfl ⟨by decide, by decide⟩ (c_X5_init ?_)
  dsimp only [gRt]
  refine G_putF (pc := 12) dX0_init_12 ffX0_10 rfl (by simp (disch := omega) only [vu_o, vu_s, up2_ne, up2_row, up2_self]; exact hk) rfl rfl (by first | assumption | omega) ?_
  refine G_vret (pc := 15) dX0_init_15 rfl ⟨by decide, by decide⟩ ?_
  refine hQ _ _ _ _ rfl (fun b hb => ⟨?_, ?_, ?_⟩) ⟨?_, ?_, ?_⟩
  · simp (disch := omega) only [vu_o, vu_s, up2_ne, up2_row, up2_self]
  · simp (disch := omega) only [vu_o, vu_s, up2_ne, up2_row, up2_self]
  · simp (disch := omega) only [vu_o, vu_s, up2_ne, up2_row, up2_self]
  · simp (disch := omega) only [vu_o, vu_s, up2_ne, up2_row, up2_self]; exact hk
  · simp (disch := omega) only [vu_o, vu_s, up2_ne, up2_row, up2_self]
  · simp (disch := omega) only [vu_o, vu_s, up2_ne, up2_row, up2_self]
set_option maxRecDepth 100000 in
set_option maxHeartbeats 4000000 in
theorem c_X2_init {Γ : gG} {T : gTy} {r : gR} {l : gLg} {i : gI} {Q : gQ} {a : Nat} (hT : T.1 = a + 1) (hk : (T.2 a).1 = 2) (hA : gN Γ ≤ a) (hz : i a = fun _ => 0) (hQ : ∀ (T' : gTy) (r' : gR) (l' : gLg) (i' : gI), T'.1 = a + 4 → (∀ b, b < a → T'.2 b = T.2 b ∧ r' b = r b ∧ i' b = i b) → lyMo T' r' a → Q none T' r' l' i') : gC Γ MX2_init [.ref a] T r l i Q := by
  obtain ⟨tt, sh⟩ := T
  obtain rfl : tt = a + 1 := hT
  replace hk : (sh a).1 = 2 := hk
  refine gC_of rfl (Nat.le_of_ble_eq_true rfl) (L := [(0, .ref a)]) rfl ?_
  refine G_aload_n (pc := 0) 0 dX2_init_0 rfl ?_
  refine G_objInit (pc := 1) dX2_init_1 oiX2_3 oim oic (by decide) (by decide) ?_
  refine G_aload_n (pc := 4) 0 dX2_init_4 rfl ?_
  refine G_new (pc := 5) (ci := 0) (C := RX0) (Tb := TX0) (ty0 := tyX0) dX2_init_5 rfl (by decide) rfl inGX0 tyX0_ok (fun j hj => by rcases (show j = 0 ∨ j = 1 ∨ j = 2 ∨ j = 3 by omega) with rfl | rfl | rfl | rfl <;> rfl) clX2_9 insX0 iniX0 (by decide) (by decide) ?_
  dsimp only [gT1, gR1, gL1, gI1]
  refine G_dup (pc := 8) dX2_init_8 rfl ?_
  refine gI0 (pc := 9) (k' := 2) (n' := 7) dX2_init_9 lkX2_11 ⟨by decide, by decide⟩ (Nat.le_of_ble_eq_true rfl) rfl rfl ⟨by decide, by decide⟩ (c_X0_init (a := a + 1) rfl (by simp (disch := omega) only [vu_o, vu_s, up2_ne, up2_row, up2_self]) (by omega) (by simp (disch := omega) only [vu_o, vu_s, up2_ne, up2_row, up2_self]) ?_)
  intro T1 r1 l1 i1 e1 o1 p1_0
  dsimp only [gRt]
  obtain ⟨t1, s1⟩ := T1
  obtain rfl : t1 = a + 1 + 2 := e1
  dsimp only at o1
  have so1 := fun b hb => (o1 b hb).1
  have ro1 := fun b hb => (o1 b hb).2.1
  have io1 := fun b hb => (o1 b hb).2.2
  refine G_putF (pc := 12) dX2_init_12 ffX2_12 rfl (by simp (disch := omega) only [vu_o, vu_s, up2_ne, up2_row, up2_self, so1, ro1, io1]; exact hk) rfl rfl (by first | assumption | omega) ?_
  refine G_aload_n (pc := 15) 0 dX2_init_15 rfl ?_
  refine G_new (pc := 16) (ci := 5) (C := RX5) (Tb := TX5) (ty0 := tyX5) dX2_init_16 rfl (by decide) rfl inGX5 tyX5_ok (fun j hj => by rcases (show j = 0 ∨ j = 1 ∨ j = 2 by omega) with rfl | rfl | rfl <;> rfl) clX2_18 insX5 iniX5 (by decide) (by decide) ?_
  dsimp only [gT1, gR1, gL1, gI1]
  refine G_dup (pc := 19) dX2_init_19 rfl ?_
  refine gI0 (pc := 20) (k' := 3) (n' := 10) dX2_init_20 lkX2_20 ⟨by decide, by decide⟩ (Nat.le_of_ble_eq_true rfl) rfl rfl ⟨by decide, by decide⟩ (c_X5_init ?_)
  dsimp only [gRt]
  refine G_putF (pc := 23) dX2_init_23 ffX2_21 rfl (by simp (disch := omega) only [vu_o, vu_s, up2_ne, up2_row, up2_self, so1, ro1, io1]; exact hk) rfl rfl (by first | assumption | omega) ?_
  refine G_vret (pc := 26) dX2_init_26 rfl ⟨by decide, by decide⟩ ?_
  refine hQ _ _ _ _ rfl (fun b hb => ⟨?_, ?_, ?_⟩) ⟨?_, ?_, ?_, ?_, ?_⟩
  · simp (disch := omega) only [vu_o, vu_s, up2_ne, up2_row, up2_self, so1, ro1, io1]
  · simp (disch := omega) only [vu_o, vu_s, up2_ne, up2_row, up2_self, so1, ro1, io1]
  · simp (disch := omega) only [vu_o, vu_s, up2_ne, up2_row, up2_self, so1, ro1, io1]
  · simp (disch := omega) only [vu_o, vu_s, up2_ne, up2_row, up2_self, so1, ro1, io1]; exact hk
  · simp (disch := omega) only [vu_o, vu_s, up2_ne, up2_row, up2_self, so1, ro1, io1]
  · simp (disch := omega) only [vu_o, vu_s, up2_ne, up2_row, up2_self, so1, ro1, io1]
  · exact p1_0.mv (fun b b1 b2 => ⟨by simp (disch := omega) only [vu_o, vu_s, up2_ne, up2_row, up2_self, so1, ro1, io1], by simp (disch := omega) only [vu_o, vu_s, up2_ne, up2_row, up2_self, so1, ro1, io1]⟩)
  · simp (disch := omega) only [vu_o, vu_s, up2_ne, up2_row, up2_self]
set_option maxRecDepth 100000 in
set_option maxHeartbeats 4000000 in
theorem c_X3_init {Γ : gG} {T : gTy} {r : gR} {l : gLg} {i : gI} {Q : gQ} {a : Nat} (hT : T.1 = a + 1) (hk : (T.2 a).1 = 3) (hA : gN Γ ≤ a) (hz : i a = fun _ => 0) (hQ : ∀ (T' : gTy) (r' : gR) (l' : gLg) (i' : gI), T'.1 = a + 5 → (∀ b, b < a → T'.2 b = T.2 b ∧ r' b = r b ∧ i' b = i b) → lyRd T' r' a → Q none T' r' l' i') : gC Γ MX3_init [.ref a] T r l i Q := by
  obtain ⟨tt, sh⟩ := T
  obtain rfl : tt = a + 1 := hT
  replace hk : (sh a).1 = 3 := hk
  refine gC_of rfl (Nat.le_of_ble_eq_true rfl) (L := [(0, .ref a)]) rfl ?_
  refine G_aload_n (pc := 0) 0 dX3_init_0 rfl ?_
  refine G_objInit (pc := 1) dX3_init_1 oiX3_3 oim oic (by decide) (by decide) ?_
  refine G_aload_n (pc := 4) 0 dX3_init_4 rfl ?_
  refine G_new (pc := 5) (ci := 7) (C := RX7) (Tb := TX7) (ty0 := tyX7) dX3_init_5 rfl (by decide) rfl inGX7 tyX7_ok (fun j hj => by rcases (show j = 0 ∨ j = 1 ∨ j = 2 ∨ j = 3 by omega) with rfl | rfl | rfl | rfl <;> rfl) clX3_9 insX7 iniX7 (by decide) (by decide) ?_
  dsimp only [gT1, gR1, gL1, gI1]
  refine G_dup (pc := 8) dX3_init_8 rfl ?_
  refine gI0 (pc := 9) (k' := 4) (n' := 22) dX3_init_9 lkX3_11 ⟨by decide, by decide⟩ (Nat.le_of_ble_eq_true rfl) rfl rfl ⟨by decide, by decide⟩ (c_X7_init (a := a + 1) rfl (by simp (disch := omega) only [vu_o, vu_s, up2_ne, up2_row, up2_self]) (by omega) (by simp (disch := omega) only [vu_o, vu_s, up2_ne, up2_row, up2_self]) ?_)
  intro T1 r1 l1 i1 e1 o1 p1_0 p1_1
  dsimp only [gRt]
  obtain ⟨t1, s1⟩ := T1
  obtain rfl : t1 = a + 1 + 4 := e1
  dsimp only at o1
  have so1 := fun b hb => (o1 b hb).1
  have ro1 := fun b hb => (o1 b hb).2.1
  have io1 := fun b hb => (o1 b hb).2.2
  refine G_putF (pc := 12) dX3_init_12 ffX3_12 rfl (by simp (disch := omega) only [vu_o, vu_s, up2_ne, up2_row, up2_self, so1, ro1, io1]; exact hk) rfl rfl (by first | assumption | omega) ?_
  refine G_vret (pc := 15) dX3_init_15 rfl ⟨by decide, by decide⟩ ?_
  refine hQ _ _ _ _ rfl (fun b hb => ⟨?_, ?_, ?_⟩) ⟨?_, ?_, ?_⟩
  · simp (disch := omega) only [vu_o, vu_s, up2_ne, up2_row, up2_self, so1, ro1, io1]
  · simp (disch := omega) only [vu_o, vu_s, up2_ne, up2_row, up2_self, so1, ro1, io1]
  · simp (disch := omega) only [vu_o, vu_s, up2_ne, up2_row, up2_self, so1, ro1, io1]
  · simp (disch := omega) only [vu_o, vu_s, up2_ne, up2_row, up2_self, so1, ro1, io1]; exact hk
  · simp (disch := omega) only [vu_o, vu_s, up2_ne, up2_row, up2_self, so1, ro1, io1]
  · exact p1_0.mv (fun b b1 b2 => ⟨rfl, by simp (disch := omega) only [vu_o, vu_s, up2_ne, up2_row, up2_self, so1, ro1, io1]⟩)
