set_option maxRecDepth 100000 in
set_option maxHeartbeats 4000000 in
theorem lp_X10_init {Γ : gG} {Q : gQ} {a : Nat} {sh0 : Nat → Nat × Nat} {r0 : gR} {i0 : gI} (hA : gN Γ ≤ a) (hQ : ∀ (T' : gTy) (r' : gR) (l' : gLg) (i' : gI), T'.1 = a + 29 → (∀ b, b < a → T'.2 b = sh0 b ∧ r' b = r0 b ∧ i' b = i0 b) → lyWs T' r' a (fun k => a + 4 + 5 * k) → (∀ b, a ≤ b → b < a + 29 → i' b = fun _ => 0) → Q none T' r' l' i') : ∀ d j (sh : Nat → Nat × Nat) (r : gR) (l : gLg) (i : gI), j + d = 5 → (∀ b, b < a → sh b = sh0 b ∧ r b = r0 b ∧ i b = i0 b) → ((sh a).1 = 10 ∧ r a 0 = some (a + 1) ∧ r a 1 = some (a + 2) ∧ r a 2 = some (a + 3) ∧ sh (a + 1) = (16, 5) ∧ sh (a + 2) = (14, 5) ∧ sh (a + 3) = (13, 5)) → (∀ k, k < j → r (a + 1) k = some (a + 4 + 5 * k) ∧ lyW (a + 4 + 5 * j, sh) r (a + 4 + 5 * k)) → (∀ b, a ≤ b → b < a + 4 + 5 * j → i b = fun _ => 0) → G Γ MX10_init (5 * j + 3) (170 * j + 15) 28 [(0, .ref a), (1, .int (nI j))] [] (a + 4 + 5 * j, sh) r l i Q := by
  intro d
  induction d with
  | zero =>
    intro j sh r l i hj ho ⟨d1, d2, d3, d4, d5, d6, d7⟩ hw hz
    obtain rfl : j = 5 := by omega
    refine G_iload_n (pc := 28) 1 dX10_init_28 rfl ?_
    refine G_iconst (pc := 29) (v := 5) dX10_init_29 rfl ?_
    refine G_icmp_ge (pc := 30) (tgt := 52) dX10_init_30 (by decide) (fun h30 => ?_) (fun h30 => ?_)
    · refine G_vret (pc := 52) dX10_init_52 rfl ⟨by decide, by decide⟩ ?_
      exact hQ _ _ _ _ rfl ho ⟨d1, d2, d3, d4, d5, d6, d7, fun k hk => ⟨(hw k hk).1, (hw k hk).2, by show a + 4 ≤ a + 4 + 5 * k; omega, by show a + 4 + 5 * k + 5 ≤ a + 29; omega⟩, fun k q hk hq hne => by show a + 4 + 5 * k + 5 ≤ a + 4 + 5 * q ∨ a + 4 + 5 * q + 5 ≤ a + 4 + 5 * k; omega⟩ (fun b b1 b2 => hz b b1 (by omega))
    · exact absurd (by decide) h30
  | succ d ih =>
    intro j sh r l i hj ho ⟨d1, d2, d3, d4, d5, d6, d7⟩ hw hz
    refine G_iload_n (pc := 28) 1 dX10_init_28 rfl ?_
    refine G_iconst (pc := 29) (v := 5) dX10_init_29 rfl ?_
    refine G_icmp_ge (pc := 30) (tgt := 52) dX10_init_30 (by decide) (fun h30 => ?_) (fun h30 => ?_)
    · exact absurd h30 (by rw [gl5]; exact nI_ge (by omega) (by omega))
    · refine G_aload_n (pc := 33) 0 dX10_init_33 rfl ?_
      refine G_getR (pc := 34) dX10_init_34 fX10_11 (by assumption) (by assumption) ?_
      refine G_iload_n (pc := 37) 1 dX10_init_37 rfl ?_
      refine G_new (pc := 38) (ci := 9) (C := RX9) (Tb := TX9) (ty0 := tyX9) dX10_init_38 rfl (by decide) rfl inGX9 tyX9_ok (fun j hj => by rcases (show j = 0 ∨ j = 1 ∨ j = 2 ∨ j = 3 ∨ j = 4 ∨ j = 5 ∨ j = 6 ∨ j = 7 ∨ j = 8 ∨ j = 9 by omega) with rfl | rfl | rfl | rfl | rfl | rfl | rfl | rfl | rfl | rfl <;> rfl) clX10_9 insX9 iniX9 (by show 5 * j + 3 + 1 ≤ 28; omega) (by show 170 * j + 15 + 10 ≤ 865; omega) ?_
      dsimp only [gT1, gR1, gL1, gI1]
      refine G_dup (pc := 41) dX10_init_41 rfl ?_
      refine gI0 (pc := 42) (k' := 5 * j + 8) (n' := 170 * j + 185) dX10_init_42 lkX10_25 ⟨by decide, by decide⟩ (Nat.le_of_ble_eq_true rfl) rfl rfl ⟨by show 5 * j + 8 ≤ 28; omega, by show 170 * j + 185 ≤ 865; omega⟩ (c_X9_init (a := a + 4 + 5 * j) rfl (by simp (disch := omega) only [vu_o, vu_s, up2_ne, up2_row, up2_self]) (by omega) (by simp (disch := omega) only [vu_o, vu_s, up2_ne, up2_row, up2_self]) ?_)
      intro T1 r1 l1 i1 e1 o1 p1_0 p1_1
      dsimp only [gRt]
      obtain ⟨t1, s1⟩ := T1
      obtain rfl : t1 = a + 4 + 5 * j + 5 := e1
      dsimp only at o1
      have so1 := fun b hb => (o1 b hb).1
      have ro1 := fun b hb => (o1 b hb).2.1
      have io1 := fun b hb => (o1 b hb).2.2
      refine G_aastWJ (pc := 45) (j := j) dX10_init_45 (by simp (disch := omega) only [vu_o, vu_s, up2_ne, up2_row, up2_self, so1, ro1, io1]; exact d5) rfl (by first | assumption | omega) (by decide) p1_0.1 (by first | assumption | omega) ?_
      refine G_inc1 (pc := 46) (v := 1) dX10_init_46 rfl (by decide) rfl ?_
      refine G_goto (pc := 49) (tgt := 28) dX10_init_49 (by decide) ?_
      rw [nI_1]
      have h := ih (j + 1) s1 (up2 r1 (a + 1) j (some (a + 4 + 5 * j))) l1 i1 (by omega) (fun b hb => ⟨?_, ?_, ?_⟩) ⟨?_, ?_, ?_, ?_, ?_, ?_, ?_⟩ (fun k hk => ?_) (fun b b1 b2 => ?_)
      · rw [show a + 4 + 5 * (j + 1) = a + 4 + 5 * j + 5 by omega, show 5 * (j + 1) + 3 = 5 * j + 8 by omega, show 170 * (j + 1) + 15 = 170 * j + 185 by omega] at h
        exact h
      · simp (disch := omega) only [vu_o, vu_s, up2_ne, up2_row, up2_self, so1, ro1, io1]; exact (ho b hb).1
      · simp (disch := omega) only [vu_o, vu_s, up2_ne, up2_row, up2_self, so1, ro1, io1]; exact (ho b hb).2.1
      · simp (disch := omega) only [vu_o, vu_s, up2_ne, up2_row, up2_self, so1, ro1, io1]; exact (ho b hb).2.2
      · simp (disch := omega) only [vu_o, vu_s, up2_ne, up2_row, up2_self, so1, ro1, io1]; exact d1
      · simp (disch := omega) only [vu_o, vu_s, up2_ne, up2_row, up2_self, so1, ro1, io1]; exact d2
      · simp (disch := omega) only [vu_o, vu_s, up2_ne, up2_row, up2_self, so1, ro1, io1]; exact d3
      · simp (disch := omega) only [vu_o, vu_s, up2_ne, up2_row, up2_self, so1, ro1, io1]; exact d4
      · simp (disch := omega) only [vu_o, vu_s, up2_ne, up2_row, up2_self, so1, ro1, io1]; exact d5
      · simp (disch := omega) only [vu_o, vu_s, up2_ne, up2_row, up2_self, so1, ro1, io1]; exact d6
      · simp (disch := omega) only [vu_o, vu_s, up2_ne, up2_row, up2_self, so1, ro1, io1]; exact d7
      · by_cases hkj : k = j
        · subst hkj
          exact ⟨by simp (disch := omega) only [vu_o, vu_s, up2_ne, up2_row, up2_self, so1, ro1, io1], p1_0.mv (fun b b1 b2 => ⟨rfl, by simp (disch := omega) only [vu_o, vu_s, up2_ne, up2_row, up2_self, so1, ro1, io1]⟩)⟩
        · obtain ⟨g1, g2⟩ := hw k (by omega)
          exact ⟨by simp (disch := omega) only [vu_o, vu_s, up2_ne, up2_row, up2_self, so1, ro1, io1]; exact g1, g2.mv (fun b b1 b2 => ⟨by simp (disch := omega) only [vu_o, vu_s, up2_ne, up2_row, up2_self, so1, ro1, io1], by simp (disch := omega) only [vu_o, vu_s, up2_ne, up2_row, up2_self, so1, ro1, io1]⟩)⟩
      · rcases Nat.lt_or_ge b (a + 4 + 5 * j) with z | z
        · simp (disch := omega) only [vu_o, vu_s, up2_ne, up2_row, up2_self, so1, ro1, io1]; exact hz b b1 z
        · exact p1_1 b z (by omega)
set_option maxRecDepth 100000 in
set_option maxHeartbeats 4000000 in
theorem c_X10_init {Γ : gG} {T : gTy} {r : gR} {l : gLg} {i : gI} {Q : gQ} {a : Nat} (hT : T.1 = a + 1) (hk : (T.2 a).1 = 10) (hA : gN Γ ≤ a) (hz : i a = fun _ => 0) (hQ : ∀ (T' : gTy) (r' : gR) (l' : gLg) (i' : gI), T'.1 = a + 29 → (∀ b, b < a → T'.2 b = T.2 b ∧ r' b = r b ∧ i' b = i b) → lyWs T' r' a (fun k => a + 4 + 5 * k) → (∀ b, a ≤ b → b < a + 29 → i' b = fun _ => 0) → Q none T' r' l' i') : gC Γ MX10_init [.ref a] T r l i Q := by
  obtain ⟨tt, sh⟩ := T
  obtain rfl : tt = a + 1 := hT
  replace hk : (sh a).1 = 10 := hk
  refine gC_of rfl (Nat.le_of_ble_eq_true rfl) (L := [(0, .ref a)]) rfl ?_
  refine G_aload_n (pc := 0) 0 dX10_init_0 rfl ?_
  refine G_objInit (pc := 1) dX10_init_1 oiX10_3 oim oic (by decide) (by decide) ?_
  refine G_aload_n (pc := 4) 0 dX10_init_4 rfl ?_
  refine G_iconst (pc := 5) (v := 5) dX10_init_5 rfl ?_
  refine G_newW (pc := 6) (nn := 5) dX10_init_6 clX10_9 (by decide) (by decide) (by decide) (by decide) (by decide) ?_
  dsimp only [gT1, gR1, gL1, gI1]
  refine G_putF (pc := 9) dX10_init_9 ffX10_11 rfl (by simp (disch := omega) only [vu_o, vu_s, up2_ne, up2_row, up2_self]; exact hk) rfl rfl (by first | assumption | omega) ?_
  refine G_aload_n (pc := 12) 0 dX10_init_12 rfl ?_
  refine G_iconst (pc := 13) (v := 5) dX10_init_13 rfl ?_
  refine G_newZ (pc := 14) (nn := 5) dX10_init_14 acz (by decide) (by decide) (by decide) (by decide) (by decide) ?_
  dsimp only [gT1, gR1, gL1, gI1]
  refine G_putF (pc := 16) dX10_init_16 ffX10_17 rfl (by simp (disch := omega) only [vu_o, vu_s, up2_ne, up2_row, up2_self]; exact hk) rfl rfl (by first | assumption | omega) ?_
  refine G_aload_n (pc := 19) 0 dX10_init_19 rfl ?_
  refine G_iconst (pc := 20) (v := 5) dX10_init_20 rfl ?_
  refine G_newI (pc := 21) (nn := 5) dX10_init_21 aci (by decide) (by decide) (by decide) (by decide) (by decide) ?_
  dsimp only [gT1, gR1, gL1, gI1]
  refine G_putF (pc := 23) dX10_init_23 ffX10_21 rfl (by simp (disch := omega) only [vu_o, vu_s, up2_ne, up2_row, up2_self]; exact hk) rfl rfl (by first | assumption | omega) ?_
  refine G_iconst (pc := 26) (v := 0) dX10_init_26 rfl ?_
  refine G_sn1 (pc := 27) (gSt_in dX10_init_27 rfl (by decide)) rfl ?_
  refine lp_X10_init (sh0 := sh) (r0 := r) (i0 := i) hA hQ 5 0 _ _ _ _ rfl (fun b hb => ⟨?_, ?_, ?_⟩) ⟨?_, ?_, ?_, ?_, ?_, ?_, ?_⟩ (fun k hk => absurd hk (Nat.not_lt_zero k)) (fun b b1 b2 => ?_)
  · simp (disch := omega) only [vu_o, vu_s, up2_ne, up2_row, up2_self]
  · simp (disch := omega) only [vu_o, vu_s, up2_ne, up2_row, up2_self]
  · simp (disch := omega) only [vu_o, vu_s, up2_ne, up2_row, up2_self]
  · simp (disch := omega) only [vu_o, vu_s, up2_ne, up2_row, up2_self]; exact hk
  · simp (disch := omega) only [vu_o, vu_s, up2_ne, up2_row, up2_self]
  · simp (disch := omega) only [vu_o, vu_s, up2_ne, up2_row, up2_self]
  · simp (disch := omega) only [vu_o, vu_s, up2_ne, up2_row, up2_self]
  · simp (disch := omega) only [vu_o, vu_s, up2_ne, up2_row, up2_self]
  · simp (disch := omega) only [vu_o, vu_s, up2_ne, up2_row, up2_self]
  · simp (disch := omega) only [vu_o, vu_s, up2_ne, up2_row, up2_self]
  · rcases (show b = a ∨ b = a + 1 ∨ b = a + 1 + 1 ∨ b = a + 1 + 1 + 1 by omega) with rfl | rfl | rfl | rfl
    · simp (disch := omega) only [vu_o, vu_s, up2_ne, up2_row, up2_self]; exact hz
    · simp (disch := omega) only [vu_o, vu_s, up2_ne, up2_row, up2_self]
    · simp (disch := omega) only [vu_o, vu_s, up2_ne, up2_row, up2_self]
    · simp (disch := omega) only [vu_o, vu_s, up2_ne, up2_row, up2_self]
set_option maxRecDepth 100000 in
set_option maxHeartbeats 4000000 in
theorem c_X6_init {Γ : gG} {T : gTy} {r : gR} {l : gLg} {i : gI} {Q : gQ} {a : Nat} (hT : T.1 = a + 1) (hk : (T.2 a).1 = 6) (hA : gN Γ ≤ a) (hz : i a = fun _ => 0) (hQ : ∀ (T' : gTy) (r' : gR) (l' : gLg) (i' : gI), T'.1 = a + 36 → (∀ b, b < a → T'.2 b = T.2 b ∧ r' b = r b ∧ i' b = i b) → lySt T' r' a (fun k => a + 5 + 4 + 5 * k) → (∀ b, a ≤ b → b < a + 34 → i' b = fun _ => 0) → (i' (a + 35) 0 = 16 ∧ i' (a + 35) 1 = 64 ∧ i' (a + 35) 2 = 8) → Q none T' r' l' i') : gC Γ MX6_init [.ref a] T r l i Q := by
  obtain ⟨tt, sh⟩ := T
  obtain rfl : tt = a + 1 := hT
  replace hk : (sh a).1 = 6 := hk
  refine gC_of rfl (Nat.le_of_ble_eq_true rfl) (L := [(0, .ref a)]) rfl ?_
  refine G_aload_n (pc := 0) 0 dX6_init_0 rfl ?_
  refine G_objInit (pc := 1) dX6_init_1 oiX6_1 oim oic (by decide) (by decide) ?_
  refine G_aload_n (pc := 4) 0 dX6_init_4 rfl ?_
  refine G_new (pc := 5) (ci := 7) (C := RX7) (Tb := TX7) (ty0 := tyX7) dX6_init_5 rfl (by decide) rfl inGX7 tyX7_ok (fun j hj => by rcases (show j = 0 ∨ j = 1 ∨ j = 2 ∨ j = 3 by omega) with rfl | rfl | rfl | rfl <;> rfl) clX6_7 insX7 iniX7 (by decide) (by decide) ?_
  dsimp only [gT1, gR1, gL1, gI1]
  refine G_dup (pc := 8) dX6_init_8 rfl ?_
  refine gI0 (pc := 9) (k' := 4) (n' := 22) dX6_init_9 lkX6_9 ⟨by decide, by decide⟩ (Nat.le_of_ble_eq_true rfl) rfl rfl ⟨by decide, by decide⟩ (c_X7_init (a := a + 1) rfl (by simp (disch := omega) only [vu_o, vu_s, up2_ne, up2_row, up2_self]) (by omega) (by simp (disch := omega) only [vu_o, vu_s, up2_ne, up2_row, up2_self]) ?_)
  intro T1 r1 l1 i1 e1 o1 p1_0 p1_1
  dsimp only [gRt]
  obtain ⟨t1, s1⟩ := T1
  obtain rfl : t1 = a + 1 + 4 := e1
  dsimp only at o1
  have so1 := fun b hb => (o1 b hb).1
  have ro1 := fun b hb => (o1 b hb).2.1
  have io1 := fun b hb => (o1 b hb).2.2
  refine G_putF (pc := 12) dX6_init_12 ffX6_10 rfl (by simp (disch := omega) only [vu_o, vu_s, up2_ne, up2_row, up2_self, so1, ro1, io1]; exact hk) rfl rfl (by first | assumption | omega) ?_
  refine G_aload_n (pc := 15) 0 dX6_init_15 rfl ?_
  refine G_new (pc := 16) (ci := 10) (C := RX10) (Tb := TX10) (ty0 := tyX10) dX6_init_16 rfl (by decide) rfl inGX10 tyX10_ok (fun j hj => by rcases (show j = 0 ∨ j = 1 ∨ j = 2 ∨ j = 3 by omega) with rfl | rfl | rfl | rfl <;> rfl) clX6_16 insX10 iniX10 (by decide) (by decide) ?_
  dsimp only [gT1, gR1, gL1, gI1]
  refine G_dup (pc := 19) dX6_init_19 rfl ?_
  refine gI0 (pc := 20) (k' := 33) (n' := 891) dX6_init_20 lkX6_18 ⟨by decide, by decide⟩ (Nat.le_of_ble_eq_true rfl) rfl rfl ⟨by decide, by decide⟩ (c_X10_init (a := a + 5) rfl (by simp (disch := omega) only [vu_o, vu_s, up2_ne, up2_row, up2_self]) (by omega) (by simp (disch := omega) only [vu_o, vu_s, up2_ne, up2_row, up2_self]) ?_)
  intro T2 r2 l2 i2 e2 o2 p2_0 p2_1
  dsimp only [gRt]
  obtain ⟨t2, s2⟩ := T2
  obtain rfl : t2 = a + 5 + 29 := e2
  dsimp only at o2
  have so2 := fun b hb => (o2 b hb).1
  have ro2 := fun b hb => (o2 b hb).2.1
  have io2 := fun b hb => (o2 b hb).2.2
  refine G_putF (pc := 23) dX6_init_23 ffX6_19 rfl (by simp (disch := omega) only [vu_o, vu_s, up2_ne, up2_row, up2_self, so1, ro1, io1, so2, ro2, io2]; exact hk) rfl rfl (by first | assumption | omega) ?_
  refine G_aload_n (pc := 26) 0 dX6_init_26 rfl ?_
  refine G_new (pc := 27) (ci := 4) (C := RX4) (Tb := TX4) (ty0 := tyX4) dX6_init_27 rfl (by decide) rfl inGX4 tyX4_ok (fun j hj => by have hj1 : j < 1 := hj; have e : j = 0 := (by omega); subst e; rfl) clX6_23 insX4 iniX4 (by decide) (by decide) ?_
  dsimp only [gT1, gR1, gL1, gI1]
  refine G_dup (pc := 30) dX6_init_30 rfl ?_
  refine gI0 (pc := 31) (k' := 35) (n' := 895) dX6_init_31 lkX6_25 ⟨by decide, by decide⟩ (Nat.le_of_ble_eq_true rfl) rfl rfl ⟨by decide, by decide⟩ (c_X4_init (a := a + 34) rfl (by simp (disch := omega) only [vu_o, vu_s, up2_ne, up2_row, up2_self]) (by omega) (by simp (disch := omega) only [vu_o, vu_s, up2_ne, up2_row, up2_self]) ?_)
  intro T3 r3 l3 i3 e3 o3 p3_0 p3_1
  dsimp only [gRt]
  obtain ⟨t3, s3⟩ := T3
  obtain rfl : t3 = a + 34 + 2 := e3
  dsimp only at o3
  have so3 := fun b hb => (o3 b hb).1
  have ro3 := fun b hb => (o3 b hb).2.1
  have io3 := fun b hb => (o3 b hb).2.2
  refine G_putF (pc := 34) dX6_init_34 ffX6_26 rfl (by simp (disch := omega) only [vu_o, vu_s, up2_ne, up2_row, up2_self, so1, ro1, io1, so2, ro2, io2, so3, ro3, io3]; exact hk) rfl rfl (by first | assumption | omega) ?_
  refine G_vret (pc := 37) dX6_init_37 rfl ⟨by decide, by decide⟩ ?_
  refine hQ _ _ _ _ rfl (fun b hb => ⟨?_, ?_, ?_⟩) ⟨?_, ?_, ?_, ?_, ?_, ?_, ?_⟩ (fun b b1 b2 => ?_) p3_1
  · simp (disch := omega) only [vu_o, vu_s, up2_ne, up2_row, up2_self, so1, ro1, io1, so2, ro2, io2, so3, ro3, io3]
  · simp (disch := omega) only [vu_o, vu_s, up2_ne, up2_row, up2_self, so1, ro1, io1, so2, ro2, io2, so3, ro3, io3]
  · simp (disch := omega) only [vu_o, vu_s, up2_ne, up2_row, up2_self, so1, ro1, io1, so2, ro2, io2, so3, ro3, io3]
  · simp (disch := omega) only [vu_o, vu_s, up2_ne, up2_row, up2_self, so1, ro1, io1, so2, ro2, io2, so3, ro3, io3]; exact hk
  · simp (disch := omega) only [vu_o, vu_s, up2_ne, up2_row, up2_self, so1, ro1, io1, so2, ro2, io2, so3, ro3, io3]
  · simp (disch := omega) only [vu_o, vu_s, up2_ne, up2_row, up2_self, so1, ro1, io1, so2, ro2, io2, so3, ro3, io3]
  · simp (disch := omega) only [vu_o, vu_s, up2_ne, up2_row, up2_self, so1, ro1, io1, so2, ro2, io2, so3, ro3, io3]
  · exact p1_0.mv (fun b b1 b2 => ⟨by simp (disch := omega) only [vu_o, vu_s, up2_ne, up2_row, up2_self, so1, ro1, io1, so2, ro2, io2, so3, ro3, io3], by simp (disch := omega) only [vu_o, vu_s, up2_ne, up2_row, up2_self, so1, ro1, io1, so2, ro2, io2, so3, ro3, io3]⟩)
  · exact p2_0.mv (fun b b1 b2 => ⟨by simp (disch := omega) only [vu_o, vu_s, up2_ne, up2_row, up2_self, so1, ro1, io1, so2, ro2, io2, so3, ro3, io3], by simp (disch := omega) only [vu_o, vu_s, up2_ne, up2_row, up2_self, so1, ro1, io1, so2, ro2, io2, so3, ro3, io3]⟩)
  · exact p3_0.mv (fun b b1 b2 => ⟨rfl, by simp (disch := omega) only [vu_o, vu_s, up2_ne, up2_row, up2_self, so1, ro1, io1, so2, ro2, io2, so3, ro3, io3]⟩)
  · rcases Nat.lt_or_ge b (a + 1) with z | z
    · obtain rfl : b = a := by omega
      simp (disch := omega) only [vu_o, vu_s, up2_ne, up2_row, up2_self, so1, ro1, io1, so2, ro2, io2, so3, ro3, io3]; exact hz
    · rcases Nat.lt_or_ge b (a + 5) with z2 | z2
      · simp (disch := omega) only [vu_o, vu_s, up2_ne, up2_row, up2_self, so1, ro1, io1, so2, ro2, io2, so3, ro3, io3]; exact p1_1 b (by omega) (by omega)
      · simp (disch := omega) only [vu_o, vu_s, up2_ne, up2_row, up2_self, so1, ro1, io1, so2, ro2, io2, so3, ro3, io3]; exact p2_1 b (by omega) (by omega)
set_option maxRecDepth 100000 in
set_option maxHeartbeats 4000000 in
theorem lp_X1_init {Γ : gG} {Q : gQ} {a : Nat} {sh0 : Nat → Nat × Nat} {r0 : gR} {i0 : gI} (hA : gN Γ ≤ a) (hQ : ∀ (T' : gTy) (r' : gR) (l' : gLg) (i' : gI), T'.1 = a + 146 → (∀ b, b < a → T'.2 b = sh0 b ∧ r' b = r0 b ∧ i' b = i0 b) → lyH T' r' a (fun k q => a + 2 + 36 * k + 5 + 4 + 5 * q) → (i' a = fun _ => 0) → Q none T' r' l' i') : ∀ d j (sh : Nat → Nat × Nat) (r : gR) (l : gLg) (i : gI), j + d = 4 → (∀ b, b < a → sh b = sh0 b ∧ r b = r0 b ∧ i b = i0 b) → ((sh a).1 = 1 ∧ r a 0 = some (a + 1) ∧ sh (a + 1) = (15, 4)) → (∀ k, k < j → r (a + 1) k = some (a + 2 + 36 * k) ∧ lySt (a + 2 + 36 * j, sh) r (a + 2 + 36 * k) (fun q => a + 2 + 36 * k + 5 + 4 + 5 * q)) → (i a = fun _ => 0) → G Γ MX1_init (36 * j + 1) (898 * j + 4) 14 [(0, .ref a), (1, .int (nI j))] [] (a + 2 + 36 * j, sh) r l i Q := by
  intro d
  induction d with
  | zero =>
    intro j sh r l i hj ho ⟨d1, d2, d3⟩ hw hz
    obtain rfl : j = 4 := by omega
    refine G_iload_n (pc := 14) 1 dX1_init_14 rfl ?_
    refine G_iconst (pc := 15) (v := 4) dX1_init_15 rfl ?_
    refine G_icmp_ge (pc := 16) (tgt := 38) dX1_init_16 (by decide) (fun h16 => ?_) (fun h16 => ?_)
    · refine G_vret (pc := 38) dX1_init_38 rfl ⟨by decide, by decide⟩ ?_
      exact hQ _ _ _ _ rfl ho ⟨d1, d2, d3, fun k hk => hw k hk⟩ hz
    · exact absurd (by decide) h16
  | succ d ih =>
    intro j sh r l i hj ho ⟨d1, d2, d3⟩ hw hz
    refine G_iload_n (pc := 14) 1 dX1_init_14 rfl ?_
    refine G_iconst (pc := 15) (v := 4) dX1_init_15 rfl ?_
    refine G_icmp_ge (pc := 16) (tgt := 38) dX1_init_16 (by decide) (fun h16 => ?_) (fun h16 => ?_)
    · exact absurd h16 (by rw [gl4]; exact nI_ge (by omega) (by omega))
    · refine G_aload_n (pc := 19) 0 dX1_init_19 rfl ?_
      refine G_getR (pc := 20) dX1_init_20 fX1_11 (by assumption) (by assumption) ?_
      refine G_iload_n (pc := 23) 1 dX1_init_23 rfl ?_
      refine G_new (pc := 24) (ci := 6) (C := RX6) (Tb := TX6) (ty0 := tyX6) dX1_init_24 rfl (by decide) rfl inGX6 tyX6_ok (fun j hj => by rcases (show j = 0 ∨ j = 1 ∨ j = 2 by omega) with rfl | rfl | rfl <;> rfl) clX1_9 insX6 iniX6 (by show 36 * j + 1 + 1 ≤ 145; omega) (by show 898 * j + 4 + 3 ≤ 3596; omega) ?_
      dsimp only [gT1, gR1, gL1, gI1]
      refine G_dup (pc := 27) dX1_init_27 rfl ?_
      refine gI0 (pc := 28) (k' := 36 * j + 37) (n' := 898 * j + 902) dX1_init_28 lkX1_17 ⟨by decide, by decide⟩ (Nat.le_of_ble_eq_true rfl) rfl rfl ⟨by show 36 * j + 37 ≤ 145; omega, by show 898 * j + 902 ≤ 3596; omega⟩ (c_X6_init (a := a + 2 + 36 * j) rfl (by simp (disch := omega) only [vu_o, vu_s, up2_ne, up2_row, up2_self]) (by omega) (by simp (disch := omega) only [vu_o, vu_s, up2_ne, up2_row, up2_self]) ?_)
      intro T1 r1 l1 i1 e1 o1 p1_0 p1_1 p1_2
      dsimp only [gRt]
      obtain ⟨t1, s1⟩ := T1
      obtain rfl : t1 = a + 2 + 36 * j + 36 := e1
      dsimp only at o1
      have so1 := fun b hb => (o1 b hb).1
      have ro1 := fun b hb => (o1 b hb).2.1
      have io1 := fun b hb => (o1 b hb).2.2
      refine G_aastSJ (pc := 31) (j := j) dX1_init_31 (by simp (disch := omega) only [vu_o, vu_s, up2_ne, up2_row, up2_self, so1, ro1, io1]; exact d3) rfl (by first | assumption | omega) (by decide) p1_0.1 (by first | assumption | omega) ?_
      refine G_inc1 (pc := 32) (v := 1) dX1_init_32 rfl (by decide) rfl ?_
      refine G_goto (pc := 35) (tgt := 14) dX1_init_35 (by decide) ?_
      rw [nI_1]
      have h := ih (j + 1) s1 (up2 r1 (a + 1) j (some (a + 2 + 36 * j))) l1 i1 (by omega) (fun b hb => ⟨?_, ?_, ?_⟩) ⟨?_, ?_, ?_⟩ (fun k hk => ?_) ?_
      · rw [show a + 2 + 36 * (j + 1) = a + 2 + 36 * j + 36 by omega, show 36 * (j + 1) + 1 = 36 * j + 37 by omega, show 898 * (j + 1) + 4 = 898 * j + 902 by omega] at h
        exact h
      · simp (disch := omega) only [vu_o, vu_s, up2_ne, up2_row, up2_self, so1, ro1, io1]; exact (ho b hb).1
      · simp (disch := omega) only [vu_o, vu_s, up2_ne, up2_row, up2_self, so1, ro1, io1]; exact (ho b hb).2.1
      · simp (disch := omega) only [vu_o, vu_s, up2_ne, up2_row, up2_self, so1, ro1, io1]; exact (ho b hb).2.2
      · simp (disch := omega) only [vu_o, vu_s, up2_ne, up2_row, up2_self, so1, ro1, io1]; exact d1
      · simp (disch := omega) only [vu_o, vu_s, up2_ne, up2_row, up2_self, so1, ro1, io1]; exact d2
      · simp (disch := omega) only [vu_o, vu_s, up2_ne, up2_row, up2_self, so1, ro1, io1]; exact d3
      · by_cases hkj : k = j
        · subst hkj
          exact ⟨by simp (disch := omega) only [vu_o, vu_s, up2_ne, up2_row, up2_self, so1, ro1, io1], p1_0.mv (fun b b1 b2 => ⟨rfl, by simp (disch := omega) only [vu_o, vu_s, up2_ne, up2_row, up2_self, so1, ro1, io1]⟩)⟩
        · obtain ⟨g1, g2⟩ := hw k (by omega)
          exact ⟨by simp (disch := omega) only [vu_o, vu_s, up2_ne, up2_row, up2_self, so1, ro1, io1]; exact g1, g2.mv (fun b b1 b2 => ⟨by simp (disch := omega) only [vu_o, vu_s, up2_ne, up2_row, up2_self, so1, ro1, io1], by simp (disch := omega) only [vu_o, vu_s, up2_ne, up2_row, up2_self, so1, ro1, io1]⟩)⟩
      · simp (disch := omega) only [vu_o, vu_s, up2_ne, up2_row, up2_self, so1, ro1, io1]; exact hz
set_option maxRecDepth 100000 in
set_option maxHeartbeats 4000000 in
theorem c_X1_init {Γ : gG} {T : gTy} {r : gR} {l : gLg} {i : gI} {Q : gQ} {a : Nat} (hT : T.1 = a + 1) (hk : (T.2 a).1 = 1) (hA : gN Γ ≤ a) (hz : i a = fun _ => 0) (hQ : ∀ (T' : gTy) (r' : gR) (l' : gLg) (i' : gI), T'.1 = a + 146 → (∀ b, b < a → T'.2 b = T.2 b ∧ r' b = r b ∧ i' b = i b) → lyH T' r' a (fun k q => a + 2 + 36 * k + 5 + 4 + 5 * q) → (i' a = fun _ => 0) → Q none T' r' l' i') : gC Γ MX1_init [.ref a] T r l i Q := by
  obtain ⟨tt, sh⟩ := T
  obtain rfl : tt = a + 1 := hT
  replace hk : (sh a).1 = 1 := hk
  refine gC_of rfl (Nat.le_of_ble_eq_true rfl) (L := [(0, .ref a)]) rfl ?_
  refine G_aload_n (pc := 0) 0 dX1_init_0 rfl ?_
  refine G_objInit (pc := 1) dX1_init_1 oiX1_3 oim oic (by decide) (by decide) ?_
  refine G_aload_n (pc := 4) 0 dX1_init_4 rfl ?_
  refine G_iconst (pc := 5) (v := 4) dX1_init_5 rfl ?_
  refine G_newS (pc := 6) (nn := 4) dX1_init_6 clX1_9 (by decide) (by decide) (by decide) (by decide) (by decide) ?_
  dsimp only [gT1, gR1, gL1, gI1]
  refine G_putF (pc := 9) dX1_init_9 ffX1_11 rfl (by simp (disch := omega) only [vu_o, vu_s, up2_ne, up2_row, up2_self]; exact hk) rfl rfl (by first | assumption | omega) ?_
  refine G_iconst (pc := 12) (v := 0) dX1_init_12 rfl ?_
  refine G_sn1 (pc := 13) (gSt_in dX1_init_13 rfl (by decide)) rfl ?_
  refine lp_X1_init (sh0 := sh) (r0 := r) (i0 := i) hA hQ 4 0 _ _ _ _ rfl (fun b hb => ⟨?_, ?_, ?_⟩) ⟨?_, ?_, ?_⟩ (fun k hk => absurd hk (Nat.not_lt_zero k)) ?_
  · simp (disch := omega) only [vu_o, vu_s, up2_ne, up2_row, up2_self]
  · simp (disch := omega) only [vu_o, vu_s, up2_ne, up2_row, up2_self]
  · simp (disch := omega) only [vu_o, vu_s, up2_ne, up2_row, up2_self]
  · simp (disch := omega) only [vu_o, vu_s, up2_ne, up2_row, up2_self]; exact hk
  · simp (disch := omega) only [vu_o, vu_s, up2_ne, up2_row, up2_self]
  · simp (disch := omega) only [vu_o, vu_s, up2_ne, up2_row, up2_self]
  · simp (disch := omega) only [vu_o, vu_s, up2_ne, up2_row, up2_self]; exact hz
set_option maxRecDepth 100000 in
set_option maxHeartbeats 4000000 in
theorem c_X11_init {Γ : gG} {T : gTy} {r : gR} {l : gLg} {i : gI} {Q : gQ} {a : Nat} (hT : T.1 = a + 1) (hk : (T.2 a).1 = 11) (hA : gN Γ ≤ a) (hz : i a = fun _ => 0) (hQ : ∀ (T' : gTy) (r' : gR) (l' : gLg) (i' : gI), T'.1 = a + 194 → (∀ b, b < a → T'.2 b = T.2 b ∧ r' b = r b ∧ i' b = i b) → lyX T' r' a (fun k => a + 1 + 5 + 4 + 5 * k) (fun k q => a + 37 + 2 + 36 * k + 5 + 4 + 5 * q) → (∀ b, a + 1 ≤ b → b < a + 35 → i' b = fun _ => 0) → (i' (a + 1 + 35) 0 = 16 ∧ i' (a + 1 + 35) 1 = 64 ∧ i' (a + 1 + 35) 2 = 8) → (i' (a + 37) = fun _ => 0) → (i' (a + 187) = fun _ => 0) → (i' (a + 187 + 1) = fun _ => 0) → Q none T' r' l' i') : gC Γ MX11_init [.ref a] T r l i Q := by
  obtain ⟨tt, sh⟩ := T
  obtain rfl : tt = a + 1 := hT
  replace hk : (sh a).1 = 11 := hk
  refine gC_of rfl (Nat.le_of_ble_eq_true rfl) (L := [(0, .ref a)]) rfl ?_
  refine G_aload_n (pc := 0) 0 dX11_init_0 rfl ?_
  refine G_objInit (pc := 1) dX11_init_1 oiX11_1 oim oic (by decide) (by decide) ?_
  refine G_aload_n (pc := 4) 0 dX11_init_4 rfl ?_
  refine G_new (pc := 5) (ci := 6) (C := RX6) (Tb := TX6) (ty0 := tyX6) dX11_init_5 rfl (by decide) rfl inGX6 tyX6_ok (fun j hj => by rcases (show j = 0 ∨ j = 1 ∨ j = 2 by omega) with rfl | rfl | rfl <;> rfl) clX11_7 insX6 iniX6 (by decide) (by decide) ?_
  dsimp only [gT1, gR1, gL1, gI1]
  refine G_dup (pc := 8) dX11_init_8 rfl ?_
  refine gI0 (pc := 9) (k' := 36) (n' := 898) dX11_init_9 lkX11_9 ⟨by decide, by decide⟩ (Nat.le_of_ble_eq_true rfl) rfl rfl ⟨by decide, by decide⟩ (c_X6_init (a := a + 1) rfl (by simp (disch := omega) only [vu_o, vu_s, up2_ne, up2_row, up2_self]) (by omega) (by simp (disch := omega) only [vu_o, vu_s, up2_ne, up2_row, up2_self]) ?_)
  intro T1 r1 l1 i1 e1 o1 p1_0 p1_1 p1_2
  dsimp only [gRt]
  obtain ⟨t1, s1⟩ := T1
  obtain rfl : t1 = a + 1 + 36 := e1
  dsimp only at o1
  have so1 := fun b hb => (o1 b hb).1
  have ro1 := fun b hb => (o1 b hb).2.1
  have io1 := fun b hb => (o1 b hb).2.2
  refine G_putF (pc := 12) dX11_init_12 ffX11_10 rfl (by simp (disch := omega) only [vu_o, vu_s, up2_ne, up2_row, up2_self, so1, ro1, io1]; exact hk) rfl rfl (by first | assumption | omega) ?_
  refine G_aload_n (pc := 15) 0 dX11_init_15 rfl ?_
  refine G_new (pc := 16) (ci := 1) (C := RX1) (Tb := TX1) (ty0 := tyX1) dX11_init_16 rfl (by decide) rfl inGX1 tyX1_ok (fun j hj => by rcases (show j = 0 ∨ j = 1 ∨ j = 2 by omega) with rfl | rfl | rfl <;> rfl) clX11_16 insX1 iniX1 (by decide) (by decide) ?_
  dsimp only [gT1, gR1, gL1, gI1]
  refine G_dup (pc := 19) dX11_init_19 rfl ?_
  refine gI0 (pc := 20) (k' := 182) (n' := 4497) dX11_init_20 lkX11_18 ⟨by decide, by decide⟩ (Nat.le_of_ble_eq_true rfl) rfl rfl ⟨by decide, by decide⟩ (c_X1_init (a := a + 37) rfl (by simp (disch := omega) only [vu_o, vu_s, up2_ne, up2_row, up2_self]) (by omega) (by simp (disch := omega) only [vu_o, vu_s, up2_ne, up2_row, up2_self]) ?_)
  intro T2 r2 l2 i2 e2 o2 p2_0 p2_1
  dsimp only [gRt]
  obtain ⟨t2, s2⟩ := T2
  obtain rfl : t2 = a + 37 + 146 := e2
  dsimp only at o2
  have so2 := fun b hb => (o2 b hb).1
  have ro2 := fun b hb => (o2 b hb).2.1
  have io2 := fun b hb => (o2 b hb).2.2
  refine G_putF (pc := 23) dX11_init_23 ffX11_19 rfl (by simp (disch := omega) only [vu_o, vu_s, up2_ne, up2_row, up2_self, so1, ro1, io1, so2, ro2, io2]; exact hk) rfl rfl (by first | assumption | omega) ?_
  refine G_aload_n (pc := 26) 0 dX11_init_26 rfl ?_
  refine G_new (pc := 27) (ci := 2) (C := RX2) (Tb := TX2) (ty0 := tyX2) dX11_init_27 rfl (by decide) rfl inGX2 tyX2_ok (fun j hj => by rcases (show j = 0 ∨ j = 1 by omega) with rfl | rfl <;> rfl) clX11_23 insX2 iniX2 (by decide) (by decide) ?_
  dsimp only [gT1, gR1, gL1, gI1]
  refine G_dup (pc := 30) dX11_init_30 rfl ?_
  refine gI0 (pc := 31) (k' := 186) (n' := 4509) dX11_init_31 lkX11_25 ⟨by decide, by decide⟩ (Nat.le_of_ble_eq_true rfl) rfl rfl ⟨by decide, by decide⟩ (c_X2_init (a := a + 183) rfl (by simp (disch := omega) only [vu_o, vu_s, up2_ne, up2_row, up2_self]) (by omega) (by simp (disch := omega) only [vu_o, vu_s, up2_ne, up2_row, up2_self]) ?_)
  intro T3 r3 l3 i3 e3 o3 p3_0
  dsimp only [gRt]
  obtain ⟨t3, s3⟩ := T3
  obtain rfl : t3 = a + 183 + 4 := e3
  dsimp only at o3
  have so3 := fun b hb => (o3 b hb).1
  have ro3 := fun b hb => (o3 b hb).2.1
  have io3 := fun b hb => (o3 b hb).2.2
  refine G_putF (pc := 34) dX11_init_34 ffX11_26 rfl (by simp (disch := omega) only [vu_o, vu_s, up2_ne, up2_row, up2_self, so1, ro1, io1, so2, ro2, io2, so3, ro3, io3]; exact hk) rfl rfl (by first | assumption | omega) ?_
  refine G_aload_n (pc := 37) 0 dX11_init_37 rfl ?_
  refine G_new (pc := 38) (ci := 8) (C := RX8) (Tb := TX8) (ty0 := tyX8) dX11_init_38 rfl (by decide) rfl inGX8 tyX8_ok (fun j hj => by rcases (show j = 0 ∨ j = 1 by omega) with rfl | rfl <;> rfl) clX11_30 insX8 iniX8 (by decide) (by decide) ?_
  dsimp only [gT1, gR1, gL1, gI1]
  refine G_dup (pc := 41) dX11_init_41 rfl ?_
  refine gI0 (pc := 42) (k' := 188) (n' := 4571) dX11_init_42 lkX11_32 ⟨by decide, by decide⟩ (Nat.le_of_ble_eq_true rfl) rfl rfl ⟨by decide, by decide⟩ (c_X8_init (a := a + 187) rfl (by simp (disch := omega) only [vu_o, vu_s, up2_ne, up2_row, up2_self]) (by omega) (by simp (disch := omega) only [vu_o, vu_s, up2_ne, up2_row, up2_self]) ?_)
  intro T4 r4 l4 i4 e4 o4 p4_0 p4_1
  dsimp only [gRt]
  obtain ⟨t4, s4⟩ := T4
  obtain rfl : t4 = a + 187 + 2 := e4
  dsimp only at o4
  have so4 := fun b hb => (o4 b hb).1
  have ro4 := fun b hb => (o4 b hb).2.1
  have io4 := fun b hb => (o4 b hb).2.2
  refine G_putF (pc := 45) dX11_init_45 ffX11_33 rfl (by simp (disch := omega) only [vu_o, vu_s, up2_ne, up2_row, up2_self, so1, ro1, io1, so2, ro2, io2, so3, ro3, io3, so4, ro4, io4]; exact hk) rfl rfl (by first | assumption | omega) ?_
  refine G_aload_n (pc := 48) 0 dX11_init_48 rfl ?_
  refine G_new (pc := 49) (ci := 3) (C := RX3) (Tb := TX3) (ty0 := tyX3) dX11_init_49 rfl (by decide) rfl inGX3 tyX3_ok (fun j hj => by rcases (show j = 0 ∨ j = 1 ∨ j = 2 ∨ j = 3 ∨ j = 4 ∨ j = 5 ∨ j = 6 ∨ j = 7 by omega) with rfl | rfl | rfl | rfl | rfl | rfl | rfl | rfl <;> rfl) clX11_37 insX3 iniX3 (by decide) (by decide) ?_
  dsimp only [gT1, gR1, gL1, gI1]
  refine G_dup (pc := 52) dX11_init_52 rfl ?_
  refine gI0 (pc := 53) (k' := 193) (n' := 4601) dX11_init_53 lkX11_39 ⟨by decide, by decide⟩ (Nat.le_of_ble_eq_true rfl) rfl rfl ⟨by decide, by decide⟩ (c_X3_init (a := a + 189) rfl (by simp (disch := omega) only [vu_o, vu_s, up2_ne, up2_row, up2_self]) (by omega) (by simp (disch := omega) only [vu_o, vu_s, up2_ne, up2_row, up2_self]) ?_)
  intro T5 r5 l5 i5 e5 o5 p5_0
  dsimp only [gRt]
  obtain ⟨t5, s5⟩ := T5
  obtain rfl : t5 = a + 189 + 5 := e5
  dsimp only at o5
  have so5 := fun b hb => (o5 b hb).1
  have ro5 := fun b hb => (o5 b hb).2.1
  have io5 := fun b hb => (o5 b hb).2.2
  refine G_putF (pc := 56) dX11_init_56 ffX11_40 rfl (by simp (disch := omega) only [vu_o, vu_s, up2_ne, up2_row, up2_self, so1, ro1, io1, so2, ro2, io2, so3, ro3, io3, so4, ro4, io4, so5, ro5, io5]; exact hk) rfl rfl (by first | assumption | omega) ?_
  refine G_vret (pc := 59) dX11_init_59 rfl ⟨by decide, by decide⟩ ?_
  refine hQ _ _ _ _ rfl (fun b hb => ⟨?_, ?_, ?_⟩) ⟨?_, ?_, ?_, ?_, ?_, ?_, ?_, ?_, ?_, ?_, ?_⟩ (fun b b1 b2 => ?_) ?_ ?_ ?_ ?_
  · simp (disch := omega) only [vu_o, vu_s, up2_ne, up2_row, up2_self, so1, ro1, io1, so2, ro2, io2, so3, ro3, io3, so4, ro4, io4, so5, ro5, io5]
  · simp (disch := omega) only [vu_o, vu_s, up2_ne, up2_row, up2_self, so1, ro1, io1, so2, ro2, io2, so3, ro3, io3, so4, ro4, io4, so5, ro5, io5]
  · simp (disch := omega) only [vu_o, vu_s, up2_ne, up2_row, up2_self, so1, ro1, io1, so2, ro2, io2, so3, ro3, io3, so4, ro4, io4, so5, ro5, io5]
  · simp (disch := omega) only [vu_o, vu_s, up2_ne, up2_row, up2_self, so1, ro1, io1, so2, ro2, io2, so3, ro3, io3, so4, ro4, io4, so5, ro5, io5]; exact hk
  · simp (disch := omega) only [vu_o, vu_s, up2_ne, up2_row, up2_self, so1, ro1, io1, so2, ro2, io2, so3, ro3, io3, so4, ro4, io4, so5, ro5, io5]
  · simp (disch := omega) only [vu_o, vu_s, up2_ne, up2_row, up2_self, so1, ro1, io1, so2, ro2, io2, so3, ro3, io3, so4, ro4, io4, so5, ro5, io5]
  · simp (disch := omega) only [vu_o, vu_s, up2_ne, up2_row, up2_self, so1, ro1, io1, so2, ro2, io2, so3, ro3, io3, so4, ro4, io4, so5, ro5, io5]
  · simp (disch := omega) only [vu_o, vu_s, up2_ne, up2_row, up2_self, so1, ro1, io1, so2, ro2, io2, so3, ro3, io3, so4, ro4, io4, so5, ro5, io5]
  · simp (disch := omega) only [vu_o, vu_s, up2_ne, up2_row, up2_self, so1, ro1, io1, so2, ro2, io2, so3, ro3, io3, so4, ro4, io4, so5, ro5, io5]
  · exact p1_0.mv (fun b b1 b2 => ⟨by simp (disch := omega) only [vu_o, vu_s, up2_ne, up2_row, up2_self, so1, ro1, io1, so2, ro2, io2, so3, ro3, io3, so4, ro4, io4, so5, ro5, io5], by simp (disch := omega) only [vu_o, vu_s, up2_ne, up2_row, up2_self, so1, ro1, io1, so2, ro2, io2, so3, ro3, io3, so4, ro4, io4, so5, ro5, io5]⟩)
  · exact p2_0.mv (fun b b1 b2 => ⟨by simp (disch := omega) only [vu_o, vu_s, up2_ne, up2_row, up2_self, so1, ro1, io1, so2, ro2, io2, so3, ro3, io3, so4, ro4, io4, so5, ro5, io5], by simp (disch := omega) only [vu_o, vu_s, up2_ne, up2_row, up2_self, so1, ro1, io1, so2, ro2, io2, so3, ro3, io3, so4, ro4, io4, so5, ro5, io5]⟩)
  · exact p3_0.mv (fun b b1 b2 => ⟨by simp (disch := omega) only [vu_o, vu_s, up2_ne, up2_row, up2_self, so1, ro1, io1, so2, ro2, io2, so3, ro3, io3, so4, ro4, io4, so5, ro5, io5], by simp (disch := omega) only [vu_o, vu_s, up2_ne, up2_row, up2_self, so1, ro1, io1, so2, ro2, io2, so3, ro3, io3, so4, ro4, io4, so5, ro5, io5]⟩)
  · exact p4_0.mv (fun b b1 b2 => ⟨by simp (disch := omega) only [vu_o, vu_s, up2_ne, up2_row, up2_self, so1, ro1, io1, so2, ro2, io2, so3, ro3, io3, so4, ro4, io4, so5, ro5, io5], by simp (disch := omega) only [vu_o, vu_s, up2_ne, up2_row, up2_self, so1, ro1, io1, so2, ro2, io2, so3, ro3, io3, so4, ro4, io4, so5, ro5, io5]⟩)
  · exact p5_0.mv (fun b b1 b2 => ⟨rfl, by simp (disch := omega) only [vu_o, vu_s, up2_ne, up2_row, up2_self, so1, ro1, io1, so2, ro2, io2, so3, ro3, io3, so4, ro4, io4, so5, ro5, io5]⟩)
  · simp (disch := omega) only [vu_o, vu_s, up2_ne, up2_row, up2_self, so1, ro1, io1, so2, ro2, io2, so3, ro3, io3, so4, ro4, io4, so5, ro5, io5]; exact p1_1 b b1 (by omega)
  · simp (disch := omega) only [vu_o, vu_s, up2_ne, up2_row, up2_self, so1, ro1, io1, so2, ro2, io2, so3, ro3, io3, so4, ro4, io4, so5, ro5, io5]; exact p1_2
  · simp (disch := omega) only [vu_o, vu_s, up2_ne, up2_row, up2_self, so1, ro1, io1, so2, ro2, io2, so3, ro3, io3, so4, ro4, io4, so5, ro5, io5]; exact p2_1
  · simp (disch := omega) only [vu_o, vu_s, up2_ne, up2_row, up2_self, so1, ro1, io1, so2, ro2, io2, so3, ro3, io3, so4, ro4, io4, so5, ro5, io5]; exact p4_1 _ (by omega) (by omega)
  · simp (disch := omega) only [vu_o, vu_s, up2_ne, up2_row, up2_self, so1, ro1, io1, so2, ro2, io2, so3, ro3, io3, so4, ro4, io4, so5, ro5, io5]; exact p4_1 _ (by omega) (by omega)
