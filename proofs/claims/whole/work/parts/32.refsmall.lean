/-! the reference: its flat state, written -/
theorem up2_va0 {α : Type} (f : Nat → Nat → α) (a j : Nat) (x : α) : up2 f a j x = va_up f a (fun q => if q = j then x else f a q) := rfl
theorem up2_u {i : gI} {a j : Nat} {x : Int32} : up2 i a j x = va_up i a (upd (i a) j x) := rfl
theorem up2_v {i : gI} {a j : Nat} {x : Int32} {F : Nat → Int32} : up2 (va_up i a F) a j x = va_up i a (upd F j x) := by
  funext b q
  by_cases h : b = a <;> simp [up2, va_up, upd, h]
theorem up2_5 {i : gI} {a p1 p2 p3 p4 p5 : Nat} {x1 x2 x3 x4 x5 : Int32} : up2 (up2 (up2 (up2 (up2 i a p1 x1) a p2 x2) a p3 x3) a p4 x4) a p5 x5 = va_up i a (upd (upd (upd (upd (upd (i a) p1 x1) p2 x2) p3 x3) p4 x4) p5 x5) := by
  rw [show up2 i a p1 x1 = va_up i a (upd (i a) p1 x1) from rfl, up2_v, up2_v, up2_v, up2_v]
theorem va_s {i : gI} {a : Nat} {F : Nat → Int32} : va_up i a F a = F := by simp [va_up]
theorem va_o {i : gI} {a b : Nat} {F : Nat → Int32} (h : b ≠ a) : va_up i a F b = i b := by simp [va_up, h]
theorem va_vv {i : gI} {a : Nat} {F H : Nat → Int32} : va_up (va_up i a F) a H = va_up i a H := by
  funext b; by_cases h : b = a <;> simp [va_up, h]
theorem upd_s {f : Nat → Int32} {k : Nat} {x : Int32} : upd f k x k = x := by simp [upd]
theorem upd_o {f : Nat → Int32} {k j : Nat} {x : Int32} (h : j ≠ k) : upd f k x j = f j := by simp [upd, h]
/-- the flat state is F now; the working fields may have moved -/
def frN (m : Nat) (i i' : gI) (F : Nat → Int32) : Prop := (∀ c, c ≠ m → c ≠ m + 1 → i' c = i c) ∧ (∀ j, j ≠ 6 → j ≠ 7 → j ≠ 8 → i' m j = i m j) ∧ i' (m + 1) = F
theorem frN.rf {m : Nat} {i : gI} : frN m i i (i (m + 1)) := ⟨fun _ _ _ => rfl, fun _ _ _ _ => rfl, rfl⟩
theorem frN.tr {m : Nat} {i j k : gI} {F H : Nat → Int32} (h : frN m i j F) (g : frN m j k H) : frN m i k H := ⟨fun c c1 c2 => (g.1 c c1 c2).trans (h.1 c c1 c2), fun q q1 q2 q3 => (g.2.1 q q1 q2 q3).trans (h.2.1 q q1 q2 q3), g.2.2⟩
theorem frN.cor {m : Nat} {i j k : gI} {F : Nat → Int32} (h : frN m i j F) (g : frM m j k) : frN m i k F := ⟨fun c c1 c2 => (g.1 c c1).trans (h.1 c c1 c2), fun q q1 q2 q3 => (g.2 q q1 q2 q3).trans (h.2.1 q q1 q2 q3), (g.1 (m + 1) (by omega)).trans h.2.2⟩
theorem frN.row {m : Nat} {i j : gI} {F H : Nat → Int32} (h : frN m i j F) : frN m i (va_up j (m + 1) H) H := ⟨fun c c1 c2 => by rw [va_o c2]; exact h.1 c c1 c2, fun q q1 q2 q3 => by rw [va_o (by omega)]; exact h.2.1 q q1 q2 q3, va_s⟩
theorem frN.put {m a : Nat} {i j : gI} {F : Nat → Int32} {x : Int32} (h : frN m i j F) : frN m i (up2 j (m + 1) a x) (upd F a x) := by
  rw [up2_u, h.2.2]; exact h.row
theorem mv.flat {s s' : Nat → Int32} {n : Nat} {f : Nat → Int32} {p q : Nat → Nat} (h : mv s n f p q) (h0 : s' 0 = s 0) (hf : ∀ j, 5 ≤ j → j < 23 → s' j = s j) : mv s' n f p q := by
  obtain ⟨h1, h2, h3⟩ := h
  exact ⟨h1, h0.trans h2, fun k hk => by rw [hf _ (by omega) (by omega), hf _ (by omega) (by omega), hf _ (by omega) (by omega)]; exact h3 k hk⟩
set_option maxRecDepth 100000 in
set_option maxHeartbeats 4000000 in
theorem c_X12_walkAt {Γ : gG} {T : gTy} {r : gR} {l : gLg} {i : gI} {Q : gQ} {k : Nat} (hQ : Q (some (.int (nI (23 + 166 * k)))) T r l i) : gC Γ MX12_walkAt [.int (nI k)] T r l i Q := by
  refine gC_of rfl (Nat.le_of_ble_eq_true rfl) (L := [(0, .int (nI k))]) rfl ?_
  refine G_bipush (pc := 0) (v := 23) dX12_walkAt_0 rfl ?_
  refine G_sipush (pc := 2) (v := 166) dX12_walkAt_2 rfl ?_
  refine G_iload_n (pc := 5) 0 dX12_walkAt_5 rfl ?_
  refine G_imul (pc := 6) dX12_walkAt_6 ?_
  refine G_iadd (pc := 7) dX12_walkAt_7 ?_
  rw [gl23, gl166, pk_mul, nI_add]
  refine G_iret (pc := 8) dX12_walkAt_8 ⟨_, rfl, rfl⟩ ⟨by decide, by decide⟩ ?_
  exact hQ

set_option maxRecDepth 100000 in
set_option maxHeartbeats 4000000 in
theorem c_X12_walkPart {Γ : gG} {T : gTy} {r : gR} {l : gLg} {i : gI} {Q : gQ} {m k j : Nat} (hM : lyM T r m) (hk : 23 + 166 * k + j < 853) (hQ : Q (some (.int (i (m + 1) (23 + 166 * k + j)))) T r l i) : gC Γ MX12_walkPart [.ref m, .int (nI k), .int (nI j)] T r l i Q := by
  obtain ⟨m0, m1, m2, m3, m4, m5, m6, m7, m8, m9, m10⟩ := hM
  refine gC_of rfl (Nat.le_of_ble_eq_true rfl) (L := [(0, .ref m), (1, .int (nI k)), (2, .int (nI j))]) rfl ?_
  refine G_aload_n (pc := 0) 0 dX12_walkPart_0 rfl ?_
  refine G_getR (pc := 1) dX12_walkPart_1 fX12_7 (by assumption) (by assumption) ?_
  refine G_iload_n (pc := 4) 1 dX12_walkPart_4 rfl ?_
  refine gS1 (pc := 5) (k' := 0) (n' := 0) dX12_walkPart_5 lkX12_76 ⟨by decide, by decide⟩ (Nat.le_of_ble_eq_true rfl) rfl rfl ⟨by decide, by decide⟩ (c_X12_walkAt ?_)
  dsimp only [gRt]
  refine G_iload_n (pc := 8) 2 dX12_walkPart_8 rfl ?_
  refine G_iadd (pc := 9) dX12_walkPart_9 ?_
  rw [nI_add]
  refine G_ialdJ (pc := 10) (j := 23 + 166 * k + j) dX12_walkPart_10 (by assumption) rfl (by first | assumption | omega) (by decide) ?_
  refine G_iret (pc := 11) dX12_walkPart_11 ⟨_, rfl, rfl⟩ ⟨by decide, by decide⟩ ?_
  exact hQ

set_option maxRecDepth 100000 in
set_option maxHeartbeats 4000000 in
theorem c_X12_puts {Γ : gG} {T : gTy} {r : gR} {l : gLg} {i : gI} {Q : gQ} {m k j : Nat} {v : Int32} (hM : lyM T r m) (hA : gN Γ ≤ m) (hk : 23 + 166 * k + j < 853) (hQ : Q none T r l (up2 i (m + 1) (23 + 166 * k + j) v)) : gC Γ MX12_puts [.ref m, .int (nI k), .int (nI j), .int v] T r l i Q := by
  obtain ⟨m0, m1, m2, m3, m4, m5, m6, m7, m8, m9, m10⟩ := hM
  refine gC_of rfl (Nat.le_of_ble_eq_true rfl) (L := [(0, .ref m), (1, .int (nI k)), (2, .int (nI j)), (3, .int v)]) rfl ?_
  refine G_aload_n (pc := 0) 0 dX12_puts_0 rfl ?_
  refine G_getR (pc := 1) dX12_puts_1 fX12_7 (by assumption) (by assumption) ?_
  refine G_iload_n (pc := 4) 1 dX12_puts_4 rfl ?_
  refine gS1 (pc := 5) (k' := 0) (n' := 0) dX12_puts_5 lkX12_76 ⟨by decide, by decide⟩ (Nat.le_of_ble_eq_true rfl) rfl rfl ⟨by decide, by decide⟩ (c_X12_walkAt ?_)
  dsimp only [gRt]
  refine G_iload_n (pc := 8) 2 dX12_puts_8 rfl ?_
  refine G_iadd (pc := 9) dX12_puts_9 ?_
  rw [nI_add]
  refine G_iload_n (pc := 10) 3 dX12_puts_10 rfl ?_
  refine G_iastJ (pc := 11) (j := 23 + 166 * k + j) dX12_puts_11 (by assumption) rfl (by first | assumption | omega) (by decide) (by first | assumption | omega) ?_
  refine G_vret (pc := 12) dX12_puts_12 rfl ⟨by decide, by decide⟩ ?_
  exact hQ

set_option maxRecDepth 100000 in
set_option maxHeartbeats 4000000 in
theorem c_X12_places {Γ : gG} {T : gTy} {r : gR} {l : gLg} {i : gI} {Q : gQ} {m k : Nat} (hM : lyM T r m) (hk : 23 + 166 * k < 853) (hQ : Q (some (.int (i (m + 1) (23 + 166 * k)))) T r l i) : gC Γ MX12_places [.ref m, .int (nI k)] T r l i Q := by
  obtain ⟨m0, m1, m2, m3, m4, m5, m6, m7, m8, m9, m10⟩ := hM
  refine gC_of rfl (Nat.le_of_ble_eq_true rfl) (L := [(0, .ref m), (1, .int (nI k))]) rfl ?_
  refine G_aload_n (pc := 0) 0 dX12_places_0 rfl ?_
  refine G_getR (pc := 1) dX12_places_1 fX12_7 (by assumption) (by assumption) ?_
  refine G_iload_n (pc := 4) 1 dX12_places_4 rfl ?_
  refine gS1 (pc := 5) (k' := 0) (n' := 0) dX12_places_5 lkX12_76 ⟨by decide, by decide⟩ (Nat.le_of_ble_eq_true rfl) rfl rfl ⟨by decide, by decide⟩ (c_X12_walkAt ?_)
  dsimp only [gRt]
  refine G_ialdJ (pc := 8) (j := 23 + 166 * k) dX12_places_8 (by assumption) rfl (by first | assumption | omega) (by decide) ?_
  refine G_iret (pc := 9) dX12_places_9 ⟨_, rfl, rfl⟩ ⟨by decide, by decide⟩ ?_
  exact hQ

set_option maxRecDepth 100000 in
set_option maxHeartbeats 4000000 in
theorem c_X12_placePart {Γ : gG} {T : gTy} {r : gR} {l : gLg} {i : gI} {Q : gQ} {m k p c : Nat} (hM : lyM T r m) (hk : 23 + 166 * k + 6 + 4 * p + c < 853) (hQ : Q (some (.int (i (m + 1) (23 + 166 * k + 6 + 4 * p + c)))) T r l i) : gC Γ MX12_placePart [.ref m, .int (nI k), .int (nI p), .int (nI c)] T r l i Q := by
  obtain ⟨m0, m1, m2, m3, m4, m5, m6, m7, m8, m9, m10⟩ := hM
  refine gC_of rfl (Nat.le_of_ble_eq_true rfl) (L := [(0, .ref m), (1, .int (nI k)), (2, .int (nI p)), (3, .int (nI c))]) rfl ?_
  refine G_aload_n (pc := 0) 0 dX12_placePart_0 rfl ?_
  refine G_getR (pc := 1) dX12_placePart_1 fX12_7 (by assumption) (by assumption) ?_
  refine G_iload_n (pc := 4) 1 dX12_placePart_4 rfl ?_
  refine gS1 (pc := 5) (k' := 0) (n' := 0) dX12_placePart_5 lkX12_76 ⟨by decide, by decide⟩ (Nat.le_of_ble_eq_true rfl) rfl rfl ⟨by decide, by decide⟩ (c_X12_walkAt ?_)
  dsimp only [gRt]
  refine G_bipush (pc := 8) (v := 6) dX12_placePart_8 rfl ?_
  refine G_iadd (pc := 10) dX12_placePart_10 ?_
  rw [gl6, nI_add]
  refine G_iconst (pc := 11) (v := 4) dX12_placePart_11 rfl ?_
  refine G_iload_n (pc := 12) 2 dX12_placePart_12 rfl ?_
  refine G_imul (pc := 13) dX12_placePart_13 ?_
  rw [gl4, pk_mul]
  refine G_iadd (pc := 14) dX12_placePart_14 ?_
  rw [nI_add]
  refine G_iload_n (pc := 15) 3 dX12_placePart_15 rfl ?_
  refine G_iadd (pc := 16) dX12_placePart_16 ?_
  rw [nI_add]
  refine G_ialdJ (pc := 17) (j := 23 + 166 * k + 6 + 4 * p + c) dX12_placePart_17 (by assumption) rfl (by first | assumption | omega) (by decide) ?_
  refine G_iret (pc := 18) dX12_placePart_18 ⟨_, rfl, rfl⟩ ⟨by decide, by decide⟩ ?_
  exact hQ

set_option maxRecDepth 100000 in
set_option maxHeartbeats 4000000 in
theorem c_X12_isWalk {Γ : gG} {T : gTy} {r : gR} {l : gLg} {i : gI} {Q : gQ} {m : Nat} {x : Int32} (hM : lyM T r m) (hQ : Q (some (.int (gB (inI x 0 (i (m + 1) 1 - 1))))) T r l i) : gC Γ MX12_isWalk [.ref m, .int x] T r l i Q := by
  obtain ⟨m0, m1, m2, m3, m4, m5, m6, m7, m8, m9, m10⟩ := hM
  refine gC_of rfl (Nat.le_of_ble_eq_true rfl) (L := [(0, .ref m), (1, .int x)]) rfl ?_
  refine G_iload_n (pc := 0) 1 dX12_isWalk_0 rfl ?_
  refine G_iconst (pc := 1) (v := 0) dX12_isWalk_1 rfl ?_
  refine G_aload_n (pc := 2) 0 dX12_isWalk_2 rfl ?_
  refine G_getR (pc := 3) dX12_isWalk_3 fX12_7 (by assumption) (by assumption) ?_
  refine G_iconst (pc := 6) (v := 1) dX12_isWalk_6 rfl ?_
  refine G_ialdJ (pc := 7) (j := 1) dX12_isWalk_7 (by assumption) gl1 (by first | assumption | omega) (by decide) ?_
  refine G_iconst (pc := 8) (v := 1) dX12_isWalk_8 rfl ?_
  refine G_isub (pc := 9) dX12_isWalk_9 ?_
  refine gS3 (pc := 10) (k' := 0) (n' := 0) dX12_isWalk_10 lkX12_25 ⟨by decide, by decide⟩ (Nat.le_of_ble_eq_true rfl) rfl rfl ⟨by decide, by decide⟩ (c_X12_in ?_)
  dsimp only [gRt]
  refine G_iret (pc := 13) dX12_isWalk_13 ⟨_, rfl, gB_nar⟩ ⟨by decide, by decide⟩ ?_
  exact hQ

/-- a number of a walk, below m of them -/
theorem isW {x : Int32} {m : Nat} (hm : m < 2 ^ 30) : inI x 0 (nI m - 1) ↔ ∃ k, k < m ∧ x = nI k := by
  constructor
  · rintro ⟨h1, h2⟩
    rcases pk_ix x (n := m) (by omega) with z | z | z
    · exact absurd z h1
    · exfalso
      cases m with
      | zero =>
        apply h2
        have h3 : (nI 0 - 1).toInt = -1 := by decide
        rw [Int32.lt_iff_toInt_lt, h3]
        have := Int32.le_iff_toInt_le.mp z
        rw [nI_toInt (by decide)] at this
        omega
      | succ m =>
        apply h2
        rw [nI_pred]
        rw [Int32.lt_iff_toInt_lt]
        have := Int32.le_iff_toInt_le.mp z
        rw [nI_toInt (by omega)] at this ⊢
        omega
    · exact z
  · rintro ⟨k, hk, rfl⟩
    refine ⟨nI_pos (by omega), ?_⟩
    cases m with
    | zero => omega
    | succ m => rw [nI_pred]; exact nI_nlt (by omega) (by omega)
/-- a walk at w, of n places, gets one more -/
def jnF (s : Nat → Int32) (w n : Nat) (x y q k : Int32) : Nat → Int32 := upd (upd (upd (upd (upd s (w + 6 + 4 * n + 0) x) (w + 6 + 4 * n + 1) y) (w + 6 + 4 * n + 2) q) (w + 6 + 4 * n + 3) k) w (nI (n + 1))
set_option maxRecDepth 100000 in
set_option maxHeartbeats 4000000 in
theorem c_X12_joins {Γ : gG} {T : gTy} {r : gR} {l : gLg} {i : gI} {Q : gQ} {m k n : Nat} {v : Int32} (hM : lyM T r m) (hA : gN Γ ≤ m) (hk : k < 5) (hn : i (m + 1) (23 + 166 * k) = nI n) (hn4 : n < 40) (hQ : Q none T r l (va_up i (m + 1) (jnF (i (m + 1)) (23 + 166 * k) n (i m 6) (i m 7) (i m 8) v))) : gC Γ MX12_joins [.ref m, .int (nI k), .int v] T r l i Q := by
  have hM2 := hM
  obtain ⟨m0, m1, m2, m3, m4, m5, m6, m7, m8, m9, m10⟩ := hM
  refine gC_of rfl (Nat.le_of_ble_eq_true rfl) (L := [(0, .ref m), (1, .int (nI k)), (2, .int v)]) rfl ?_
  refine G_iload_n (pc := 0) 1 dX12_joins_0 rfl ?_
  refine gS1 (pc := 1) (k' := 0) (n' := 0) dX12_joins_1 lkX12_76 ⟨by decide, by decide⟩ (Nat.le_of_ble_eq_true rfl) rfl rfl ⟨by decide, by decide⟩ (c_X12_walkAt ?_)
  dsimp only [gRt]
  refine G_bipush (pc := 4) (v := 6) dX12_joins_4 rfl ?_
  refine G_iadd (pc := 6) dX12_joins_6 ?_
  rw [gl6, nI_add]
  refine G_iconst (pc := 7) (v := 4) dX12_joins_7 rfl ?_
  refine G_aload_n (pc := 8) 0 dX12_joins_8 rfl ?_
  refine G_iload_n (pc := 9) 1 dX12_joins_9 rfl ?_
  refine gV1 (pc := 10) (k' := 0) (n' := 0) dX12_joins_10 lkX12_80 ⟨by decide, by decide⟩ (Nat.le_of_ble_eq_true rfl) rfl rfl ⟨by decide, by decide⟩ (by assumption) (c_X12_places hM2 (by omega) ?_)
  dsimp only [gRt]
  rw [hn]
  refine G_imul (pc := 13) dX12_joins_13 ?_
  rw [gl4, pk_mul]
  refine G_iadd (pc := 14) dX12_joins_14 ?_
  rw [nI_add]
  refine G_sn3 (pc := 15) (gSt_in dX12_joins_15 rfl (by decide)) rfl ?_
  refine G_aload_n (pc := 16) 0 dX12_joins_16 rfl ?_
  refine G_getR (pc := 17) dX12_joins_17 fX12_7 (by assumption) (by assumption) ?_
  refine G_iload_n (pc := 20) 3 dX12_joins_20 rfl ?_
  refine G_iconst (pc := 21) (v := 0) dX12_joins_21 rfl ?_
  refine G_iadd (pc := 22) dX12_joins_22 ?_
  rw [gl0, nI_add]
  refine G_aload_n (pc := 23) 0 dX12_joins_23 rfl ?_
  refine G_getI (pc := 24) dX12_joins_24 fX12_55 (by assumption) ?_
  refine G_iastJ (pc := 27) (j := 23 + 166 * k + 6 + 4 * n + 0) dX12_joins_27 (by assumption) rfl (by first | assumption | omega) (by decide) (by first | assumption | omega) ?_
  refine G_aload_n (pc := 28) 0 dX12_joins_28 rfl ?_
  refine G_getR (pc := 29) dX12_joins_29 fX12_7 (by assumption) (by assumption) ?_
  refine G_iload_n (pc := 32) 3 dX12_joins_32 rfl ?_
  refine G_iconst (pc := 33) (v := 1) dX12_joins_33 rfl ?_
  refine G_iadd (pc := 34) dX12_joins_34 ?_
  rw [gl1, nI_add]
  refine G_aload_n (pc := 35) 0 dX12_joins_35 rfl ?_
  refine G_getI (pc := 36) dX12_joins_36 fX12_58 (by assumption) ?_
  rw [up2_ne (by omega)]
  refine G_iastJ (pc := 39) (j := 23 + 166 * k + 6 + 4 * n + 1) dX12_joins_39 (by assumption) rfl (by first | assumption | omega) (by decide) (by first | assumption | omega) ?_
  refine G_aload_n (pc := 40) 0 dX12_joins_40 rfl ?_
  refine G_getR (pc := 41) dX12_joins_41 fX12_7 (by assumption) (by assumption) ?_
  refine G_iload_n (pc := 44) 3 dX12_joins_44 rfl ?_
  refine G_iconst (pc := 45) (v := 2) dX12_joins_45 rfl ?_
  refine G_iadd (pc := 46) dX12_joins_46 ?_
  rw [gl2, nI_add]
  refine G_aload_n (pc := 47) 0 dX12_joins_47 rfl ?_
  refine G_getI (pc := 48) dX12_joins_48 fX12_65 (by assumption) ?_
  rw [up2_ne (by omega), up2_ne (by omega)]
  refine G_iastJ (pc := 51) (j := 23 + 166 * k + 6 + 4 * n + 2) dX12_joins_51 (by assumption) rfl (by first | assumption | omega) (by decide) (by first | assumption | omega) ?_
  refine G_aload_n (pc := 52) 0 dX12_joins_52 rfl ?_
  refine G_getR (pc := 53) dX12_joins_53 fX12_7 (by assumption) (by assumption) ?_
  refine G_iload_n (pc := 56) 3 dX12_joins_56 rfl ?_
  refine G_iconst (pc := 57) (v := 3) dX12_joins_57 rfl ?_
  refine G_iadd (pc := 58) dX12_joins_58 ?_
  rw [gl3, nI_add]
  refine G_iload_n (pc := 59) 2 dX12_joins_59 rfl ?_
  refine G_iastJ (pc := 60) (j := 23 + 166 * k + 6 + 4 * n + 3) dX12_joins_60 (by assumption) rfl (by first | assumption | omega) (by decide) (by first | assumption | omega) ?_
  refine G_aload_n (pc := 61) 0 dX12_joins_61 rfl ?_
  refine G_getR (pc := 62) dX12_joins_62 fX12_7 (by assumption) (by assumption) ?_
  refine G_iload_n (pc := 65) 1 dX12_joins_65 rfl ?_
  refine gS1 (pc := 66) (k' := 0) (n' := 0) dX12_joins_66 lkX12_76 ⟨by decide, by decide⟩ (Nat.le_of_ble_eq_true rfl) rfl rfl ⟨by decide, by decide⟩ (c_X12_walkAt ?_)
  dsimp only [gRt]
  refine G_dup2 (pc := 69) dX12_joins_69 rfl rfl ?_
  refine G_ialdJ (pc := 70) (j := 23 + 166 * k) dX12_joins_70 (by assumption) rfl (by first | assumption | omega) (by decide) ?_
  rw [up2_row (by omega), up2_row (by omega), up2_row (by omega), up2_row (by omega), hn]
  refine G_iconst (pc := 71) (v := 1) dX12_joins_71 rfl ?_
  refine G_iadd (pc := 72) dX12_joins_72 ?_
  rw [nI_1]
  refine G_iastJ (pc := 73) (j := 23 + 166 * k) dX12_joins_73 (by assumption) rfl (by first | assumption | omega) (by decide) (by first | assumption | omega) ?_
  refine G_vret (pc := 74) dX12_joins_74 rfl ⟨by decide, by decide⟩ ?_
  rw [up2_5]
  exact hQ

def opF (s : Nat → Int32) (k : Nat) (sg p f : Int32) : Nat → Int32 := upd (upd (upd (upd (upd (upd (upd s 1 (nI (k + 1))) (23 + 166 * k + 0) 0) (23 + 166 * k + 1) sg) (23 + 166 * k + 2) (s 2)) (23 + 166 * k + 3) 0) (23 + 166 * k + 4) p) (23 + 166 * k + 5) f
set_option maxRecDepth 100000 in
set_option maxHeartbeats 4000000 in
theorem c_X12_opens {Γ : gG} {T : gTy} {r : gR} {l : gLg} {i : gI} {Q : gQ} {m k : Nat} {s p f : Int32} (hM : lyM T r m) (hA : gN Γ ≤ m) (hk : i (m + 1) 1 = nI k) (hk5 : k ≤ 5) (h0 : k = 5 → Q (some (.int (-1000003))) T r l i) (h1 : k < 5 → Q (some (.int (nI k))) T r l (va_up i (m + 1) (jnF (opF (i (m + 1)) k s p f) (23 + 166 * k) 0 (i m 6) (i m 7) (i m 8) 0))) : gC Γ MX12_opens [.ref m, .int s, .int p, .int f] T r l i Q := by
  have hM2 := hM
  obtain ⟨m0, m1, m2, m3, m4, m5, m6, m7, m8, m9, m10⟩ := hM
  refine gC_of rfl (Nat.le_of_ble_eq_true rfl) (L := [(0, .ref m), (1, .int s), (2, .int p), (3, .int f)]) rfl ?_
  refine G_aload_n (pc := 0) 0 dX12_opens_0 rfl ?_
  refine G_getR (pc := 1) dX12_opens_1 fX12_7 (by assumption) (by assumption) ?_
  refine G_iconst (pc := 4) (v := 1) dX12_opens_4 rfl ?_
  refine G_ialdJ (pc := 5) (j := 1) dX12_opens_5 (by assumption) gl1 (by first | assumption | omega) (by decide) ?_
  rw [hk]
  refine G_iconst (pc := 6) (v := 5) dX12_opens_6 rfl ?_
  refine G_icmp_ne (pc := 7) (tgt := 13) dX12_opens_7 (by decide) (fun h7 => ?_) (fun h7 => ?_)
  · have hk4 : k < 5 := by
      rcases Nat.lt_or_ge k 5 with z | z
      · exact z
      · exact absurd (by rw [show k = 5 by omega]; rfl) h7
    refine G_aload_n (pc := 13) 0 dX12_opens_13 rfl ?_
    refine G_getR (pc := 14) dX12_opens_14 fX12_7 (by assumption) (by assumption) ?_
    refine G_iconst (pc := 17) (v := 1) dX12_opens_17 rfl ?_
    refine G_ialdJ (pc := 18) (j := 1) dX12_opens_18 (by assumption) gl1 (by first | assumption | omega) (by decide) ?_
    rw [hk]
    refine G_sn4 (pc := 19) (gSt_i dX12_opens_19 (by decide)) rfl ?_
    refine G_aload_n (pc := 21) 0 dX12_opens_21 rfl ?_
    refine G_getR (pc := 22) dX12_opens_22 fX12_7 (by assumption) (by assumption) ?_
    refine G_iconst (pc := 25) (v := 1) dX12_opens_25 rfl ?_
    refine G_dup2 (pc := 26) dX12_opens_26 rfl rfl ?_
    refine G_ialdJ (pc := 27) (j := 1) dX12_opens_27 (by assumption) gl1 (by first | assumption | omega) (by decide) ?_
    rw [hk]
    refine G_iconst (pc := 28) (v := 1) dX12_opens_28 rfl ?_
    refine G_iadd (pc := 29) dX12_opens_29 ?_
    rw [nI_1]
    refine G_iastJ (pc := 30) (j := 1) dX12_opens_30 (by assumption) gl1 (by first | assumption | omega) (by decide) (by first | assumption | omega) ?_
    rw [up2_u]
    refine G_aload_n (pc := 31) 0 dX12_opens_31 rfl ?_
    refine G_iload (pc := 32) 4 dX12_opens_32 rfl ?_
    refine G_iconst (pc := 34) (v := 0) dX12_opens_34 rfl ?_
    refine G_iconst (pc := 35) (v := 0) dX12_opens_35 rfl ?_
    refine gV3 (pc := 36) (k' := 0) (n' := 0) dX12_opens_36 lkX12_84 ⟨by decide, by decide⟩ (Nat.le_of_ble_eq_true rfl) rfl rfl ⟨by decide, by decide⟩ (by assumption) (c_X12_puts (j := 0) hM2 hA (by omega) ?_)
    dsimp only [gRt]
    rw [up2_v]
    refine G_aload_n (pc := 39) 0 dX12_opens_39 rfl ?_
    refine G_iload (pc := 40) 4 dX12_opens_40 rfl ?_
    refine G_iconst (pc := 42) (v := 1) dX12_opens_42 rfl ?_
    refine G_iload_n (pc := 43) 1 dX12_opens_43 rfl ?_
    refine gV3 (pc := 44) (k' := 0) (n' := 0) dX12_opens_44 lkX12_84 ⟨by decide, by decide⟩ (Nat.le_of_ble_eq_true rfl) rfl rfl ⟨by decide, by decide⟩ (by assumption) (c_X12_puts (j := 1) hM2 hA (by omega) ?_)
    dsimp only [gRt]
    rw [up2_v]
    refine G_aload_n (pc := 47) 0 dX12_opens_47 rfl ?_
    refine G_iload (pc := 48) 4 dX12_opens_48 rfl ?_
    refine G_iconst (pc := 50) (v := 2) dX12_opens_50 rfl ?_
    refine G_aload_n (pc := 51) 0 dX12_opens_51 rfl ?_
    refine G_getR (pc := 52) dX12_opens_52 fX12_7 (by assumption) (by assumption) ?_
    refine G_iconst (pc := 55) (v := 2) dX12_opens_55 rfl ?_
    refine G_ialdJ (pc := 56) (j := 2) dX12_opens_56 (by assumption) gl2 (by first | assumption | omega) (by decide) ?_
    rw [va_s]
    refine gV3 (pc := 57) (k' := 0) (n' := 0) dX12_opens_57 lkX12_84 ⟨by decide, by decide⟩ (Nat.le_of_ble_eq_true rfl) rfl rfl ⟨by decide, by decide⟩ (by assumption) (c_X12_puts (j := 2) hM2 hA (by omega) ?_)
    dsimp only [gRt]
    rw [up2_v]
    refine G_aload_n (pc := 60) 0 dX12_opens_60 rfl ?_
    refine G_iload (pc := 61) 4 dX12_opens_61 rfl ?_
    refine G_iconst (pc := 63) (v := 3) dX12_opens_63 rfl ?_
    refine G_iconst (pc := 64) (v := 0) dX12_opens_64 rfl ?_
    refine gV3 (pc := 65) (k' := 0) (n' := 0) dX12_opens_65 lkX12_84 ⟨by decide, by decide⟩ (Nat.le_of_ble_eq_true rfl) rfl rfl ⟨by decide, by decide⟩ (by assumption) (c_X12_puts (j := 3) hM2 hA (by omega) ?_)
    dsimp only [gRt]
    rw [up2_v]
    refine G_aload_n (pc := 68) 0 dX12_opens_68 rfl ?_
    refine G_iload (pc := 69) 4 dX12_opens_69 rfl ?_
    refine G_iconst (pc := 71) (v := 4) dX12_opens_71 rfl ?_
    refine G_iload_n (pc := 72) 2 dX12_opens_72 rfl ?_
    refine gV3 (pc := 73) (k' := 0) (n' := 0) dX12_opens_73 lkX12_84 ⟨by decide, by decide⟩ (Nat.le_of_ble_eq_true rfl) rfl rfl ⟨by decide, by decide⟩ (by assumption) (c_X12_puts (j := 4) hM2 hA (by omega) ?_)
    dsimp only [gRt]
    rw [up2_v]
    refine G_aload_n (pc := 76) 0 dX12_opens_76 rfl ?_
    refine G_iload (pc := 77) 4 dX12_opens_77 rfl ?_
    refine G_iconst (pc := 79) (v := 5) dX12_opens_79 rfl ?_
    refine G_iload_n (pc := 80) 3 dX12_opens_80 rfl ?_
    refine gV3 (pc := 81) (k' := 0) (n' := 0) dX12_opens_81 lkX12_84 ⟨by decide, by decide⟩ (Nat.le_of_ble_eq_true rfl) rfl rfl ⟨by decide, by decide⟩ (by assumption) (c_X12_puts (j := 5) hM2 hA (by omega) ?_)
    dsimp only [gRt]
    rw [up2_v]
    refine G_aload_n (pc := 84) 0 dX12_opens_84 rfl ?_
    refine G_iload (pc := 85) 4 dX12_opens_85 rfl ?_
    refine G_iconst (pc := 87) (v := 0) dX12_opens_87 rfl ?_
    have e2 : upd (upd (upd (i (m + 1)) 1 (nI (k + 1))) (23 + 166 * k + 0) 0) (23 + 166 * k + 1) s 2 = i (m + 1) 2 := by rw [upd_o (by omega), upd_o (by omega), upd_o (by omega)]
    rw [e2]
    refine gV2 (pc := 88) (k' := 0) (n' := 0) dX12_opens_88 lkX12_88 ⟨by decide, by decide⟩ (Nat.le_of_ble_eq_true rfl) rfl rfl ⟨by decide, by decide⟩ m0 (c_X12_joins (n := 0) hM2 hA (by omega) (by rw [va_s]; simp (disch := omega) only [upd_o]; exact upd_s) (by decide) ?_)
    dsimp only [gRt]
    rw [va_s, va_vv, va_o (by omega)]
    refine G_iload (pc := 91) 4 dX12_opens_91 rfl ?_
    refine G_iret (pc := 93) dX12_opens_93 ⟨_, rfl, rfl⟩ ⟨by decide, by decide⟩ ?_
    exact h1 hk4
  · have hk4 : k = 5 := (nI_eq (by omega) (by decide)).mp h7
    refine G_ldc (pc := 10) dX12_opens_10 kcX12_83 ?_
    refine G_iret (pc := 12) dX12_opens_12 ⟨_, rfl, rfl⟩ ⟨by decide, by decide⟩ ?_
    exact h0 hk4

set_option maxRecDepth 100000 in
set_option maxHeartbeats 4000000 in
theorem c_X12_stateOf {Γ : gG} {T : gTy} {r : gR} {l : gLg} {i : gI} {Q : gQ} {m k : Nat} (hM : lyM T r m) (hk : k < 5) (hQ : Q (some (.int (if i (m + 1) (23 + 166 * k + 3) = 1 then 1 else if i (m + 1) (23 + 166 * k) = 40 then 2 else 0))) T r l i) : gC Γ MX12_stateOf [.ref m, .int (nI k)] T r l i Q := by
  have hM2 := hM
  obtain ⟨m0, m1, m2, m3, m4, m5, m6, m7, m8, m9, m10⟩ := hM
  refine gC_of rfl (Nat.le_of_ble_eq_true rfl) (L := [(0, .ref m), (1, .int (nI k))]) rfl ?_
  refine G_aload_n (pc := 0) 0 dX12_stateOf_0 rfl ?_
  refine G_iload_n (pc := 1) 1 dX12_stateOf_1 rfl ?_
  refine G_iconst (pc := 2) (v := 3) dX12_stateOf_2 rfl ?_
  refine gV2 (pc := 3) (k' := 0) (n' := 0) dX12_stateOf_3 lkX12_92 ⟨by decide, by decide⟩ (Nat.le_of_ble_eq_true rfl) rfl rfl ⟨by decide, by decide⟩ (by assumption) (c_X12_walkPart (j := 3) hM2 (by omega) ?_)
  dsimp only [gRt]
  refine G_iconst (pc := 6) (v := 1) dX12_stateOf_6 rfl ?_
  refine G_icmp_ne (pc := 7) (tgt := 14) dX12_stateOf_7 (by decide) (fun h7 => ?_) (fun h7 => ?_)
  · refine G_aload_n (pc := 14) 0 dX12_stateOf_14 rfl ?_
    refine G_iload_n (pc := 15) 1 dX12_stateOf_15 rfl ?_
    refine gV1 (pc := 16) (k' := 0) (n' := 0) dX12_stateOf_16 lkX12_80 ⟨by decide, by decide⟩ (Nat.le_of_ble_eq_true rfl) rfl rfl ⟨by decide, by decide⟩ (by assumption) (c_X12_places hM2 (by omega) ?_)
    dsimp only [gRt]
    refine G_bipush (pc := 19) (v := 40) dX12_stateOf_19 rfl ?_
    refine G_icmp_ne (pc := 21) (tgt := 28) dX12_stateOf_21 (by decide) (fun h21 => ?_) (fun h21 => ?_)
    · refine G_iconst (pc := 28) (v := 0) dX12_stateOf_28 rfl ?_
      refine G_iret (pc := 29) dX12_stateOf_29 ⟨_, rfl, rfl⟩ ⟨by decide, by decide⟩ ?_
      simpa [h7, h21] using hQ
    · refine G_iconst (pc := 24) (v := 2) dX12_stateOf_24 rfl ?_
      refine G_goto (pc := 25) (tgt := 29) dX12_stateOf_25 (by decide) ?_
      refine G_iret (pc := 29) dX12_stateOf_29 ⟨_, rfl, rfl⟩ ⟨by decide, by decide⟩ ?_
      simpa [h7, h21] using hQ
  · refine G_iconst (pc := 10) (v := 1) dX12_stateOf_10 rfl ?_
    refine G_goto (pc := 11) (tgt := 29) dX12_stateOf_11 (by decide) ?_
    refine G_iret (pc := 29) dX12_stateOf_29 ⟨_, rfl, rfl⟩ ⟨by decide, by decide⟩ ?_
    simpa [h7] using hQ

def adF (s : Nat → Int32) (n : Nat) (f x y : Int32) : Nat → Int32 := upd (upd (upd (upd (upd s (5 + 3 * n) f) (5 + 3 * n + 1) x) (5 + 3 * n + 2) y) 0 (nI (n + 1))) 1 0
set_option maxRecDepth 100000 in
set_option maxHeartbeats 4000000 in
theorem c_X12_adds {Γ : gG} {T : gTy} {r : gR} {l : gLg} {i : gI} {Q : gQ} {m n : Nat} {f x y : Int32} (hM : lyM T r m) (hA : gN Γ ≤ m) (hn : i (m + 1) 0 = nI n) (hn6 : n ≤ 6) (h0 : n = 6 → Q (some (.int (-1000003))) T r l i) (h1 : n < 6 → Q (some (.int (nI (n + 1)))) T r l (va_up i (m + 1) (adF (i (m + 1)) n f x y))) : gC Γ MX12_adds [.ref m, .int f, .int x, .int y] T r l i Q := by
  obtain ⟨m0, m1, m2, m3, m4, m5, m6, m7, m8, m9, m10⟩ := hM
  refine gC_of rfl (Nat.le_of_ble_eq_true rfl) (L := [(0, .ref m), (1, .int f), (2, .int x), (3, .int y)]) rfl ?_
  refine G_aload_n (pc := 0) 0 dX12_adds_0 rfl ?_
  refine G_getR (pc := 1) dX12_adds_1 fX12_7 (by assumption) (by assumption) ?_
  refine G_iconst (pc := 4) (v := 0) dX12_adds_4 rfl ?_
  refine G_ialdJ (pc := 5) (j := 0) dX12_adds_5 (by assumption) gl0 (by first | assumption | omega) (by decide) ?_
  rw [hn]
  refine G_bipush (pc := 6) (v := 6) dX12_adds_6 rfl ?_
  refine G_icmp_ne (pc := 8) (tgt := 14) dX12_adds_8 (by decide) (fun h8 => ?_) (fun h8 => ?_)
  · have hn5 : n < 6 := by
      rcases Nat.lt_or_ge n 6 with z | z
      · exact z
      · exact absurd (by rw [show n = 6 by omega]; rfl) h8
    refine G_iconst (pc := 14) (v := 5) dX12_adds_14 rfl ?_
    refine G_iconst (pc := 15) (v := 3) dX12_adds_15 rfl ?_
    refine G_aload_n (pc := 16) 0 dX12_adds_16 rfl ?_
    refine G_getR (pc := 17) dX12_adds_17 fX12_7 (by assumption) (by assumption) ?_
    refine G_iconst (pc := 20) (v := 0) dX12_adds_20 rfl ?_
    refine G_ialdJ (pc := 21) (j := 0) dX12_adds_21 (by assumption) gl0 (by first | assumption | omega) (by decide) ?_
    rw [hn]
    refine G_imul (pc := 22) dX12_adds_22 ?_
    rw [gl3, pk_mul]
    refine G_iadd (pc := 23) dX12_adds_23 ?_
    rw [gl5, nI_add]
    refine G_sn4 (pc := 24) (gSt_i dX12_adds_24 (by decide)) rfl ?_
    refine G_aload_n (pc := 26) 0 dX12_adds_26 rfl ?_
    refine G_getR (pc := 27) dX12_adds_27 fX12_7 (by assumption) (by assumption) ?_
    refine G_iload (pc := 30) 4 dX12_adds_30 rfl ?_
    refine G_iload_n (pc := 32) 1 dX12_adds_32 rfl ?_
    refine G_iastJ (pc := 33) (j := 5 + 3 * n) dX12_adds_33 (by assumption) rfl (by first | assumption | omega) (by decide) (by first | assumption | omega) ?_
    refine G_aload_n (pc := 34) 0 dX12_adds_34 rfl ?_
    refine G_getR (pc := 35) dX12_adds_35 fX12_7 (by assumption) (by assumption) ?_
    refine G_iload (pc := 38) 4 dX12_adds_38 rfl ?_
    refine G_iconst (pc := 40) (v := 1) dX12_adds_40 rfl ?_
    refine G_iadd (pc := 41) dX12_adds_41 ?_
    rw [gl1, nI_add]
    refine G_iload_n (pc := 42) 2 dX12_adds_42 rfl ?_
    refine G_iastJ (pc := 43) (j := 5 + 3 * n + 1) dX12_adds_43 (by assumption) rfl (by first | assumption | omega) (by decide) (by first | assumption | omega) ?_
    refine G_aload_n (pc := 44) 0 dX12_adds_44 rfl ?_
    refine G_getR (pc := 45) dX12_adds_45 fX12_7 (by assumption) (by assumption) ?_
    refine G_iload (pc := 48) 4 dX12_adds_48 rfl ?_
    refine G_iconst (pc := 50) (v := 2) dX12_adds_50 rfl ?_
    refine G_iadd (pc := 51) dX12_adds_51 ?_
    rw [gl2, nI_add]
    refine G_iload_n (pc := 52) 3 dX12_adds_52 rfl ?_
    refine G_iastJ (pc := 53) (j := 5 + 3 * n + 2) dX12_adds_53 (by assumption) rfl (by first | assumption | omega) (by decide) (by first | assumption | omega) ?_
    refine G_aload_n (pc := 54) 0 dX12_adds_54 rfl ?_
    refine G_getR (pc := 55) dX12_adds_55 fX12_7 (by assumption) (by assumption) ?_
    refine G_iconst (pc := 58) (v := 0) dX12_adds_58 rfl ?_
    refine G_dup2 (pc := 59) dX12_adds_59 rfl rfl ?_
    refine G_ialdJ (pc := 60) (j := 0) dX12_adds_60 (by assumption) gl0 (by first | assumption | omega) (by decide) ?_
    rw [up2_row (by omega), up2_row (by omega), up2_row (by omega), hn]
    refine G_iconst (pc := 61) (v := 1) dX12_adds_61 rfl ?_
    refine G_iadd (pc := 62) dX12_adds_62 ?_
    rw [nI_1]
    refine G_iastJ (pc := 63) (j := 0) dX12_adds_63 (by assumption) gl0 (by first | assumption | omega) (by decide) (by first | assumption | omega) ?_
    refine G_aload_n (pc := 64) 0 dX12_adds_64 rfl ?_
    refine G_getR (pc := 65) dX12_adds_65 fX12_7 (by assumption) (by assumption) ?_
    refine G_iconst (pc := 68) (v := 1) dX12_adds_68 rfl ?_
    refine G_iconst (pc := 69) (v := 0) dX12_adds_69 rfl ?_
    refine G_iastJ (pc := 70) (j := 1) dX12_adds_70 (by assumption) gl1 (by first | assumption | omega) (by decide) (by first | assumption | omega) ?_
    refine G_aload_n (pc := 71) 0 dX12_adds_71 rfl ?_
    refine G_getR (pc := 72) dX12_adds_72 fX12_7 (by assumption) (by assumption) ?_
    refine G_iconst (pc := 75) (v := 0) dX12_adds_75 rfl ?_
    refine G_ialdJ (pc := 76) (j := 0) dX12_adds_76 (by assumption) gl0 (by first | assumption | omega) (by decide) ?_
    rw [up2_row (by omega), up2_self]
    refine G_iret (pc := 77) dX12_adds_77 ⟨_, rfl, rfl⟩ ⟨by decide, by decide⟩ ?_
    rw [up2_5]
    exact h1 hn5
  · have hn5 : n = 6 := (nI_eq (by omega) (by decide)).mp h8
    refine G_ldc (pc := 11) dX12_adds_11 kcX12_83 ?_
    refine G_iret (pc := 13) dX12_adds_13 ⟨_, rfl, rfl⟩ ⟨by decide, by decide⟩ ?_
    exact h0 hn5

set_option maxRecDepth 100000 in
set_option maxHeartbeats 4000000 in
theorem c_X12_square {Γ : gG} {T : gTy} {r : gR} {l : gLg} {i : gI} {Q : gQ} {x : Int32} (hQ : Q (some (.int (x * x))) T r l i) : gC Γ MX12_square [.int x] T r l i Q := by
  refine gC_of rfl (Nat.le_of_ble_eq_true rfl) (L := [(0, .int x)]) rfl ?_
  refine G_iload_n (pc := 0) 0 dX12_square_0 rfl ?_
  refine G_iload_n (pc := 1) 0 dX12_square_1 rfl ?_
  refine G_imul (pc := 2) dX12_square_2 ?_
  refine G_iret (pc := 3) dX12_square_3 ⟨_, rfl, rfl⟩ ⟨by decide, by decide⟩ ?_
  exact hQ

