/-! drop, undo, fault, type, clearText -/
/-- F is what is left of s without walk a and its family -/
def drS (s F : Nat → Int32) (a : Nat) : Prop := F 1 = nI (kc (gPr4 s) a (nW s)) ∧ (∀ j, j < 23 → j ≠ 1 → F j = s j) ∧ ∀ j, j < nW s → ¬ fam (gPr4 s) a j = true → ∀ c, c < 166 → F (23 + 166 * kc (gPr4 s) a j + c) = if c = 4 then npR (gPr4 s) a j else s (23 + 166 * j + c)
def aFault (tx : Nat → Int32) (ln : Nat) (S : Nat → Int32) (x : Int32) : Int32 := if inI x 0 1 then (if (rfAll tx ln S).1 = true then -1000004 else if x = 0 then nI (rfAll tx ln S).2.1 else (rfAll tx ln S).2.2.1) else -1000001
set_option maxRecDepth 100000 in
set_option maxHeartbeats 4000000 in
theorem c_X12_drop {Γ : gG} {T : gTy} {r : gR} {l : gLg} {i : gI} {Q : gQ} {m n : Nat} {S : Nat → Int32} {P : Nat → Nat → Int32} {w : Int32} (hM : lyM T r m) (hA : gN Γ ≤ m) (he : i (m + 1) = S) (hP : rpP i m P n) (hS : vS S)
  (h0 : ¬ inI w 0 (S 1 - 1) → ∀ i', rfP m i i' S P n → Q (some (.int (-1000001))) T r l i')
  (h1 : ∀ a, a < nW S → w = nI a → ∀ i' F, drS S F a → rfP m i i' F (psP n P S) (psN n) → Q (some (.int (nI (kc (gPr4 S) a (nW S))))) T r l i') : gC Γ MX12_drop [.ref m, .int w] T r l i Q := by
  have hM2 := hM
  obtain ⟨m0, m1, m2, m3, m4, m5, m6, m7, m8, m9, m10⟩ := hM
  have hT := hS.1
  have hE := hS.2.1
  have hn6 := hT.1.1
  have hn0 := hT.1.2.1
  obtain ⟨w5, w1, wk⟩ := nW_of hS
  refine gC_of rfl (Nat.le_of_ble_eq_true rfl) (L := [(0, .ref m), (1, .int w)]) rfl ?_
  refine G_aload_n (pc := 0) 0 dX12_drop_0 rfl ?_
  refine gV0 (pc := 1) (k' := 0) (n' := 0) dX12_drop_1 lkX12_128 ⟨by decide, by decide⟩ (Nat.le_of_ble_eq_true rfl) rfl rfl ⟨by decide, by decide⟩ (by assumption) (c_begX hM2 hA he ?_)
  intro i1 hb e1 e2
  dsimp only [gRt]
  refine G_aload_n (pc := 4) 0 dX12_drop_4 rfl ?_
  refine G_aload_n (pc := 5) 0 dX12_drop_5 rfl ?_
  refine G_iload_n (pc := 6) 1 dX12_drop_6 rfl ?_
  refine gV1 (pc := 7) (k' := 0) (n' := 0) dX12_drop_7 lkX12_146 ⟨by decide, by decide⟩ (Nat.le_of_ble_eq_true rfl) rfl rfl ⟨by decide, by decide⟩ (by assumption) (c_X12_isWalk hM2 ?_)
  dsimp only [gRt]
  rw [e1]
  refine G_if_eq (pc := 10) (tgt := 21) dX12_drop_10 (by decide) (fun h10 => ?_) (fun h10 => ?_)
  · refine G_ldc (pc := 21) dX12_drop_21 kcX12_29 ?_
    refine gV1 (pc := 23) (k' := 0) (n' := 0) dX12_drop_23 lkX12_134 ⟨by decide, by decide⟩ (Nat.le_of_ble_eq_true rfl) rfl rfl ⟨by decide, by decide⟩ (by assumption) (c_actN (S := S) hM2 hA hP hb e2 (by decide) (fun k _ => by rw [e1]) ?_)
    intro i' hi'
    dsimp only [gRt]
    refine G_iret (pc := 26) dX12_drop_26 ⟨_, rfl, rfl⟩ ⟨by decide, by decide⟩ ?_
    exact h0 (gB_eq.mp h10) i' hi'
  · refine G_aload_n (pc := 13) 0 dX12_drop_13 rfl ?_
    refine G_iload_n (pc := 14) 1 dX12_drop_14 rfl ?_
    obtain ⟨a, ha, rfl⟩ := (isW (by omega)).mp (w1 ▸ gB_ne.mp h10)
    have hp : vP (gPr4 S) (nW S) := fun j hj => (wk j hj).2
    refine gV1 (pc := 15) (k' := 0) (n' := 0) dX12_drop_15 lkX12_155 ⟨by decide, by decide⟩ (Nat.le_of_ble_eq_true rfl) rfl rfl ⟨by decide, by decide⟩ (by assumption) (c_X12_drops (n := nW S) hM2 hA (by rw [e1]; exact w1) w5 (by omega) (by rw [e1]; exact hp) ?_)
    intro i2 F g1 g2 g3 g4 g5
    rw [e1] at g3 g4 g5 ⊢
    have hd : drS S F a := ⟨g3, g4, g5⟩
    have hb2 : frB m i i2 := ⟨fun c c1 c2 c3 c4 => (g1 c c2 c4).trans (hb.1 c c1 c2 c3 c4), by rw [g1 m (by omega) (by omega)]; exact hb.2.1, by rw [g1 m (by omega) (by omega)]; exact hb.2.2⟩
    have hkc := kc_le (gPr4 S) a (nW S)
    dsimp only [gRt]
    refine G_goto (pc := 18) (tgt := 23) dX12_drop_18 (by decide) ?_
    refine gV1 (pc := 23) (k' := 0) (n' := 0) dX12_drop_23 lkX12_134 ⟨by decide, by decide⟩ (Nat.le_of_ble_eq_true rfl) rfl rfl ⟨by decide, by decide⟩ (by assumption) (c_actS (S := S) hM2 hA hP hb2 (fun k hk => by rw [g1 (m + 2) (by omega) (by omega)]; exact e2 k hk) (nI_big (by omega)) g2 ?_)
    intro i' hi'
    dsimp only [gRt]
    refine G_iret (pc := 26) dX12_drop_26 ⟨_, rfl, rfl⟩ ⟨by decide, by decide⟩ ?_
    exact h1 a ha rfl i' F hd hi'

set_option maxRecDepth 100000 in
set_option maxHeartbeats 4000000 in
theorem lp_X12_undo {Γ : gG} {T : gTy} {r : gR} {l : gLg} {i : gI} {Q : gQ} {m b : Nat} (hM : lyM T r m) (hA : gN Γ ≤ m) (h3 : i m 3 = nI b) (hb : b < 4) (hQ : Q (some (.int (nI b))) T r l (va_up i (m + 1) (cpy (i (m + 1)) (fun c => i (m + 3) (853 * b + c)) 853))) : ∀ d k, k + d = 853 → G Γ MX12_undo 0 0 22 [(0, .ref m), (1, .int (nI k))] [] T r l (va_up i (m + 1) (cpy (i (m + 1)) (fun c => i (m + 3) (853 * b + c)) k)) Q := by
  have hM2 := hM
  obtain ⟨m0, m1, m2, m3, m4, m5, m6, m7, m8, m9, m10⟩ := hM
  intro d
  induction d with
  | zero =>
    intro k hk
    obtain rfl : k = 853 := by omega
    refine G_iload_n (pc := 22) 1 dX12_undo_22 rfl ?_
    refine G_sipush (pc := 23) (v := 853) dX12_undo_23 rfl ?_
    refine G_icmp_ge (pc := 26) (tgt := 56) dX12_undo_26 (by decide) (fun h26 => ?_) (fun h26 => ?_)
    · refine G_aload_n (pc := 56) 0 dX12_undo_56 rfl ?_
      refine G_getI (pc := 57) dX12_undo_57 fX12_33 (by assumption) ?_
      rw [va_o (by omega), h3]
      refine G_iret (pc := 60) dX12_undo_60 ⟨_, rfl, rfl⟩ ⟨by decide, by decide⟩ ?_
      exact hQ
    · exact absurd (by decide) h26
  | succ d ih =>
    intro k hk
    refine G_iload_n (pc := 22) 1 dX12_undo_22 rfl ?_
    refine G_sipush (pc := 23) (v := 853) dX12_undo_23 rfl ?_
    refine G_icmp_ge (pc := 26) (tgt := 56) dX12_undo_26 (by decide) (fun h26 => ?_) (fun h26 => ?_)
    · exact absurd h26 (by rw [gl853]; exact nI_ge (by omega) (by omega))
    · refine G_aload_n (pc := 29) 0 dX12_undo_29 rfl ?_
      refine G_getR (pc := 30) dX12_undo_30 fX12_7 (by assumption) (by assumption) ?_
      refine G_iload_n (pc := 33) 1 dX12_undo_33 rfl ?_
      refine G_aload_n (pc := 34) 0 dX12_undo_34 rfl ?_
      refine G_getR (pc := 35) dX12_undo_35 fX12_16 (by assumption) (by assumption) ?_
      refine G_sipush (pc := 38) (v := 853) dX12_undo_38 rfl ?_
      refine G_aload_n (pc := 41) 0 dX12_undo_41 rfl ?_
      refine G_getI (pc := 42) dX12_undo_42 fX12_33 (by assumption) ?_
      rw [va_o (by omega), h3]
      refine G_imul (pc := 45) dX12_undo_45 ?_
      rw [gl853, pk_mul]
      refine G_iload_n (pc := 46) 1 dX12_undo_46 rfl ?_
      refine G_iadd (pc := 47) dX12_undo_47 ?_
      rw [nI_add]
      refine G_ialdJ (pc := 48) (j := 853 * b + k) dX12_undo_48 (by assumption) rfl (by first | assumption | omega) (by decide) ?_
      rw [va_o (by omega)]
      refine G_iastJ (pc := 49) (j := k) dX12_undo_49 (by assumption) rfl (by first | assumption | omega) (by decide) (by first | assumption | omega) ?_
      rw [up2_v]
      have ec := cpy_S (f := i (m + 1)) (g := fun c => i (m + 3) (853 * b + c)) (n := k)
      rw [ec]
      refine G_inc1 (pc := 50) (v := 1) dX12_undo_50 rfl (by decide) rfl ?_
      refine G_goto (pc := 53) (tgt := 22) dX12_undo_53 (by decide) ?_
      rw [nI_1]
      exact ih (k + 1) (by omega)

set_option maxRecDepth 100000 in
set_option maxHeartbeats 4000000 in
theorem c_X12_undo {Γ : gG} {T : gTy} {r : gR} {l : gLg} {i : gI} {Q : gQ} {m n : Nat} {S : Nat → Int32} {P : Nat → Nat → Int32} (hM : lyM T r m) (hA : gN Γ ≤ m) (he : i (m + 1) = S) (hP : rpP i m P n) (h0 : n = 0 → Q (some (.int (-1000002))) T r l i) (h1 : ∀ b, n = b + 1 → ∀ i', rfP m i i' (cpy S (P b) 853) P b → Q (some (.int (nI b))) T r l i') : gC Γ MX12_undo [.ref m] T r l i Q := by
  have hM2 := hM
  obtain ⟨m0, m1, m2, m3, m4, m5, m6, m7, m8, m9, m10⟩ := hM
  obtain ⟨p1, p2, p3⟩ := hP
  refine gC_of rfl (Nat.le_of_ble_eq_true rfl) (L := [(0, .ref m)]) rfl ?_
  refine G_aload_n (pc := 0) 0 dX12_undo_0 rfl ?_
  refine G_getI (pc := 1) dX12_undo_1 fX12_33 (by assumption) ?_
  refine G_if_ne (pc := 4) (tgt := 10) dX12_undo_4 (by decide) (fun h4 => ?_) (fun h4 => ?_)
  · have hne : n ≠ 0 := fun z => h4 (by rw [p2, z]; rfl)
    obtain ⟨b, hnb⟩ : ∃ b, n = b + 1 := ⟨n - 1, by omega⟩
    subst hnb
    refine G_aload_n (pc := 10) 0 dX12_undo_10 rfl ?_
    refine G_dup (pc := 11) dX12_undo_11 rfl ?_
    refine G_getI (pc := 12) dX12_undo_12 fX12_33 (by assumption) ?_
    refine G_iconst (pc := 15) (v := 1) dX12_undo_15 rfl ?_
    refine G_isub (pc := 16) dX12_undo_16 ?_
    rw [p2, nI_pred]
    refine G_putI (pc := 17) dX12_undo_17 fX12_33 (by assumption) rfl rfl (by first | assumption | omega) ?_
    refine G_iconst (pc := 20) (v := 0) dX12_undo_20 rfl ?_
    refine G_sn1 (pc := 21) (gSt_in dX12_undo_21 rfl (by decide)) rfl ?_
    generalize hii : up2 i m 3 (nI b) = i0
    have f1 : ∀ c, c ≠ m → i0 c = i c := fun c hc => by rw [← hii, up2_ne hc]
    have f2 : i0 m 3 = nI b := by rw [← hii, up2_self]
    have f5 : i0 m 5 = i m 5 := by rw [← hii, up2_row (by decide)]
    have h := lp_X12_undo (l := l) (Q := Q) (i := i0) hM2 hA f2 (by omega) (h1 b rfl _ ⟨fun c hc => by rw [va_o (by omega)]; exact f1 c (by omega), by rw [va_o (by omega)]; exact f5, by rw [va_o (by omega)]; exact f1 _ (by omega), ?_, by omega, by rw [va_o (by omega)]; exact f2, fun j hj k hk => by rw [va_o (by omega), f1 _ (by omega)]; exact p3 j (by omega) k hk⟩) 853 0 (Nat.zero_add 853)
    · rw [cpy_0, va_id] at h
      exact h
    · rw [va_s, f1 (m + 1) (by omega), he]
      funext k
      unfold cpy
      by_cases hk : k < 853
      · rw [if_pos hk, if_pos hk, f1 (m + 3) (by omega)]; exact p3 b (by omega) k hk
      · rw [if_neg hk, if_neg hk]
  · have hn0 : n = 0 := (nI_eq (by omega) (by decide)).mp (p2.symm.trans h4)
    refine G_ldc (pc := 7) dX12_undo_7 kcX12_116 ?_
    refine G_iret (pc := 9) dX12_undo_9 ⟨_, rfl, rfl⟩ ⟨by decide, by decide⟩ ?_
    exact h0 hn0

set_option maxRecDepth 100000 in
set_option maxHeartbeats 4000000 in
theorem c_X12_fault {Γ : gG} {T : gTy} {r : gR} {l : gLg} {i : gI} {Q : gQ} {m n : Nat} {S : Nat → Int32} {P : Nat → Nat → Int32} {ln : Nat} {x : Int32} (hM : lyM T r m) (hA : gN Γ ≤ m) (he : i (m + 1) = S) (hP : rpP i m P n) (hl : i m 5 = nI ln) (hl6 : ln ≤ 60) (hQ : ∀ i', rfP m i i' S P n → Q (some (.int (aFault (i (m + 4)) ln S x))) T r l i') : gC Γ MX12_fault [.ref m, .int x] T r l i Q := by
  have hM2 := hM
  obtain ⟨m0, m1, m2, m3, m4, m5, m6, m7, m8, m9, m10⟩ := hM
  refine gC_of rfl (Nat.le_of_ble_eq_true rfl) (L := [(0, .ref m), (1, .int x)]) rfl ?_
  refine G_iload_n (pc := 0) 1 dX12_fault_0 rfl ?_
  refine G_iconst (pc := 1) (v := 0) dX12_fault_1 rfl ?_
  refine G_iconst (pc := 2) (v := 1) dX12_fault_2 rfl ?_
  refine gS3 (pc := 3) (k' := 0) (n' := 0) dX12_fault_3 lkX12_25 ⟨by decide, by decide⟩ (Nat.le_of_ble_eq_true rfl) rfl rfl ⟨by decide, by decide⟩ (c_X12_in ?_)
  dsimp only [gRt]
  refine G_if_ne (pc := 6) (tgt := 12) dX12_fault_6 (by decide) (fun h6 => ?_) (fun h6 => ?_)
  · refine G_aload_n (pc := 12) 0 dX12_fault_12 rfl ?_
    refine gV0 (pc := 13) (k' := 0) (n' := 0) dX12_fault_13 lkX12_128 ⟨by decide, by decide⟩ (Nat.le_of_ble_eq_true rfl) rfl rfl ⟨by decide, by decide⟩ (by assumption) (c_begX hM2 hA he ?_)
    intro i1 hb e1 e2
    dsimp only [gRt]
    refine G_aload_n (pc := 16) 0 dX12_fault_16 rfl ?_
    refine gV0 (pc := 17) (k' := 0) (n' := 0) dX12_fault_17 lkX12_200 ⟨by decide, by decide⟩ (Nat.le_of_ble_eq_true rfl) rfl rfl ⟨by decide, by decide⟩ (by assumption) (c_X12_reads (ln := ln) hM2 hA (hb.2.2.trans hl) hl6 ?_)
    intro i2 hi2 g3 g4 g5
    dsimp only [gRt]
    rw [hb.1 (m + 4) (by omega) (by omega) (by omega) (by omega), e1] at g3 g4 g5 ⊢
    refine G_sn2 (pc := 20) (gSt_in dX12_fault_20 rfl (by decide)) rfl ?_
    refine G_aload_n (pc := 21) 0 dX12_fault_21 rfl ?_
    refine gV0 (pc := 22) (k' := 0) (n' := 0) dX12_fault_22 lkX12_30 ⟨by decide, by decide⟩ (Nat.le_of_ble_eq_true rfl) rfl rfl ⟨by decide, by decide⟩ (by assumption) (c_X12_returns hM2 hA ?_)
    dsimp only [gRt]
    have hr : rfP m i (va_up i2 (m + 1) (cpy (i2 (m + 1)) (i2 (m + 2)) 853)) S P n := by
      refine rfP.same hP (hb.U hi2).F ?_
      rw [va_s]
      funext k
      unfold cpy
      by_cases hk : k < 853
      · rw [if_pos hk, hi2.1 (m + 2) (by omega) (by omega)]; exact e2 k hk
      · rw [if_neg hk, g5]; exact rfAll_F.2 k (by omega)
    have hin := gB_ne.mp h6
    refine G_iload_n (pc := 25) 2 dX12_fault_25 rfl ?_
    refine G_if_eq (pc := 26) (tgt := 34) dX12_fault_26 (by decide) (fun h26 => ?_) (fun h26 => ?_)
    · have hn := gB_eq.mp h26
      refine G_iload_n (pc := 34) 1 dX12_fault_34 rfl ?_
      refine G_if_ne (pc := 35) (tgt := 45) dX12_fault_35 (by decide) (fun h35 => ?_) (fun h35 => ?_)
      · refine G_aload_n (pc := 45) 0 dX12_fault_45 rfl ?_
        refine G_getI (pc := 46) dX12_fault_46 fX12_194 (by assumption) ?_
        rw [va_o (by omega), g4]
        refine G_iret (pc := 49) dX12_fault_49 ⟨_, rfl, rfl⟩ ⟨by decide, by decide⟩ ?_
        rw [show aFault (i (m + 4)) ln S x = (rfAll (i (m + 4)) ln S).2.2.1 by unfold aFault; rw [if_pos hin, if_neg hn, if_neg h35]] at hQ
        exact hQ _ hr
      · refine G_aload_n (pc := 38) 0 dX12_fault_38 rfl ?_
        refine G_getI (pc := 39) dX12_fault_39 fX12_188 (by assumption) ?_
        rw [va_o (by omega), g3]
        refine G_goto (pc := 42) (tgt := 49) dX12_fault_42 (by decide) ?_
        refine G_iret (pc := 49) dX12_fault_49 ⟨_, rfl, rfl⟩ ⟨by decide, by decide⟩ ?_
        rw [show aFault (i (m + 4)) ln S x = nI (rfAll (i (m + 4)) ln S).2.1 by unfold aFault; rw [if_pos hin, if_neg hn, if_pos h35]] at hQ
        exact hQ _ hr
    · have hok := gB_ne.mp h26
      refine G_ldc (pc := 29) dX12_fault_29 kcX12_161 ?_
      refine G_goto (pc := 31) (tgt := 49) dX12_fault_31 (by decide) ?_
      refine G_iret (pc := 49) dX12_fault_49 ⟨_, rfl, rfl⟩ ⟨by decide, by decide⟩ ?_
      rw [show aFault (i (m + 4)) ln S x = -1000004 by unfold aFault; rw [if_pos hin, if_pos hok]] at hQ
      exact hQ _ hr
  · refine G_ldc (pc := 9) dX12_fault_9 kcX12_29 ?_
    refine G_iret (pc := 11) dX12_fault_11 ⟨_, rfl, rfl⟩ ⟨by decide, by decide⟩ ?_
    rw [show aFault (i (m + 4)) ln S x = -1000001 from if_neg (fun z => gB_eq.mp h6 z)] at hQ
    exact hQ i (rfP.same hP ⟨fun _ _ _ _ _ => rfl, rfl, rfl⟩ he)

set_option maxRecDepth 100000 in
set_option maxHeartbeats 4000000 in
theorem c_X12_type {Γ : gG} {T : gTy} {r : gR} {l : gLg} {i : gI} {Q : gQ} {m ln : Nat} {x : Int32} (hM : lyM T r m) (hA : gN Γ ≤ m) (hl : i m 5 = nI ln) (hl6 : ln ≤ 60) (h0 : ¬ inI x 32 126 → Q (some (.int (-1000001))) T r l i) (h1 : inI x 32 126 → ln = 60 → Q (some (.int (-1000003))) T r l i)
  (h2 : inI x 32 126 → ln < 60 → Q (some (.int (nI (ln + 1)))) T r l (up2 (up2 i (m + 4) ln x) m 5 (nI (ln + 1)))) : gC Γ MX12_type [.ref m, .int x] T r l i Q := by
  have hM2 := hM
  obtain ⟨m0, m1, m2, m3, m4, m5, m6, m7, m8, m9, m10⟩ := hM
  refine gC_of rfl (Nat.le_of_ble_eq_true rfl) (L := [(0, .ref m), (1, .int x)]) rfl ?_
  refine G_iload_n (pc := 0) 1 dX12_type_0 rfl ?_
  refine G_bipush (pc := 1) (v := 32) dX12_type_1 rfl ?_
  refine G_bipush (pc := 3) (v := 126) dX12_type_3 rfl ?_
  refine gS3 (pc := 5) (k' := 0) (n' := 0) dX12_type_5 lkX12_25 ⟨by decide, by decide⟩ (Nat.le_of_ble_eq_true rfl) rfl rfl ⟨by decide, by decide⟩ (c_X12_in ?_)
  dsimp only [gRt]
  refine G_if_ne (pc := 8) (tgt := 14) dX12_type_8 (by decide) (fun h8 => ?_) (fun h8 => ?_)
  · refine G_aload_n (pc := 14) 0 dX12_type_14 rfl ?_
    refine G_getI (pc := 15) dX12_type_15 fX12_175 (by assumption) ?_
    refine G_bipush (pc := 18) (v := 60) dX12_type_18 rfl ?_
    refine G_icmp_ne (pc := 20) (tgt := 26) dX12_type_20 (by decide) (fun h20 => ?_) (fun h20 => ?_)
    · have hne : ln < 60 := by
        have : ln ≠ 60 := fun z => h20 (by rw [hl, z]; rfl)
        omega
      refine G_aload_n (pc := 26) 0 dX12_type_26 rfl ?_
      refine G_getR (pc := 27) dX12_type_27 fX12_19 (by assumption) (by assumption) ?_
      refine G_aload_n (pc := 30) 0 dX12_type_30 rfl ?_
      refine G_getI (pc := 31) dX12_type_31 fX12_175 (by assumption) ?_
      refine G_iload_n (pc := 34) 1 dX12_type_34 rfl ?_
      refine G_iastJ (pc := 35) (j := ln) dX12_type_35 (by assumption) hl (by first | assumption | omega) (by decide) (by first | assumption | omega) ?_
      refine G_aload_n (pc := 36) 0 dX12_type_36 rfl ?_
      refine G_dup (pc := 37) dX12_type_37 rfl ?_
      refine G_getI (pc := 38) dX12_type_38 fX12_175 (by assumption) ?_
      rw [up2_ne (by omega), hl]
      refine G_iconst (pc := 41) (v := 1) dX12_type_41 rfl ?_
      refine G_iadd (pc := 42) dX12_type_42 ?_
      rw [nI_1]
      refine G_putI (pc := 43) dX12_type_43 fX12_175 (by assumption) rfl rfl (by first | assumption | omega) ?_
      refine G_aload_n (pc := 46) 0 dX12_type_46 rfl ?_
      refine G_getI (pc := 47) dX12_type_47 fX12_175 (by assumption) ?_
      rw [up2_self]
      refine G_iret (pc := 50) dX12_type_50 ⟨_, rfl, rfl⟩ ⟨by decide, by decide⟩ ?_
      exact h2 (gB_ne.mp h8) hne
    · have hfull : ln = 60 := (nI_eq (by omega) (by decide)).mp (hl.symm.trans h20)
      refine G_ldc (pc := 23) dX12_type_23 kcX12_83 ?_
      refine G_iret (pc := 25) dX12_type_25 ⟨_, rfl, rfl⟩ ⟨by decide, by decide⟩ ?_
      exact h1 (gB_ne.mp h8) hfull
  · refine G_ldc (pc := 11) dX12_type_11 kcX12_29 ?_
    refine G_iret (pc := 13) dX12_type_13 ⟨_, rfl, rfl⟩ ⟨by decide, by decide⟩ ?_
    exact h0 (gB_eq.mp h8)

set_option maxRecDepth 100000 in
set_option maxHeartbeats 4000000 in
theorem c_X12_clearText {Γ : gG} {T : gTy} {r : gR} {l : gLg} {i : gI} {Q : gQ} {m : Nat} (hM : lyM T r m) (hA : gN Γ ≤ m) (hQ : Q (some (.int (i m 5))) T r l (up2 i m 5 0)) : gC Γ MX12_clearText [.ref m] T r l i Q := by
  have hM2 := hM
  obtain ⟨m0, m1, m2, m3, m4, m5, m6, m7, m8, m9, m10⟩ := hM
  refine gC_of rfl (Nat.le_of_ble_eq_true rfl) (L := [(0, .ref m)]) rfl ?_
  refine G_aload_n (pc := 0) 0 dX12_clearText_0 rfl ?_
  refine G_getI (pc := 1) dX12_clearText_1 fX12_175 (by assumption) ?_
  refine G_sn1 (pc := 4) (gSt_in dX12_clearText_4 rfl (by decide)) rfl ?_
  refine G_aload_n (pc := 5) 0 dX12_clearText_5 rfl ?_
  refine G_iconst (pc := 6) (v := 0) dX12_clearText_6 rfl ?_
  refine G_putI (pc := 7) dX12_clearText_7 fX12_175 (by assumption) rfl rfl (by first | assumption | omega) ?_
  refine G_iload_n (pc := 10) 1 dX12_clearText_10 rfl ?_
  refine G_iret (pc := 11) dX12_clearText_11 ⟨_, rfl, rfl⟩ ⟨by decide, by decide⟩ ?_
  exact hQ

