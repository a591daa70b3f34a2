/-! branch, set, read, drop -/
def aBrn (S : Nat → Int32) (w p : Int32) (sd : Int32) (b : Nat) : Option (Int64 × Int64 × Nat) → aRes
  | none => (-1000002, none)
  | some c => aOpen S (brS S (23 + 166 * w.toNatClampNeg) b sd c) w p (some c)
def aBranch (S : Nat → Int32) (w p sd : Int32) : aRes := if inI w 0 (S 1 - 1) ∧ inI p 0 (S (23 + 166 * w.toNatClampNeg) - 1) ∧ (sd = 1 ∨ sd = -1) then (if S (23 + 166 * w.toNatClampNeg + 6 + 4 * p.toNatClampNeg + 3) = 2 then aBrn S w p sd (p.toNatClampNeg - 1) (brC S (23 + 166 * w.toNatClampNeg) (p.toNatClampNeg - 1) sd) else (-1000002, none)) else (-1000001, none)
def aSet (S : Nat → Int32) (x v : Int32) : aRes := if gAl x v then (S (2 + x.toNatClampNeg), some (upd S (2 + x.toNatClampNeg) v)) else (-1000001, none)
def aRead (tx : Nat → Int32) (ln : Nat) (S : Nat → Int32) : aRes := if (rfAll tx ln S).1 = true then ((rfAll tx ln S).2.2.2 0, some (rfAll tx ln S).2.2.2) else (-1000002, none)
theorem rfG_F {tx : Nat → Int32} {ln : Nat} : ∀ d p n sg F, n + d = 5 → (∃ a, a ≤ 6 ∧ (rfG tx ln (d + 1) p n sg F).2.2.2 0 = nI a) ∧ ∀ k, 853 ≤ k → (rfG tx ln (d + 1) p n sg F).2.2.2 k = F k := by
  have ha : ∀ (F : Nat → Int32) n f x y k, n ≤ 5 → 853 ≤ k → adF F n f x y k = F k := fun F n f x y k hn hk => by
    unfold adF
    simp (disch := omega) only [upd_o]
  intro d
  induction d with
  | zero =>
    intro p n sg F hn
    rw [rfG]
    split
    · rw [if_pos (by omega)]; exact ⟨⟨n + 1, by omega, adF_0 (s := F) (n := n) (f := rfA tx ln p sg) (x := nI (rfT tx ln p).2.1) (y := nI (rfT tx ln p).2.2)⟩, fun k hk => ha _ _ _ _ _ _ (by omega) hk⟩
    · exact ⟨⟨n + 1, by omega, adF_0 (s := F) (n := n) (f := rfA tx ln p sg) (x := nI (rfT tx ln p).2.1) (y := nI (rfT tx ln p).2.2)⟩, fun k hk => ha _ _ _ _ _ _ (by omega) hk⟩
  | succ d ih =>
    intro p n sg F hn
    rw [rfG]
    split
    · rw [if_neg (by omega)]
      have h := ih ((rfT tx ln p).1 + 1) (n + 1) (if tx (rfT tx ln p).1 = 45 then -1 else 1) (adF F n (rfA tx ln p sg) (nI (rfT tx ln p).2.1) (nI (rfT tx ln p).2.2)) (by omega)
      exact ⟨h.1, fun k hk => (h.2 k hk).trans (ha _ _ _ _ _ _ (by omega) hk)⟩
    · exact ⟨⟨n + 1, by omega, adF_0 (s := F) (n := n) (f := rfA tx ln p sg) (x := nI (rfT tx ln p).2.1) (y := nI (rfT tx ln p).2.2)⟩, fun k hk => ha _ _ _ _ _ _ (by omega) hk⟩
theorem rfAll_F {tx : Nat → Int32} {ln : Nat} {S : Nat → Int32} : (∃ a, a ≤ 6 ∧ (rfAll tx ln S).2.2.2 0 = nI a) ∧ ∀ k, 853 ≤ k → (rfAll tx ln S).2.2.2 k = S k := by
  have h := rfG_F (tx := tx) (ln := ln) 5 (if rfM tx ln then 1 else 0) 0 (if rfM tx ln then -1 else 1) (upd (upd S 0 0) 1 0) rfl
  exact ⟨h.1, fun k hk => (h.2 k hk).trans (by rw [upd_o (by omega), upd_o (by omega)])⟩
set_option maxRecDepth 100000 in
set_option maxHeartbeats 4000000 in
theorem c_X12_branch {Γ : gG} {T : gTy} {r : gR} {l : gLg} {i : gI} {Q : gQ} {m n : Nat} {S : Nat → Int32} {P : Nat → Nat → Int32} {w p sd : Int32} (hM : lyM T r m) (hA : gN Γ ≤ m) (he : i (m + 1) = S) (hP : rpP i m P n) (hS : vS S) (hQ : ∀ i', rfP m i i' (nxS S (aBranch S w p sd).2) (nxP n P S (aBranch S w p sd).2) (nxN n (aBranch S w p sd).2) → Q (some (.int (aBranch S w p sd).1)) T r l i') : gC Γ MX12_branch [.ref m, .int w, .int p, .int sd] T r l i Q := by
  have hM2 := hM
  obtain ⟨m0, m1, m2, m3, m4, m5, m6, m7, m8, m9, m10⟩ := hM
  have hT := hS.1
  have hE := hS.2.1
  have hn6 := hT.1.1
  have hn0 := hT.1.2.1
  obtain ⟨w5, w1, wk⟩ := nW_of hS
  refine gC_of rfl (Nat.le_of_ble_eq_true rfl) (L := [(0, .ref m), (1, .int w), (2, .int p), (3, .int sd)]) rfl ?_
  refine G_aload_n (pc := 0) 0 dX12_branch_0 rfl ?_
  refine gV0 (pc := 1) (k' := 0) (n' := 0) dX12_branch_1 lkX12_128 ⟨by decide, by decide⟩ (Nat.le_of_ble_eq_true rfl) rfl rfl ⟨by decide, by decide⟩ (by assumption) (c_begX hM2 hA he ?_)
  intro i1 hb e1 e2
  dsimp only [gRt]
  refine G_aload_n (pc := 4) 0 dX12_branch_4 rfl ?_
  refine G_iload_n (pc := 5) 1 dX12_branch_5 rfl ?_
  refine gV1 (pc := 6) (k' := 0) (n' := 0) dX12_branch_6 lkX12_146 ⟨by decide, by decide⟩ (Nat.le_of_ble_eq_true rfl) rfl rfl ⟨by decide, by decide⟩ (by assumption) (c_X12_isWalk hM2 ?_)
  dsimp only [gRt]
  rw [e1]
  refine G_if_eq (pc := 9) (tgt := 34) dX12_branch_9 (by decide) (fun h9 => ?_) (fun h9 => ?_)
  · refine G_ldc (pc := 34) dX12_branch_34 kcX12_29 ?_
    refine G_iret (pc := 36) dX12_branch_36 ⟨_, rfl, rfl⟩ ⟨by decide, by decide⟩ ?_
    replace hQ := aDone hQ (show aBranch S w p sd = (-1000001, none) from if_neg (fun z => gB_eq.mp h9 z.1))
    exact hQ i1 (rfP.same hP hb e1)
  · obtain ⟨a, ha, rfl⟩ := (isW (by omega)).mp (w1 ▸ gB_ne.mp h9)
    obtain ⟨⟨z, hv⟩, _⟩ := wk a ha
    have hz40 := hv.2.1
    refine G_iload_n (pc := 12) 2 dX12_branch_12 rfl ?_
    refine G_iconst (pc := 13) (v := 0) dX12_branch_13 rfl ?_
    refine G_aload_n (pc := 14) 0 dX12_branch_14 rfl ?_
    refine G_iload_n (pc := 15) 1 dX12_branch_15 rfl ?_
    refine gV1 (pc := 16) (k' := 0) (n' := 0) dX12_branch_16 lkX12_80 ⟨by decide, by decide⟩ (Nat.le_of_ble_eq_true rfl) rfl rfl ⟨by decide, by decide⟩ (by assumption) (c_X12_places (k := a) hM2 (by omega) ?_)
    dsimp only [gRt]
    rw [e1]
    refine G_iconst (pc := 19) (v := 1) dX12_branch_19 rfl ?_
    refine G_isub (pc := 20) dX12_branch_20 ?_
    refine gS3 (pc := 21) (k' := 0) (n' := 0) dX12_branch_21 lkX12_25 ⟨by decide, by decide⟩ (Nat.le_of_ble_eq_true rfl) rfl rfl ⟨by decide, by decide⟩ (c_X12_in ?_)
    dsimp only [gRt]
    refine G_if_eq (pc := 24) (tgt := 34) dX12_branch_24 (by decide) (fun h24 => ?_) (fun h24 => ?_)
    · refine G_ldc (pc := 34) dX12_branch_34 kcX12_29 ?_
      refine G_iret (pc := 36) dX12_branch_36 ⟨_, rfl, rfl⟩ ⟨by decide, by decide⟩ ?_
      replace hQ := aDone hQ (show aBranch S (nI a) p sd = (-1000001, none) from if_neg (fun z => gB_eq.mp h24 (by have z2 := z.2.1; rw [nI_clamp (by omega)] at z2; exact z2)))
      exact hQ i1 (rfP.same hP hb e1)
    · refine G_iload_n (pc := 27) 3 dX12_branch_27 rfl ?_
      refine gS1 (pc := 28) (k' := 0) (n' := 0) dX12_branch_28 lkX12_143 ⟨by decide, by decide⟩ (Nat.le_of_ble_eq_true rfl) rfl rfl ⟨by decide, by decide⟩ (c_X12_isSide ?_)
      dsimp only [gRt]
      refine G_if_ne (pc := 31) (tgt := 37) dX12_branch_31 (by decide) (fun h31 => ?_) (fun h31 => ?_)
      · refine G_aload_n (pc := 37) 0 dX12_branch_37 rfl ?_
        refine G_aload_n (pc := 38) 0 dX12_branch_38 rfl ?_
        refine G_iload_n (pc := 39) 1 dX12_branch_39 rfl ?_
        refine G_iload_n (pc := 40) 2 dX12_branch_40 rfl ?_
        refine G_iload_n (pc := 41) 3 dX12_branch_41 rfl ?_
        obtain ⟨j, hj, rfl⟩ := (isW (m := z + 1) (by omega)).mp (hv.1 ▸ gB_ne.mp h24)
        have hx : aBranch S (nI a) (nI j) sd = (if S (23 + 166 * a + 6 + 4 * j + 3) = 2 then aBrn S (nI a) (nI j) sd (j - 1) (brC S (23 + 166 * a) (j - 1) sd) else (-1000002, none)) := by
          unfold aBranch
          rw [nI_clamp (by omega), nI_clamp (by omega), if_pos ⟨gB_ne.mp h9, gB_ne.mp h24, gB_ne.mp h31⟩]
        replace hQ := aDone hQ hx
        refine gV3 (pc := 42) (k' := 0) (n' := 0) dX12_branch_42 lkX12_149 ⟨by decide, by decide⟩ (Nat.le_of_ble_eq_true rfl) rfl rfl ⟨by decide, by decide⟩ (by assumption) (c_X12_branches (S := S) (z := z) (nw := nW S) hM2 hA (by omega) e1 hT hE hv (by omega) w1 w5 ?_ ?_ ?_ ?_)
        · intro h2
          rw [if_neg h2] at hQ
          dsimp only [gRt]
          refine gV1 (pc := 45) (k' := 0) (n' := 0) dX12_branch_45 lkX12_134 ⟨by decide, by decide⟩ (Nat.le_of_ble_eq_true rfl) rfl rfl ⟨by decide, by decide⟩ (by assumption) (c_actN (S := S) hM2 hA hP hb e2 (by decide) (fun k _ => by rw [e1]) ?_)
          intro i' hi'
          dsimp only [gRt]
          refine G_iret (pc := 48) dX12_branch_48 ⟨_, rfl, rfl⟩ ⟨by decide, by decide⟩ ?_
          exact hQ i' hi'
        · intro b hb1 h2 hc i2 hi2
          subst hb1
          rw [if_pos h2, Nat.add_sub_cancel, hc] at hQ
          have hF : i2 (m + 1) = S := (hi2.1 (m + 1) (by omega)).trans e1
          dsimp only [gRt]
          refine gV1 (pc := 45) (k' := 0) (n' := 0) dX12_branch_45 lkX12_134 ⟨by decide, by decide⟩ (Nat.le_of_ble_eq_true rfl) rfl rfl ⟨by decide, by decide⟩ (by assumption) (c_actN (S := S) hM2 hA hP (hb.M hi2) (fun k hk => by rw [hi2.1 (m + 2) (by omega)]; exact e2 k hk) (by decide) (fun k _ => by rw [hF]) ?_)
          intro i' hi'
          dsimp only [gRt]
          refine G_iret (pc := 48) dX12_branch_48 ⟨_, rfl, rfl⟩ ⟨by decide, by decide⟩ ?_
          exact hQ i' hi'
        · intro b c hb1 h2 hc h5 i2 hi2
          subst hb1
          rw [if_pos h2, Nat.add_sub_cancel, hc] at hQ
          have hF : i2 (m + 1) = S := (hi2.1 (m + 1) (by omega)).trans e1
          replace hQ := aDone hQ (show aBrn S (nI a) (nI (b + 1)) sd b (some c) = (-1000003, none) from if_pos h5)
          dsimp only [gRt]
          refine gV1 (pc := 45) (k' := 0) (n' := 0) dX12_branch_45 lkX12_134 ⟨by decide, by decide⟩ (Nat.le_of_ble_eq_true rfl) rfl rfl ⟨by decide, by decide⟩ (by assumption) (c_actN (S := S) hM2 hA hP (hb.M hi2) (fun k hk => by rw [hi2.1 (m + 2) (by omega)]; exact e2 k hk) (by decide) (fun k _ => by rw [hF]) ?_)
          intro i' hi'
          dsimp only [gRt]
          refine G_iret (pc := 48) dX12_branch_48 ⟨_, rfl, rfl⟩ ⟨by decide, by decide⟩ ?_
          exact hQ i' hi'
        · intro b c hb1 h2 hc h5 i2 hi2
          subst hb1
          rw [if_pos h2, Nat.add_sub_cancel, hc] at hQ
          replace hQ := aDone hQ (show aBrn S (nI a) (nI (b + 1)) sd b (some c) = (nI (nW S), some (oF S (nW S) (brS S (23 + 166 * (nI a).toNatClampNeg) b sd c) (nI a) (nI (b + 1)) c)) from if_neg (by omega))
          rw [nI_clamp (by omega)] at hQ
          dsimp only [gRt]
          refine gV1 (pc := 45) (k' := 0) (n' := 0) dX12_branch_45 lkX12_134 ⟨by decide, by decide⟩ (Nat.le_of_ble_eq_true rfl) rfl rfl ⟨by decide, by decide⟩ (by assumption) (c_actS (S := S) hM2 hA hP (hb.N hi2) (fun k hk => by rw [hi2.1 (m + 2) (by omega) (by omega)]; exact e2 k hk) (nI_big (by omega)) hi2.2.2 ?_)
          intro i' hi'
          dsimp only [gRt]
          refine G_iret (pc := 48) dX12_branch_48 ⟨_, rfl, rfl⟩ ⟨by decide, by decide⟩ ?_
          exact hQ i' hi'
      · refine G_ldc (pc := 34) dX12_branch_34 kcX12_29 ?_
        refine G_iret (pc := 36) dX12_branch_36 ⟨_, rfl, rfl⟩ ⟨by decide, by decide⟩ ?_
        replace hQ := aDone hQ (show aBranch S (nI a) p sd = (-1000001, none) from if_neg (fun z => gB_eq.mp h31 z.2.2))
        exact hQ i1 (rfP.same hP hb e1)

set_option maxRecDepth 100000 in
set_option maxHeartbeats 4000000 in
theorem c_X12_sets {Γ : gG} {T : gTy} {r : gR} {l : gLg} {i : gI} {Q : gQ} {m j : Nat} {v : Int32} (hM : lyM T r m) (hA : gN Γ ≤ m) (hj : j < 3) (hQ : Q (some (.int (i (m + 1) (2 + j)))) T r l (va_up i (m + 1) (upd (i (m + 1)) (2 + j) v))) : gC Γ MX12_sets [.ref m, .int (nI j), .int v] T r l i Q := by
  have hM2 := hM
  obtain ⟨m0, m1, m2, m3, m4, m5, m6, m7, m8, m9, m10⟩ := hM
  refine gC_of rfl (Nat.le_of_ble_eq_true rfl) (L := [(0, .ref m), (1, .int (nI j)), (2, .int v)]) rfl ?_
  refine G_aload_n (pc := 0) 0 dX12_sets_0 rfl ?_
  refine G_getR (pc := 1) dX12_sets_1 fX12_7 (by assumption) (by assumption) ?_
  refine G_iconst (pc := 4) (v := 2) dX12_sets_4 rfl ?_
  refine G_iload_n (pc := 5) 1 dX12_sets_5 rfl ?_
  refine G_iadd (pc := 6) dX12_sets_6 ?_
  rw [gl2, nI_add]
  refine G_ialdJ (pc := 7) (j := 2 + j) dX12_sets_7 (by assumption) rfl (by first | assumption | omega) (by decide) ?_
  refine G_sn3 (pc := 8) (gSt_in dX12_sets_8 rfl (by decide)) rfl ?_
  refine G_aload_n (pc := 9) 0 dX12_sets_9 rfl ?_
  refine G_getR (pc := 10) dX12_sets_10 fX12_7 (by assumption) (by assumption) ?_
  refine G_iconst (pc := 13) (v := 2) dX12_sets_13 rfl ?_
  refine G_iload_n (pc := 14) 1 dX12_sets_14 rfl ?_
  refine G_iadd (pc := 15) dX12_sets_15 ?_
  rw [gl2, nI_add]
  refine G_iload_n (pc := 16) 2 dX12_sets_16 rfl ?_
  refine G_iastJ (pc := 17) (j := 2 + j) dX12_sets_17 (by assumption) rfl (by first | assumption | omega) (by decide) (by first | assumption | omega) ?_
  rw [up2_u]
  refine G_iload_n (pc := 18) 3 dX12_sets_18 rfl ?_
  refine G_iret (pc := 19) dX12_sets_19 ⟨_, rfl, rfl⟩ ⟨by decide, by decide⟩ ?_
  exact hQ

set_option maxRecDepth 100000 in
set_option maxHeartbeats 4000000 in
theorem s1_X12_set {Γ : gG} {T : gTy} {r : gR} {l : gLg} {i : gI} {Q : gQ} {m n : Nat} {S : Nat → Int32} {P : Nat → Nat → Int32} {x v : Int32} {i1 : gI} (hM : lyM T r m) (hA : gN Γ ≤ m) (he : i (m + 1) = S) (hP : rpP i m P n) (hS : vS S) (hQ : ∀ i', rfP m i i' (nxS S (aSet S x v).2) (nxP n P S (aSet S x v).2) (nxN n (aSet S x v).2) → Q (some (.int (aSet S x v).1)) T r l i') (hb : frB m i i1) (e1 : i1 (m + 1) = S) (e2 : ∀ k, k < 853 → i1 (m + 2) k = S k) : G Γ MX12_set 0 0 54 [(0, .ref m), (1, .int x), (2, .int v)] [.int (gB (gAl x v))] T r l i1 Q := by
  have hM2 := hM
  obtain ⟨m0, m1, m2, m3, m4, m5, m6, m7, m8, m9, m10⟩ := hM
  have hE := hS.2.1
  refine G_sn3 (pc := 54) (gSt_in dX12_set_54 rfl (by decide)) rfl ?_
  refine G_aload_n (pc := 55) 0 dX12_set_55 rfl ?_
  refine G_iload_n (pc := 56) 3 dX12_set_56 rfl ?_
  refine G_if_eq (pc := 57) (tgt := 69) dX12_set_57 (by decide) (fun h57 => ?_) (fun h57 => ?_)
  · have hno := gB_eq.mp h57
    have hno : ¬ gAl x v := hno
    replace hQ := aDone hQ (show aSet S x v = (-1000001, none) from if_neg hno)
    refine G_ldc (pc := 69) dX12_set_69 kcX12_29 ?_
    refine gV1 (pc := 71) (k' := 0) (n' := 0) dX12_set_71 lkX12_134 ⟨by decide, by decide⟩ (Nat.le_of_ble_eq_true rfl) rfl rfl ⟨by decide, by decide⟩ (by assumption) (c_actN (S := S) hM2 hA hP hb e2 (by decide) (fun k _ => by rw [e1]) ?_)
    intro i' hi'
    dsimp only [gRt]
    refine G_iret (pc := 74) dX12_set_74 ⟨_, rfl, rfl⟩ ⟨by decide, by decide⟩ ?_
    exact hQ i' hi'
  · have hok := gB_ne.mp h57
    have hok : gAl x v := hok
    obtain ⟨j, hj, rfl⟩ : ∃ j, j < 3 ∧ x = nI j := by
      rcases hok with z | z | z
      · exact ⟨0, by decide, z.1⟩
      · exact ⟨1, by decide, z.1⟩
      · exact ⟨2, by decide, z.1⟩
    refine G_aload_n (pc := 60) 0 dX12_set_60 rfl ?_
    refine G_iload_n (pc := 61) 1 dX12_set_61 rfl ?_
    refine G_iload_n (pc := 62) 2 dX12_set_62 rfl ?_
    have hbig : ¬ S (2 + j) ≤ -1000001 := by
      obtain ⟨⟨a, a1, a2, a3⟩, ⟨g, g1, g2, g3⟩, m1, m2, m3⟩ := hE
      rcases (show j = 0 ∨ j = 1 ∨ j = 2 by omega) with rfl | rfl | rfl
      · rw [show 2 + 0 = 2 from rfl, a3]; exact nI_big (by omega)
      · rw [show 2 + 1 = 3 from rfl, g3]; exact nI_big (by omega)
      · rw [show 2 + 2 = 4 from rfl, m3]; exact nI_big (by omega)
    replace hQ := aDone hQ (show aSet S (nI j) v = (S (2 + j), some (upd S (2 + j) v)) by unfold aSet; rw [if_pos hok, nI_clamp (by omega)])
    refine gV2 (pc := 63) (k' := 0) (n' := 0) dX12_set_63 lkX12_158 ⟨by decide, by decide⟩ (Nat.le_of_ble_eq_true rfl) rfl rfl ⟨by decide, by decide⟩ (by assumption) (c_X12_sets hM2 hA hj ?_)
    dsimp only [gRt]
    rw [e1]
    refine G_goto (pc := 66) (tgt := 71) dX12_set_66 (by decide) ?_
    refine gV1 (pc := 71) (k' := 0) (n' := 0) dX12_set_71 lkX12_134 ⟨by decide, by decide⟩ (Nat.le_of_ble_eq_true rfl) rfl rfl ⟨by decide, by decide⟩ (by assumption) (c_actS (S := S) hM2 hA hP hb.F (fun k hk => by rw [va_o (by omega)]; exact e2 k hk) hbig va_s ?_)
    intro i' hi'
    dsimp only [gRt]
    refine G_iret (pc := 74) dX12_set_74 ⟨_, rfl, rfl⟩ ⟨by decide, by decide⟩ ?_
    exact hQ i' hi'

set_option maxRecDepth 100000 in
set_option maxHeartbeats 4000000 in
theorem c_X12_set {Γ : gG} {T : gTy} {r : gR} {l : gLg} {i : gI} {Q : gQ} {m n : Nat} {S : Nat → Int32} {P : Nat → Nat → Int32} {x v : Int32} (hM : lyM T r m) (hA : gN Γ ≤ m) (he : i (m + 1) = S) (hP : rpP i m P n) (hS : vS S) (hQ : ∀ i', rfP m i i' (nxS S (aSet S x v).2) (nxP n P S (aSet S x v).2) (nxN n (aSet S x v).2) → Q (some (.int (aSet S x v).1)) T r l i') : gC Γ MX12_set [.ref m, .int x, .int v] T r l i Q := by
  have hM2 := hM
  obtain ⟨m0, m1, m2, m3, m4, m5, m6, m7, m8, m9, m10⟩ := hM
  refine gC_of rfl (Nat.le_of_ble_eq_true rfl) (L := [(0, .ref m), (1, .int x), (2, .int v)]) rfl ?_
  refine G_aload_n (pc := 0) 0 dX12_set_0 rfl ?_
  refine gV0 (pc := 1) (k' := 0) (n' := 0) dX12_set_1 lkX12_128 ⟨by decide, by decide⟩ (Nat.le_of_ble_eq_true rfl) rfl rfl ⟨by decide, by decide⟩ (by assumption) (c_begX hM2 hA he ?_)
  intro i1 hb e1 e2
  dsimp only [gRt]
  refine G_iload_n (pc := 4) 1 dX12_set_4 rfl ?_
  refine G_if_ne (pc := 5) (tgt := 18) dX12_set_5 (by decide) (fun h5 => ?_) (fun h5 => ?_)
  · refine G_iload_n (pc := 18) 1 dX12_set_18 rfl ?_
    refine G_iconst (pc := 19) (v := 1) dX12_set_19 rfl ?_
    refine G_icmp_ne (pc := 20) (tgt := 34) dX12_set_20 (by decide) (fun h20 => ?_) (fun h20 => ?_)
    · refine G_iload_n (pc := 34) 1 dX12_set_34 rfl ?_
      refine G_iconst (pc := 35) (v := 2) dX12_set_35 rfl ?_
      refine G_icmp_ne (pc := 36) (tgt := 53) dX12_set_36 (by decide) (fun h36 => ?_) (fun h36 => ?_)
      · refine G_iconst (pc := 53) (v := 0) dX12_set_53 rfl ?_
        have h := s1_X12_set (r := r) (T := T) (l := l) (Q := Q) hM2 hA he hP hS hQ hb e1 e2
        rw [gB_f (c := gAl x v) (fun z => z.elim (fun u => h5 u.1) (fun z => z.elim (fun u => h20 u.1) (fun u => h36 u.1)))] at h
        exact h
      · refine G_iload_n (pc := 39) 2 dX12_set_39 rfl ?_
        refine G_iconst (pc := 40) (v := 2) dX12_set_40 rfl ?_
        refine G_bipush (pc := 41) (v := 20) dX12_set_41 rfl ?_
        refine gS3 (pc := 43) (k' := 0) (n' := 0) dX12_set_43 lkX12_25 ⟨by decide, by decide⟩ (Nat.le_of_ble_eq_true rfl) rfl rfl ⟨by decide, by decide⟩ (c_X12_in ?_)
        dsimp only [gRt]
        refine G_if_eq (pc := 46) (tgt := 53) dX12_set_46 (by decide) (fun h46 => ?_) (fun h46 => ?_)
        · refine G_iconst (pc := 53) (v := 0) dX12_set_53 rfl ?_
          have h := s1_X12_set (r := r) (T := T) (l := l) (Q := Q) hM2 hA he hP hS hQ hb e1 e2
          rw [gB_f (c := gAl x v) (fun z => z.elim (fun u => h5 u.1) (fun z => z.elim (fun u => h20 u.1) (fun u => gB_eq.mp h46 u.2)))] at h
          exact h
        · refine G_iconst (pc := 49) (v := 1) dX12_set_49 rfl ?_
          refine G_goto (pc := 50) (tgt := 54) dX12_set_50 (by decide) ?_
          have h := s1_X12_set (r := r) (T := T) (l := l) (Q := Q) hM2 hA he hP hS hQ hb e1 e2
          rw [gB_t (c := gAl x v) (Or.inr (Or.inr ⟨h36, gB_ne.mp h46⟩))] at h
          exact h
    · refine G_iload_n (pc := 23) 2 dX12_set_23 rfl ?_
      refine G_iconst (pc := 24) (v := 1) dX12_set_24 rfl ?_
      refine G_sipush (pc := 25) (v := 128) dX12_set_25 rfl ?_
      refine gS3 (pc := 28) (k' := 0) (n' := 0) dX12_set_28 lkX12_25 ⟨by decide, by decide⟩ (Nat.le_of_ble_eq_true rfl) rfl rfl ⟨by decide, by decide⟩ (c_X12_in ?_)
      dsimp only [gRt]
      refine G_if_ne (pc := 31) (tgt := 49) dX12_set_31 (by decide) (fun h31 => ?_) (fun h31 => ?_)
      · refine G_iconst (pc := 49) (v := 1) dX12_set_49 rfl ?_
        refine G_goto (pc := 50) (tgt := 54) dX12_set_50 (by decide) ?_
        have h := s1_X12_set (r := r) (T := T) (l := l) (Q := Q) hM2 hA he hP hS hQ hb e1 e2
        rw [gB_t (c := gAl x v) (Or.inr (Or.inl ⟨h20, gB_ne.mp h31⟩))] at h
        exact h
      · refine G_iload_n (pc := 34) 1 dX12_set_34 rfl ?_
        refine G_iconst (pc := 35) (v := 2) dX12_set_35 rfl ?_
        refine G_icmp_ne (pc := 36) (tgt := 53) dX12_set_36 (by decide) (fun h36 => ?_) (fun h36 => ?_)
        · refine G_iconst (pc := 53) (v := 0) dX12_set_53 rfl ?_
          have h := s1_X12_set (r := r) (T := T) (l := l) (Q := Q) hM2 hA he hP hS hQ hb e1 e2
          rw [gB_f (c := gAl x v) (fun z => z.elim (fun u => h5 u.1) (fun z => z.elim (fun u => gB_eq.mp h31 u.2) (fun u => h36 u.1)))] at h
          exact h
        · refine G_iload_n (pc := 39) 2 dX12_set_39 rfl ?_
          refine G_iconst (pc := 40) (v := 2) dX12_set_40 rfl ?_
          refine G_bipush (pc := 41) (v := 20) dX12_set_41 rfl ?_
          refine gS3 (pc := 43) (k' := 0) (n' := 0) dX12_set_43 lkX12_25 ⟨by decide, by decide⟩ (Nat.le_of_ble_eq_true rfl) rfl rfl ⟨by decide, by decide⟩ (c_X12_in ?_)
          dsimp only [gRt]
          refine G_if_eq (pc := 46) (tgt := 53) dX12_set_46 (by decide) (fun h46 => ?_) (fun h46 => ?_)
          · refine G_iconst (pc := 53) (v := 0) dX12_set_53 rfl ?_
            have h := s1_X12_set (r := r) (T := T) (l := l) (Q := Q) hM2 hA he hP hS hQ hb e1 e2
            rw [gB_f (c := gAl x v) (fun z => z.elim (fun u => h5 u.1) (fun z => z.elim (fun u => gB_eq.mp h31 u.2) (fun u => gB_eq.mp h46 u.2)))] at h
            exact h
          · refine G_iconst (pc := 49) (v := 1) dX12_set_49 rfl ?_
            refine G_goto (pc := 50) (tgt := 54) dX12_set_50 (by decide) ?_
            have h := s1_X12_set (r := r) (T := T) (l := l) (Q := Q) hM2 hA he hP hS hQ hb e1 e2
            rw [gB_t (c := gAl x v) (Or.inr (Or.inr ⟨h36, gB_ne.mp h46⟩))] at h
            exact h
  · refine G_iload_n (pc := 8) 2 dX12_set_8 rfl ?_
    refine G_iconst (pc := 9) (v := 1) dX12_set_9 rfl ?_
    refine G_bipush (pc := 10) (v := 64) dX12_set_10 rfl ?_
    refine gS3 (pc := 12) (k' := 0) (n' := 0) dX12_set_12 lkX12_25 ⟨by decide, by decide⟩ (Nat.le_of_ble_eq_true rfl) rfl rfl ⟨by decide, by decide⟩ (c_X12_in ?_)
    dsimp only [gRt]
    refine G_if_ne (pc := 15) (tgt := 49) dX12_set_15 (by decide) (fun h15 => ?_) (fun h15 => ?_)
    · refine G_iconst (pc := 49) (v := 1) dX12_set_49 rfl ?_
      refine G_goto (pc := 50) (tgt := 54) dX12_set_50 (by decide) ?_
      have h := s1_X12_set (r := r) (T := T) (l := l) (Q := Q) hM2 hA he hP hS hQ hb e1 e2
      rw [gB_t (c := gAl x v) (Or.inl ⟨h5, gB_ne.mp h15⟩)] at h
      exact h
    · refine G_iload_n (pc := 18) 1 dX12_set_18 rfl ?_
      refine G_iconst (pc := 19) (v := 1) dX12_set_19 rfl ?_
      refine G_icmp_ne (pc := 20) (tgt := 34) dX12_set_20 (by decide) (fun h20 => ?_) (fun h20 => ?_)
      · refine G_iload_n (pc := 34) 1 dX12_set_34 rfl ?_
        refine G_iconst (pc := 35) (v := 2) dX12_set_35 rfl ?_
        refine G_icmp_ne (pc := 36) (tgt := 53) dX12_set_36 (by decide) (fun h36 => ?_) (fun h36 => ?_)
        · refine G_iconst (pc := 53) (v := 0) dX12_set_53 rfl ?_
          have h := s1_X12_set (r := r) (T := T) (l := l) (Q := Q) hM2 hA he hP hS hQ hb e1 e2
          rw [gB_f (c := gAl x v) (fun z => z.elim (fun u => gB_eq.mp h15 u.2) (fun z => z.elim (fun u => h20 u.1) (fun u => h36 u.1)))] at h
          exact h
        · refine G_iload_n (pc := 39) 2 dX12_set_39 rfl ?_
          refine G_iconst (pc := 40) (v := 2) dX12_set_40 rfl ?_
          refine G_bipush (pc := 41) (v := 20) dX12_set_41 rfl ?_
          refine gS3 (pc := 43) (k' := 0) (n' := 0) dX12_set_43 lkX12_25 ⟨by decide, by decide⟩ (Nat.le_of_ble_eq_true rfl) rfl rfl ⟨by decide, by decide⟩ (c_X12_in ?_)
          dsimp only [gRt]
          refine G_if_eq (pc := 46) (tgt := 53) dX12_set_46 (by decide) (fun h46 => ?_) (fun h46 => ?_)
          · refine G_iconst (pc := 53) (v := 0) dX12_set_53 rfl ?_
            have h := s1_X12_set (r := r) (T := T) (l := l) (Q := Q) hM2 hA he hP hS hQ hb e1 e2
            rw [gB_f (c := gAl x v) (fun z => z.elim (fun u => gB_eq.mp h15 u.2) (fun z => z.elim (fun u => h20 u.1) (fun u => gB_eq.mp h46 u.2)))] at h
            exact h
          · refine G_iconst (pc := 49) (v := 1) dX12_set_49 rfl ?_
            refine G_goto (pc := 50) (tgt := 54) dX12_set_50 (by decide) ?_
            have h := s1_X12_set (r := r) (T := T) (l := l) (Q := Q) hM2 hA he hP hS hQ hb e1 e2
            rw [gB_t (c := gAl x v) (Or.inr (Or.inr ⟨h36, gB_ne.mp h46⟩))] at h
            exact h
      · refine G_iload_n (pc := 23) 2 dX12_set_23 rfl ?_
        refine G_iconst (pc := 24) (v := 1) dX12_set_24 rfl ?_
        refine G_sipush (pc := 25) (v := 128) dX12_set_25 rfl ?_
        refine gS3 (pc := 28) (k' := 0) (n' := 0) dX12_set_28 lkX12_25 ⟨by decide, by decide⟩ (Nat.le_of_ble_eq_true rfl) rfl rfl ⟨by decide, by decide⟩ (c_X12_in ?_)
        dsimp only [gRt]
        refine G_if_ne (pc := 31) (tgt := 49) dX12_set_31 (by decide) (fun h31 => ?_) (fun h31 => ?_)
        · refine G_iconst (pc := 49) (v := 1) dX12_set_49 rfl ?_
          refine G_goto (pc := 50) (tgt := 54) dX12_set_50 (by decide) ?_
          have h := s1_X12_set (r := r) (T := T) (l := l) (Q := Q) hM2 hA he hP hS hQ hb e1 e2
          rw [gB_t (c := gAl x v) (Or.inr (Or.inl ⟨h20, gB_ne.mp h31⟩))] at h
          exact h
        · refine G_iload_n (pc := 34) 1 dX12_set_34 rfl ?_
          refine G_iconst (pc := 35) (v := 2) dX12_set_35 rfl ?_
          refine G_icmp_ne (pc := 36) (tgt := 53) dX12_set_36 (by decide) (fun h36 => ?_) (fun h36 => ?_)
          · refine G_iconst (pc := 53) (v := 0) dX12_set_53 rfl ?_
            have h := s1_X12_set (r := r) (T := T) (l := l) (Q := Q) hM2 hA he hP hS hQ hb e1 e2
            rw [gB_f (c := gAl x v) (fun z => z.elim (fun u => gB_eq.mp h15 u.2) (fun z => z.elim (fun u => gB_eq.mp h31 u.2) (fun u => h36 u.1)))] at h
            exact h
          · refine G_iload_n (pc := 39) 2 dX12_set_39 rfl ?_
            refine G_iconst (pc := 40) (v := 2) dX12_set_40 rfl ?_
            refine G_bipush (pc := 41) (v := 20) dX12_set_41 rfl ?_
            refine gS3 (pc := 43) (k' := 0) (n' := 0) dX12_set_43 lkX12_25 ⟨by decide, by decide⟩ (Nat.le_of_ble_eq_true rfl) rfl rfl ⟨by decide, by decide⟩ (c_X12_in ?_)
            dsimp only [gRt]
            refine G_if_eq (pc := 46) (tgt := 53) dX12_set_46 (by decide) (fun h46 => ?_) (fun h46 => ?_)
            · refine G_iconst (pc := 53) (v := 0) dX12_set_53 rfl ?_
              have h := s1_X12_set (r := r) (T := T) (l := l) (Q := Q) hM2 hA he hP hS hQ hb e1 e2
              rw [gB_f (c := gAl x v) (fun z => z.elim (fun u => gB_eq.mp h15 u.2) (fun z => z.elim (fun u => gB_eq.mp h31 u.2) (fun u => gB_eq.mp h46 u.2)))] at h
              exact h
            · refine G_iconst (pc := 49) (v := 1) dX12_set_49 rfl ?_
              refine G_goto (pc := 50) (tgt := 54) dX12_set_50 (by decide) ?_
              have h := s1_X12_set (r := r) (T := T) (l := l) (Q := Q) hM2 hA he hP hS hQ hb e1 e2
              rw [gB_t (c := gAl x v) (Or.inr (Or.inr ⟨h36, gB_ne.mp h46⟩))] at h
              exact h

set_option maxRecDepth 100000 in
set_option maxHeartbeats 4000000 in
theorem c_X12_read {Γ : gG} {T : gTy} {r : gR} {l : gLg} {i : gI} {Q : gQ} {m n : Nat} {S : Nat → Int32} {P : Nat → Nat → Int32} {ln : Nat} (hM : lyM T r m) (hA : gN Γ ≤ m) (he : i (m + 1) = S) (hP : rpP i m P n) (hS : vS S) (hl : i m 5 = nI ln) (hl6 : ln ≤ 60) (hQ : ∀ i', rfP m i i' (nxS S (aRead (i (m + 4)) ln S).2) (nxP n P S (aRead (i (m + 4)) ln S).2) (nxN n (aRead (i (m + 4)) ln S).2) → Q (some (.int (aRead (i (m + 4)) ln S).1)) T r l i') : gC Γ MX12_read [.ref m] T r l i Q := by
  have hM2 := hM
  obtain ⟨m0, m1, m2, m3, m4, m5, m6, m7, m8, m9, m10⟩ := hM
  have hT := hS.1
  have hE := hS.2.1
  have hn6 := hT.1.1
  have hn0 := hT.1.2.1
  obtain ⟨w5, w1, wk⟩ := nW_of hS
  refine gC_of rfl (Nat.le_of_ble_eq_true rfl) (L := [(0, .ref m)]) rfl ?_
  refine G_aload_n (pc := 0) 0 dX12_read_0 rfl ?_
  refine gV0 (pc := 1) (k' := 0) (n' := 0) dX12_read_1 lkX12_128 ⟨by decide, by decide⟩ (Nat.le_of_ble_eq_true rfl) rfl rfl ⟨by decide, by decide⟩ (by assumption) (c_begX hM2 hA he ?_)
  intro i1 hb e1 e2
  dsimp only [gRt]
  refine G_aload_n (pc := 4) 0 dX12_read_4 rfl ?_
  refine G_aload_n (pc := 5) 0 dX12_read_5 rfl ?_
  refine gV0 (pc := 6) (k' := 0) (n' := 0) dX12_read_6 lkX12_200 ⟨by decide, by decide⟩ (Nat.le_of_ble_eq_true rfl) rfl rfl ⟨by decide, by decide⟩ (by assumption) (c_X12_reads (ln := ln) hM2 hA (hb.2.2.trans hl) hl6 ?_)
  intro i2 hi2 g3 g4 g5
  dsimp only [gRt]
  rw [hb.1 (m + 4) (by omega) (by omega) (by omega) (by omega), e1] at g3 g4 g5 ⊢
  refine G_if_eq (pc := 9) (tgt := 21) dX12_read_9 (by decide) (fun h9 => ?_) (fun h9 => ?_)
  · have hno := gB_eq.mp h9
    replace hQ := aDone hQ (show aRead (i (m + 4)) ln S = (-1000002, none) from if_neg hno)
    refine G_ldc (pc := 21) dX12_read_21 kcX12_116 ?_
    refine gV1 (pc := 23) (k' := 0) (n' := 0) dX12_read_23 lkX12_134 ⟨by decide, by decide⟩ (Nat.le_of_ble_eq_true rfl) rfl rfl ⟨by decide, by decide⟩ (by assumption) (c_actN (S := S) hM2 hA hP (hb.U hi2) (fun k hk => by rw [hi2.1 (m + 2) (by omega) (by omega)]; exact e2 k hk) (by decide) (fun k hk => by rw [g5]; exact rfAll_F.2 k hk) ?_)
    intro i' hi'
    dsimp only [gRt]
    refine G_iret (pc := 26) dX12_read_26 ⟨_, rfl, rfl⟩ ⟨by decide, by decide⟩ ?_
    exact hQ i' hi'
  · have hok := gB_ne.mp h9
    replace hQ := aDone hQ (show aRead (i (m + 4)) ln S = ((rfAll (i (m + 4)) ln S).2.2.2 0, some (rfAll (i (m + 4)) ln S).2.2.2) from if_pos hok)
    refine G_aload_n (pc := 12) 0 dX12_read_12 rfl ?_
    refine G_getR (pc := 13) dX12_read_13 fX12_7 (by assumption) (by assumption) ?_
    refine G_iconst (pc := 16) (v := 0) dX12_read_16 rfl ?_
    refine G_ialdJ (pc := 17) (j := 0) dX12_read_17 (by assumption) gl0 (by first | assumption | omega) (by decide) ?_
    rw [g5]
    refine G_goto (pc := 18) (tgt := 23) dX12_read_18 (by decide) ?_
    refine gV1 (pc := 23) (k' := 0) (n' := 0) dX12_read_23 lkX12_134 ⟨by decide, by decide⟩ (Nat.le_of_ble_eq_true rfl) rfl rfl ⟨by decide, by decide⟩ (by assumption) (c_actS (S := S) hM2 hA hP (hb.U hi2) (fun k hk => by rw [hi2.1 (m + 2) (by omega) (by omega)]; exact e2 k hk) (by obtain ⟨⟨a, a6, ea⟩, _⟩ := rfAll_F (tx := i (m + 4)) (ln := ln) (S := S); rw [ea]; exact nI_big (by omega)) g5 ?_)
    intro i' hi'
    dsimp only [gRt]
    refine G_iret (pc := 26) dX12_read_26 ⟨_, rfl, rfl⟩ ⟨by decide, by decide⟩ ?_
    exact hQ i' hi'

