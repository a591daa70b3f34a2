set_option maxRecDepth 100000 in
set_option maxHeartbeats 4000000 in
theorem c_X2_leavesCrossing {Γ : gG} {T : gTy} {r : gR} {l : gLg} {i : gI} {Q : gQ} {v b a n m y k : Nat} {sd : Int32} {f : Nat → Int32} {p q : Nat → Nat} (hM : lyMo T r v) (hA : gN Γ ≤ v) (hB : lyC T r b) (hW : lyW T r a) (hV : tv i (b + 1) n f p q) (hm : i (b + 35) 2 = nI m) (hm2 : m < 2 ^ 30) (h4 : i a 4 = nI y) (hy : y ≤ 40) (hk : k + 1 < y) (hR : ¬ gRoot ((i (a + 1) (k + 1) - i (a + 1) k).toInt64 * (i (a + 1) (k + 1) - i (a + 1) k).toInt64 + (i (a + 2) (k + 1) - i (a + 2) k).toInt64 * (i (a + 2) (k + 1) - i (a + 2) k).toInt64) = 0)
  (h0 : gCor f p q n m 0 ((i (a + 1) (k + 1)).toInt64 + ((i (b + 35) 0).toInt64 * sd.toInt64) * (-(i (a + 2) (k + 1) - i (a + 2) k).toInt64) / gRoot ((i (a + 1) (k + 1) - i (a + 1) k).toInt64 * (i (a + 1) (k + 1) - i (a + 1) k).toInt64 + (i (a + 2) (k + 1) - i (a + 2) k).toInt64 * (i (a + 2) (k + 1) - i (a + 2) k).toInt64)) ((i (a + 2) (k + 1)).toInt64 + ((i (b + 35) 0).toInt64 * sd.toInt64) * (i (a + 1) (k + 1) - i (a + 1) k).toInt64 / gRoot ((i (a + 1) (k + 1) - i (a + 1) k).toInt64 * (i (a + 1) (k + 1) - i (a + 1) k).toInt64 + (i (a + 2) (k + 1) - i (a + 2) k).toInt64 * (i (a + 2) (k + 1) - i (a + 2) k).toInt64)) = none → ∀ l', (∀ d, d ≠ v + 2 → l' d = l d) → Q (some (.int 0)) T r l' i)
  (h1 : ∀ c, gCor f p q n m 0 ((i (a + 1) (k + 1)).toInt64 + ((i (b + 35) 0).toInt64 * sd.toInt64) * (-(i (a + 2) (k + 1) - i (a + 2) k).toInt64) / gRoot ((i (a + 1) (k + 1) - i (a + 1) k).toInt64 * (i (a + 1) (k + 1) - i (a + 1) k).toInt64 + (i (a + 2) (k + 1) - i (a + 2) k).toInt64 * (i (a + 2) (k + 1) - i (a + 2) k).toInt64)) ((i (a + 2) (k + 1)).toInt64 + ((i (b + 35) 0).toInt64 * sd.toInt64) * (i (a + 1) (k + 1) - i (a + 1) k).toInt64 / gRoot ((i (a + 1) (k + 1) - i (a + 1) k).toInt64 * (i (a + 1) (k + 1) - i (a + 1) k).toInt64 + (i (a + 2) (k + 1) - i (a + 2) k).toInt64 * (i (a + 2) (k + 1) - i (a + 2) k).toInt64)) = some c → ∀ l', (∀ d, d ≠ v + 2 → l' d = l d) → l' (v + 2) 1 = gSum f p q c.1 c.2.1 1 n → l' (v + 2) 2 = gSum f p q c.1 c.2.1 2 n → Q (some (.int 1)) T r l' (cr3 i (v + 1) c.1.toInt32 c.2.1.toInt32 (nI c.2.2))) : gC Γ MX2_leavesCrossing [.ref v, .ref b, .ref a, .int (nI (k + 1)), .int sd] T r l i Q := by
  obtain ⟨v0, v1, v2, v3, v4⟩ := id hM
  obtain ⟨b0, b1, b2, b3, b4⟩ := id hB
  obtain ⟨w0, w1, w2, w3, w4, w5, w6, w7, w8⟩ := id hW
  have v3a := v3.1
  refine gC_of rfl (Nat.le_of_ble_eq_true rfl) (L := [(0, .ref v), (1, .ref b), (2, .ref a), (3, .int (nI (k + 1))), (4, .int sd)]) rfl ?_
  refine G_aload_n (pc := 0) 2 dX2_leavesCrossing_0 rfl ?_
  refine G_iload_n (pc := 1) 3 dX2_leavesCrossing_1 rfl ?_
  refine gV1 (pc := 2) (k' := 0) (n' := 0) dX2_leavesCrossing_2 lkX2_117 ⟨by decide, by decide⟩ (Nat.le_of_ble_eq_true rfl) rfl rfl ⟨by decide, by decide⟩ (by assumption) (c_X9_changeOfX hW h4 hy hk ?_)
  dsimp only [gRt]
  refine G_i2l (pc := 5) dX2_leavesCrossing_5 ?_
  refine G_sn5 (pc := 6) (gSt_l dX2_leavesCrossing_6 (by decide)) rfl ?_
  refine G_aload_n (pc := 8) 2 dX2_leavesCrossing_8 rfl ?_
  refine G_iload_n (pc := 9) 3 dX2_leavesCrossing_9 rfl ?_
  refine gV1 (pc := 10) (k' := 0) (n' := 0) dX2_leavesCrossing_10 lkX2_120 ⟨by decide, by decide⟩ (Nat.le_of_ble_eq_true rfl) rfl rfl ⟨by decide, by decide⟩ (by assumption) (c_X9_changeOfY hW h4 hy hk ?_)
  dsimp only [gRt]
  refine G_i2l (pc := 13) dX2_leavesCrossing_13 ?_
  refine G_sn6 (pc := 14) (gSt_l dX2_leavesCrossing_14 (by decide)) rfl ?_
  refine G_lload (pc := 16) 5 dX2_leavesCrossing_16 rfl ?_
  refine G_lload (pc := 18) 5 dX2_leavesCrossing_18 rfl ?_
  refine G_lmul (pc := 20) dX2_leavesCrossing_20 ?_
  refine G_lload (pc := 21) 6 dX2_leavesCrossing_21 rfl ?_
  refine G_lload (pc := 23) 6 dX2_leavesCrossing_23 rfl ?_
  refine G_lmul (pc := 25) dX2_leavesCrossing_25 ?_
  refine G_ladd (pc := 26) dX2_leavesCrossing_26 ?_
  refine gS1 (pc := 27) (k' := 0) (n' := 0) dX2_leavesCrossing_27 lkX2_48 ⟨by decide, by decide⟩ (Nat.le_of_ble_eq_true rfl) rfl rfl ⟨by decide, by decide⟩ (c_X11_rootOf ?_)
  dsimp only [gRt]
  refine G_sn7 (pc := 30) (gSt_l dX2_leavesCrossing_30 (by decide)) rfl ?_
  refine G_lload (pc := 32) 7 dX2_leavesCrossing_32 rfl ?_
  refine G_lconst (pc := 34) (v := 0) dX2_leavesCrossing_34 rfl ?_
  refine G_lif_eq (pc := 35) (tgt := 47) dX2_leavesCrossing_35 dX2_leavesCrossing_36 (by decide) (fun h35 => ?_) (fun h35 => ?_)
  · exact absurd h35 hR
  · refine G_aload_n (pc := 39) 2 dX2_leavesCrossing_39 rfl ?_
    refine G_iload_n (pc := 40) 3 dX2_leavesCrossing_40 rfl ?_
    refine gV1 (pc := 41) (k' := 0) (n' := 0) dX2_leavesCrossing_41 lkX2_123 ⟨by decide, by decide⟩ (Nat.le_of_ble_eq_true rfl) rfl rfl ⟨by decide, by decide⟩ (by assumption) (c_X9_has w0 ?_)
    dsimp only [gRt]
    refine G_if_ne (pc := 44) (tgt := 49) dX2_leavesCrossing_44 (by decide) (fun h44 => ?_) (fun h44 => ?_)
    · refine G_aload_n (pc := 49) 1 dX2_leavesCrossing_49 rfl ?_
      refine G_getR (pc := 50) dX2_leavesCrossing_50 fX2_60 (by assumption) (by assumption) ?_
      refine G_iconst (pc := 53) (v := 0) dX2_leavesCrossing_53 rfl ?_
      refine gV1 (pc := 54) (k' := 0) (n' := 0) dX2_leavesCrossing_54 lkX2_66 ⟨by decide, by decide⟩ (Nat.le_of_ble_eq_true rfl) rfl rfl ⟨by decide, by decide⟩ b4.1 (c_X4_at (j := 0) b4 (by decide) ?_)
      dsimp only [gRt]
      refine G_i2l (pc := 57) dX2_leavesCrossing_57 ?_
      refine G_iload (pc := 58) 4 dX2_leavesCrossing_58 rfl ?_
      refine G_i2l (pc := 60) dX2_leavesCrossing_60 ?_
      refine G_lmul (pc := 61) dX2_leavesCrossing_61 ?_
      refine G_sn8 (pc := 62) (gSt_l dX2_leavesCrossing_62 (by decide)) rfl ?_
      refine G_aload_n (pc := 64) 2 dX2_leavesCrossing_64 rfl ?_
      refine G_getR (pc := 65) dX2_leavesCrossing_65 fX2_127 (by assumption) (by assumption) ?_
      refine G_iload_n (pc := 68) 3 dX2_leavesCrossing_68 rfl ?_
      refine G_ialdJ (pc := 69) (j := k + 1) dX2_leavesCrossing_69 (by assumption) rfl (by first | assumption | omega) (by decide) ?_
      refine G_i2l (pc := 70) dX2_leavesCrossing_70 ?_
      refine G_lload (pc := 71) 8 dX2_leavesCrossing_71 rfl ?_
      refine G_lload (pc := 73) 6 dX2_leavesCrossing_73 rfl ?_
      refine G_lneg (pc := 75) dX2_leavesCrossing_75 ?_
      refine G_lmul (pc := 76) dX2_leavesCrossing_76 ?_
      refine G_lload (pc := 77) 7 dX2_leavesCrossing_77 rfl ?_
      refine G_ldiv (pc := 79) dX2_leavesCrossing_79 hR ?_
      refine G_ladd (pc := 80) dX2_leavesCrossing_80 ?_
      refine G_sn9 (pc := 81) (gSt_l dX2_leavesCrossing_81 (by decide)) rfl ?_
      refine G_aload_n (pc := 83) 2 dX2_leavesCrossing_83 rfl ?_
      refine G_getR (pc := 84) dX2_leavesCrossing_84 fX2_131 (by assumption) (by assumption) ?_
      refine G_iload_n (pc := 87) 3 dX2_leavesCrossing_87 rfl ?_
      refine G_ialdJ (pc := 88) (j := k + 1) dX2_leavesCrossing_88 (by assumption) rfl (by first | assumption | omega) (by decide) ?_
      refine G_i2l (pc := 89) dX2_leavesCrossing_89 ?_
      refine G_lload (pc := 90) 8 dX2_leavesCrossing_90 rfl ?_
      refine G_lload (pc := 92) 5 dX2_leavesCrossing_92 rfl ?_
      refine G_lmul (pc := 94) dX2_leavesCrossing_94 ?_
      refine G_lload (pc := 95) 7 dX2_leavesCrossing_95 rfl ?_
      refine G_ldiv (pc := 97) dX2_leavesCrossing_97 hR ?_
      refine G_ladd (pc := 98) dX2_leavesCrossing_98 ?_
      refine G_sn10 (pc := 99) (gSt_l dX2_leavesCrossing_99 (by decide)) rfl ?_
      refine G_aload_n (pc := 101) 0 dX2_leavesCrossing_101 rfl ?_
      refine G_getR (pc := 102) dX2_leavesCrossing_102 fX2_12 (by assumption) (by assumption) ?_
      refine G_aload_n (pc := 105) 1 dX2_leavesCrossing_105 rfl ?_
      refine G_lload (pc := 106) 9 dX2_leavesCrossing_106 rfl ?_
      refine G_lload (pc := 108) 10 dX2_leavesCrossing_108 rfl ?_
      refine gV3 (pc := 110) (k' := 0) (n' := 0) dX2_leavesCrossing_110 lkX2_88 ⟨by decide, by decide⟩ (Nat.le_of_ble_eq_true rfl) rfl rfl ⟨by decide, by decide⟩ v3a (c_X0_correct hB v3 (by omega) hV hm hm2 ?_ ?_)
      · intro hc l1 hl
        dsimp only [gRt]
        refine G_iret (pc := 113) dX2_leavesCrossing_113 ⟨_, rfl, rfl⟩ ⟨by decide, by decide⟩ ?_
        exact h0 hc l1 hl
      · intro X Y rd hc l1 hl g1 g2
        dsimp only [gRt]
        refine G_iret (pc := 113) dX2_leavesCrossing_113 ⟨_, rfl, rfl⟩ ⟨by decide, by decide⟩ ?_
        exact h1 (X, Y, rd) hc l1 hl g1 g2
    · exact absurd (has_in h4 hk (by omega)) (gB_eq.mp h44)
set_option maxRecDepth 100000 in
set_option maxHeartbeats 4000000 in
theorem c_X2_signBeside {Γ : gG} {T : gTy} {r : gR} {l : gLg} {i : gI} {Q : gQ} {v a y k : Nat} {sd : Int32} (hM : lyMo T r v) (hW : lyW T r a) (h4 : i a 4 = nI y) (hy : y ≤ 40) (hk : k + 1 < y) (hQ : Q (some (.int (if (l (v + 2) 1 * (i (a + 1) (k + 1) - i (a + 1) k).toInt64 + l (v + 2) 2 * (i (a + 2) (k + 1) - i (a + 2) k).toInt64) * sd.toInt64 < 0 then (-1) else 1))) T r l i) : gC Γ MX2_signBeside [.ref v, .ref a, .int (nI (k + 1)), .int sd] T r l i Q := by
  obtain ⟨v0, v1, v2, v3, v4⟩ := id hM
  obtain ⟨v3a, v3b, v3c⟩ := id v3
  have w0 := hW.1
  refine gC_of rfl (Nat.le_of_ble_eq_true rfl) (L := [(0, .ref v), (1, .ref a), (2, .int (nI (k + 1))), (3, .int sd)]) rfl ?_
  refine G_aload_n (pc := 0) 1 dX2_signBeside_0 rfl ?_
  refine G_iload_n (pc := 1) 2 dX2_signBeside_1 rfl ?_
  refine gV1 (pc := 2) (k' := 0) (n' := 0) dX2_signBeside_2 lkX2_117 ⟨by decide, by decide⟩ (Nat.le_of_ble_eq_true rfl) rfl rfl ⟨by decide, by decide⟩ (by assumption) (c_X9_changeOfX hW h4 hy hk ?_)
  dsimp only [gRt]
  refine G_i2l (pc := 5) dX2_signBeside_5 ?_
  refine G_sn4 (pc := 6) (gSt_l dX2_signBeside_6 (by decide)) rfl ?_
  refine G_aload_n (pc := 8) 1 dX2_signBeside_8 rfl ?_
  refine G_iload_n (pc := 9) 2 dX2_signBeside_9 rfl ?_
  refine gV1 (pc := 10) (k' := 0) (n' := 0) dX2_signBeside_10 lkX2_120 ⟨by decide, by decide⟩ (Nat.le_of_ble_eq_true rfl) rfl rfl ⟨by decide, by decide⟩ (by assumption) (c_X9_changeOfY hW h4 hy hk ?_)
  dsimp only [gRt]
  refine G_i2l (pc := 13) dX2_signBeside_13 ?_
  refine G_sn5 (pc := 14) (gSt_l dX2_signBeside_14 (by decide)) rfl ?_
  refine G_aload_n (pc := 16) 0 dX2_signBeside_16 rfl ?_
  refine G_getR (pc := 17) dX2_signBeside_17 fX2_12 (by assumption) (by assumption) ?_
  refine G_getR (pc := 20) dX2_signBeside_20 fX2_98 (by assumption) (by assumption) ?_
  refine G_getL (pc := 23) dX2_signBeside_23 fX2_85 (by assumption) ?_
  refine G_lload (pc := 26) 4 dX2_signBeside_26 rfl ?_
  refine G_lmul (pc := 28) dX2_signBeside_28 ?_
  refine G_aload_n (pc := 29) 0 dX2_signBeside_29 rfl ?_
  refine G_getR (pc := 30) dX2_signBeside_30 fX2_12 (by assumption) (by assumption) ?_
  refine G_getR (pc := 33) dX2_signBeside_33 fX2_98 (by assumption) (by assumption) ?_
  refine G_getL (pc := 36) dX2_signBeside_36 fX2_81 (by assumption) ?_
  refine G_lload (pc := 39) 5 dX2_signBeside_39 rfl ?_
  refine G_lmul (pc := 41) dX2_signBeside_41 ?_
  refine G_ladd (pc := 42) dX2_signBeside_42 ?_
  refine G_iload_n (pc := 43) 3 dX2_signBeside_43 rfl ?_
  refine G_i2l (pc := 44) dX2_signBeside_44 ?_
  refine G_lmul (pc := 45) dX2_signBeside_45 ?_
  refine G_lconst (pc := 46) (v := 0) dX2_signBeside_46 rfl ?_
  refine G_lif_lt (pc := 47) (tgt := 55) dX2_signBeside_47 dX2_signBeside_48 (by decide) (fun h47 => ?_) (fun h47 => ?_)
  · refine G_iconst (pc := 55) (v := (-1)) dX2_signBeside_55 rfl ?_
    refine G_iret (pc := 56) dX2_signBeside_56 ⟨_, rfl, rfl⟩ ⟨by decide, by decide⟩ ?_
    rw [if_pos h47] at hQ
    exact hQ
  · refine G_iconst (pc := 51) (v := 1) dX2_signBeside_51 rfl ?_
    refine G_goto (pc := 52) (tgt := 56) dX2_signBeside_52 (by decide) ?_
    refine G_iret (pc := 56) dX2_signBeside_56 ⟨_, rfl, rfl⟩ ⟨by decide, by decide⟩ ?_
    rw [if_neg h47] at hQ
    exact hQ
/-! Settings: the bounds stand in two arrays that nobody writes -/
/-- a setting's number and a value in its range -/
abbrev gAl (x v : Int32) : Prop := (x = 0 ∧ inI v 1 64) ∨ (x = 1 ∧ inI v 1 128) ∨ (x = 2 ∧ inI v 2 20)
theorem gw64 {a b : Int32} : (¬ a.toInt64 < b.toInt64) ↔ ¬ a < b := by
  rw [Int64.lt_iff_toInt_lt, Int32.lt_iff_toInt_lt, Int32.toInt_toInt64, Int32.toInt_toInt64]
theorem gIn3 {x : Int32} (h0 : ¬ x < 0) (h1 : ¬ 3 ≤ x) : x = 0 ∨ x = 1 ∨ x = 2 := by
  rcases pk_ix x (n := 3) (by omega) with q | q | ⟨j, hj, rfl⟩
  · exact absurd q h0
  · exact absurd q h1
  · rcases (show j = 0 ∨ j = 1 ∨ j = 2 by omega) with rfl | rfl | rfl
    · exact Or.inl rfl
    · exact Or.inr (Or.inl rfl)
    · exact Or.inr (Or.inr rfl)
theorem gAl_out {x v : Int32} (h : x < 0 ∨ 3 ≤ x) : ¬ gAl x v := by
  intro q
  rcases q with ⟨rfl, -⟩ | ⟨rfl, -⟩ | ⟨rfl, -⟩ <;> rcases h with h | h <;> revert h <;> decide
set_option maxRecDepth 100000 in
set_option maxHeartbeats 4000000 in
theorem c_X4_allows {Γ : gG} {T : gTy} {r : gR} {l : gLg} {i : gI} {Q : gQ} {x v : Int32} (hQ : Q (some (.int (gB (gAl x v)))) T r l i) : gC Γ MX4_allows [.int x, .int v] T r l i Q := by
  refine gC_of rfl (Nat.le_of_ble_eq_true rfl) (L := [(0, .int x), (1, .int v)]) rfl ?_
  refine G_iload_n (pc := 0) 0 dX4_allows_0 rfl ?_
  refine G_if_lt (pc := 1) (tgt := 44) dX4_allows_1 (by decide) (fun h1 => ?_) (fun h1 => ?_)
  · refine G_iconst (pc := 44) (v := 0) dX4_allows_44 rfl ?_
    refine G_iret (pc := 45) dX4_allows_45 ⟨_, rfl, rfl⟩ ⟨by decide, by decide⟩ ?_
    rw [gB_f (gAl_out (Or.inl h1))] at hQ
    exact hQ
  · refine G_iload_n (pc := 4) 0 dX4_allows_4 rfl ?_
    refine G_getsL (pc := 5) dX4_allows_5 gsX4_13 ?_
    refine G_tlenL (pc := 8) (v := 3) dX4_allows_8 rfl ?_
    refine G_icmp_ge (pc := 9) (tgt := 44) dX4_allows_9 (by decide) (fun h9 => ?_) (fun h9 => ?_)
    · refine G_iconst (pc := 44) (v := 0) dX4_allows_44 rfl ?_
      refine G_iret (pc := 45) dX4_allows_45 ⟨_, rfl, rfl⟩ ⟨by decide, by decide⟩ ?_
      rw [gB_f (gAl_out (Or.inr h9))] at hQ
      exact hQ
    · have hx3 := gIn3 h1 h9
      obtain ⟨j, hj, hxj⟩ : ∃ j : Nat, j < 3 ∧ x = nI j := by
        rcases hx3 with e | e | e
        · exact ⟨0, by decide, e⟩
        · exact ⟨1, by decide, e⟩
        · exact ⟨2, by decide, e⟩
      have key : (¬ v.toInt64 < (gLo j).toInt64 ∧ ¬ (gHi j).toInt64 < v.toInt64) ↔ gAl x v := by
        rw [gw64, gw64]
        rcases (show j = 0 ∨ j = 1 ∨ j = 2 by omega) with rfl | rfl | rfl
        · rw [show gLo 0 = 1 from rfl, show gHi 0 = 64 from rfl]
          exact ⟨fun q => Or.inl ⟨hxj, q⟩, fun q => by rcases q with ⟨_, q⟩ | ⟨e, _⟩ | ⟨e, _⟩; exact q; exact absurd (hxj.symm.trans e) (by decide); exact absurd (hxj.symm.trans e) (by decide)⟩
        · rw [show gLo 1 = 1 from rfl, show gHi 1 = 128 from rfl]
          exact ⟨fun q => Or.inr (Or.inl ⟨hxj, q⟩), fun q => by rcases q with ⟨e, _⟩ | ⟨_, q⟩ | ⟨e, _⟩; exact absurd (hxj.symm.trans e) (by decide); exact q; exact absurd (hxj.symm.trans e) (by decide)⟩
        · rw [show gLo 2 = 2 from rfl, show gHi 2 = 20 from rfl]
          exact ⟨fun q => Or.inr (Or.inr ⟨hxj, q⟩), fun q => by rcases q with ⟨e, _⟩ | ⟨e, _⟩ | ⟨_, q⟩; exact absurd (hxj.symm.trans e) (by decide); exact absurd (hxj.symm.trans e) (by decide); exact q⟩
      refine G_iload_n (pc := 12) 0 dX4_allows_12 rfl ?_
      refine G_getsG (pc := 13) dX4_allows_13 gsX4_16 ?_
      refine G_tlenG (pc := 16) (v := 3) dX4_allows_16 rfl ?_
      refine G_icmp_ge (pc := 17) (tgt := 44) dX4_allows_17 (by decide) (fun h17 => ?_) (fun h17 => ?_)
      · refine G_iconst (pc := 44) (v := 0) dX4_allows_44 rfl ?_
        refine G_iret (pc := 45) dX4_allows_45 ⟨_, rfl, rfl⟩ ⟨by decide, by decide⟩ ?_
        rw [gB_f (gAl_out (Or.inr h17))] at hQ
        exact hQ
      · refine G_iload_n (pc := 20) 1 dX4_allows_20 rfl ?_
        refine G_i2l (pc := 21) dX4_allows_21 ?_
        refine G_getsL (pc := 22) dX4_allows_22 gsX4_13 ?_
        refine G_iload_n (pc := 25) 0 dX4_allows_25 rfl ?_
        refine G_tldLJ (pc := 26) (j := j) dX4_allows_26 hxj hj (by decide) ?_
        refine G_i2l (pc := 27) dX4_allows_27 ?_
        refine G_getsG (pc := 28) dX4_allows_28 gsX4_16 ?_
        refine G_iload_n (pc := 31) 0 dX4_allows_31 rfl ?_
        refine G_tldGJ (pc := 32) (j := j) dX4_allows_32 hxj hj (by decide) ?_
        refine G_i2l (pc := 33) dX4_allows_33 ?_
        refine gS3 (pc := 34) (k' := 0) (n' := 0) dX4_allows_34 lkX4_19 ⟨by decide, by decide⟩ (Nat.le_of_ble_eq_true rfl) rfl rfl ⟨by decide, by decide⟩ (c_X11_isWithin ?_)
        dsimp only [gRt]
        refine G_if_eq (pc := 37) (tgt := 44) dX4_allows_37 (by decide) (fun h37 => ?_) (fun h37 => ?_)
        · refine G_iconst (pc := 44) (v := 0) dX4_allows_44 rfl ?_
          refine G_iret (pc := 45) dX4_allows_45 ⟨_, rfl, rfl⟩ ⟨by decide, by decide⟩ ?_
          rw [gB_f (fun q => gB_eq.mp h37 (key.mpr q))] at hQ
          exact hQ
        · refine G_iconst (pc := 40) (v := 1) dX4_allows_40 rfl ?_
          refine G_goto (pc := 41) (tgt := 45) dX4_allows_41 (by decide) ?_
          refine G_iret (pc := 45) dX4_allows_45 ⟨_, rfl, rfl⟩ ⟨by decide, by decide⟩ ?_
          rw [gB_t (key.mp (gB_ne.mp h37))] at hQ
          exact hQ
theorem gAl_ix {x v : Int32} (h : gAl x v) : ∃ j : Nat, j < 3 ∧ x = nI j := by
  rcases h with ⟨e, _⟩ | ⟨e, _⟩ | ⟨e, _⟩
  · exact ⟨0, by decide, e⟩
  · exact ⟨1, by decide, e⟩
  · exact ⟨2, by decide, e⟩
set_option maxRecDepth 100000 in
set_option maxHeartbeats 4000000 in
theorem c_X4_replace {Γ : gG} {T : gTy} {r : gR} {l : gLg} {i : gI} {Q : gQ} {a : Nat} {x v : Int32} (hL : lySe T r a) (hA : gN Γ ≤ a) (h0 : ¬ gAl x v → Q (some (.int 0)) T r l i) (h1 : ∀ j, j < 3 → x = nI j → gAl x v → Q (some (.int (i (a + 1) j))) T r l (up2 i (a + 1) j v)) : gC Γ MX4_replace [.ref a, .int x, .int v] T r l i Q := by
  obtain ⟨a0, a1, a2⟩ := hL
  refine gC_of rfl (Nat.le_of_ble_eq_true rfl) (L := [(0, .ref a), (1, .int x), (2, .int v)]) rfl ?_
  refine G_iload_n (pc := 0) 1 dX4_replace_0 rfl ?_
  refine G_iload_n (pc := 1) 2 dX4_replace_1 rfl ?_
  refine gS2 (pc := 2) (k' := 0) (n' := 0) dX4_replace_2 lkX4_25 ⟨by decide, by decide⟩ (Nat.le_of_ble_eq_true rfl) rfl rfl ⟨by decide, by decide⟩ (c_X4_allows ?_)
  dsimp only [gRt]
  refine G_if_eq (pc := 5) (tgt := 17) dX4_replace_5 (by decide) (fun h5 => ?_) (fun h5 => ?_)
  · refine G_iconst (pc := 17) (v := 0) dX4_replace_17 rfl ?_
    refine G_iret (pc := 18) dX4_replace_18 ⟨_, rfl, rfl⟩ ⟨by decide, by decide⟩ ?_
    exact h0 (gB_eq.mp h5)
  · have h5 := gB_ne.mp h5
    obtain ⟨j, hj, hxj⟩ := gAl_ix h5
    refine G_iload_n (pc := 8) 1 dX4_replace_8 rfl ?_
    refine G_aload_n (pc := 9) 0 dX4_replace_9 rfl ?_
    refine G_getR (pc := 10) dX4_replace_10 fX4_7 (by assumption) (by assumption) ?_
    refine G_alen (pc := 13) (z := 13) (v := 3) dX4_replace_13 (by decide) (by assumption) rfl ?_
    refine G_icmp_lt (pc := 14) (tgt := 19) dX4_replace_14 (by decide) (fun h14 => ?_) (fun h14 => ?_)
    · refine G_aload_n (pc := 19) 0 dX4_replace_19 rfl ?_
      refine G_getR (pc := 20) dX4_replace_20 fX4_7 (by assumption) (by assumption) ?_
      refine G_iload_n (pc := 23) 1 dX4_replace_23 rfl ?_
      refine G_ialdJ (pc := 24) (j := j) dX4_replace_24 (by assumption) hxj (by first | assumption | omega) (by decide) ?_
      refine G_sn3 (pc := 25) (gSt_in dX4_replace_25 rfl (by decide)) rfl ?_
      refine G_aload_n (pc := 26) 0 dX4_replace_26 rfl ?_
      refine G_getR (pc := 27) dX4_replace_27 fX4_7 (by assumption) (by assumption) ?_
      refine G_iload_n (pc := 30) 1 dX4_replace_30 rfl ?_
      refine G_iload_n (pc := 31) 2 dX4_replace_31 rfl ?_
      refine G_iastJ (pc := 32) (j := j) dX4_replace_32 (by assumption) hxj (by first | assumption | omega) (by decide) (by first | assumption | omega) ?_
      refine G_iload_n (pc := 33) 3 dX4_replace_33 rfl ?_
      refine G_iret (pc := 34) dX4_replace_34 ⟨_, rfl, rfl⟩ ⟨by decide, by decide⟩ ?_
      exact h1 j hj hxj h5
    · exact absurd (by rw [hxj]; exact nI_lt hj (by decide)) h14
def lyTx (T : gTy) (r : gR) (a : Nat) : Prop := (T.2 a).1 = 8 ∧ r a 0 = some (a + 1) ∧ T.2 (a + 1) = (13, 60)
set_option maxRecDepth 100000 in
set_option maxHeartbeats 4000000 in
theorem c_X8_isFull {Γ : gG} {T : gTy} {r : gR} {l : gLg} {i : gI} {Q : gQ} {a : Nat} (hk : (T.2 a).1 = 8) (hQ : Q (some (.int (gB (¬ i a 1 < 60)))) T r l i) : gC Γ MX8_isFull [.ref a] T r l i Q := by
  refine gC_of rfl (Nat.le_of_ble_eq_true rfl) (L := [(0, .ref a)]) rfl ?_
  refine G_aload_n (pc := 0) 0 dX8_isFull_0 rfl ?_
  refine G_getI (pc := 1) dX8_isFull_1 fX8_15 (by assumption) ?_
  refine G_bipush (pc := 4) (v := 60) dX8_isFull_4 rfl ?_
  refine G_icmp_lt (pc := 6) (tgt := 13) dX8_isFull_6 (by decide) (fun h6 => ?_) (fun h6 => ?_)
  · refine G_iconst (pc := 13) (v := 0) dX8_isFull_13 rfl ?_
    refine G_iret (pc := 14) dX8_isFull_14 ⟨_, rfl, rfl⟩ ⟨by decide, by decide⟩ ?_
    simpa [gB, h6] using hQ
  · refine G_iconst (pc := 9) (v := 1) dX8_isFull_9 rfl ?_
    refine G_goto (pc := 10) (tgt := 14) dX8_isFull_10 (by decide) ?_
    refine G_iret (pc := 14) dX8_isFull_14 ⟨_, rfl, rfl⟩ ⟨by decide, by decide⟩ ?_
    simpa [gB, h6] using hQ
set_option maxRecDepth 100000 in
set_option maxHeartbeats 4000000 in
theorem c_X8_append {Γ : gG} {T : gTy} {r : gR} {l : gLg} {i : gI} {Q : gQ} {a n : Nat} {x : Int32} (hL : lyTx T r a) (hA : gN Γ ≤ a) (h1 : i a 1 = nI n) (hn : n < 60) (hQ : Q none T r l (up2 (up2 i (a + 1) n x) a 1 (nI (n + 1)))) : gC Γ MX8_append [.ref a, .int x] T r l i Q := by
  obtain ⟨a0, a1, a2⟩ := hL
  refine gC_of rfl (Nat.le_of_ble_eq_true rfl) (L := [(0, .ref a), (1, .int x)]) rfl ?_
  refine G_aload_n (pc := 0) 0 dX8_append_0 rfl ?_
  refine gV0 (pc := 1) (k' := 0) (n' := 0) dX8_append_1 lkX8_19 ⟨by decide, by decide⟩ (Nat.le_of_ble_eq_true rfl) rfl rfl ⟨by decide, by decide⟩ (by assumption) (c_X8_isFull a0 ?_)
  dsimp only [gRt]
  refine G_if_eq (pc := 4) (tgt := 8) dX8_append_4 (by decide) (fun h4 => ?_) (fun h4 => ?_)
  · refine G_aload_n (pc := 8) 0 dX8_append_8 rfl ?_
    refine G_getR (pc := 9) dX8_append_9 fX8_9 (by assumption) (by assumption) ?_
    refine G_aload_n (pc := 12) 0 dX8_append_12 rfl ?_
    refine G_getI (pc := 13) dX8_append_13 fX8_15 (by assumption) ?_
    refine G_iload_n (pc := 16) 1 dX8_append_16 rfl ?_
    refine G_iastJ (pc := 17) (j := n) dX8_append_17 (by assumption) h1 (by first | assumption | omega) (by decide) (by first | assumption | omega) ?_
    refine G_aload_n (pc := 18) 0 dX8_append_18 rfl ?_
    refine G_dup (pc := 19) dX8_append_19 rfl ?_
    refine G_getI (pc := 20) dX8_append_20 fX8_15 (by assumption) ?_
    simp (disch := omega) only [up2_ne, up2_row, up2_self]
    rw [h1]
    refine G_iconst (pc := 23) (v := 1) dX8_append_23 rfl ?_
    refine G_iadd (pc := 24) dX8_append_24 ?_
    rw [nI_1]
    refine G_putI (pc := 25) dX8_append_25 fX8_15 (by assumption) rfl rfl (by first | assumption | omega) ?_
    refine G_vret (pc := 28) dX8_append_28 rfl ⟨by decide, by decide⟩ ?_
    exact hQ
  · exact absurd (show i a 1 < 60 by rw [h1]; exact nI_lt hn (by decide)) (gB_ne.mp h4)
