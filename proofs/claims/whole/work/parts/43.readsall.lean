/-! the reference reads the whole text -/
/-- a term begins at p, n are there: no fault?, the place, the reason, the flat state -/
def rfG (tx : Nat → Int32) (ln : Nat) : Nat → Nat → Nat → Int32 → (Nat → Int32) → Bool × Nat × Int32 × (Nat → Int32)
  | 0, p, _, _, F => (false, p, 1, F)
  | d + 1, p, n, sg, F =>
    if rfO tx ln p ∧ (rfT tx ln p).1 < ln ∧ (tx (rfT tx ln p).1 = 43 ∨ tx (rfT tx ln p).1 = 45) then
      (if n + 1 = 6 then (false, (rfT tx ln p).1, 3, adF F n (rfA tx ln p sg) (nI (rfT tx ln p).2.1) (nI (rfT tx ln p).2.2))
      else rfG tx ln d ((rfT tx ln p).1 + 1) (n + 1) (if tx (rfT tx ln p).1 = 45 then -1 else 1) (adF F n (rfA tx ln p sg) (nI (rfT tx ln p).2.1) (nI (rfT tx ln p).2.2)))
    else (decide (rfO tx ln p ∧ (rfT tx ln p).1 = ln), (rfT tx ln p).1, rfR tx ln p, adF F n (rfA tx ln p sg) (nI (rfT tx ln p).2.1) (nI (rfT tx ln p).2.2))
abbrev rfM (tx : Nat → Int32) (ln : Nat) : Prop := 0 < ln ∧ tx 0 = 45
def rfAll (tx : Nat → Int32) (ln : Nat) (s : Nat → Int32) : Bool × Nat × Int32 × (Nat → Int32) := rfG tx ln 6 (if rfM tx ln then 1 else 0) 0 (if rfM tx ln then -1 else 1) (upd (upd s 0 0) 1 0)
theorem adF_0 {s : Nat → Int32} {n : Nat} {f x y : Int32} : adF s n f x y 0 = nI (n + 1) := by
  unfold adF
  rw [upd_o (by decide), upd_s]
/-- the flat state, the place, the reason may move -/
def frU (m : Nat) (i i' : gI) : Prop := (∀ c, c ≠ m → c ≠ m + 1 → i' c = i c) ∧ ∀ j, j ≠ 10 → j ≠ 11 → i' m j = i m j
theorem frU.tr {m : Nat} {i j k : gI} (h : frU m i j) (g : frU m j k) : frU m i k := ⟨fun c c1 c2 => (g.1 c c1 c2).trans (h.1 c c1 c2), fun q q1 q2 => (g.2 q q1 q2).trans (h.2 q q1 q2)⟩
theorem frU.rf {m : Nat} {i : gI} : frU m i i := ⟨fun _ _ _ => rfl, fun _ _ _ => rfl⟩
theorem frU.put {m j : Nat} {i i' : gI} {x : Int32} (h : frU m i i') (hj : j = 10 ∨ j = 11) : frU m i (up2 i' m j x) := ⟨fun c c1 c2 => by rw [up2_ne c1]; exact h.1 c c1 c2, fun q q1 q2 => by rw [up2_row (by omega)]; exact h.2 q q1 q2⟩
theorem frU.put1 {m j : Nat} {i i' : gI} {x : Int32} (h : frU m i i') : frU m i (up2 i' (m + 1) j x) := ⟨fun c c1 c2 => by rw [up2_ne c2]; exact h.1 c c1 c2, fun q q1 q2 => by rw [up2_ne (by omega)]; exact h.2 q q1 q2⟩
set_option maxRecDepth 100000 in
set_option maxHeartbeats 4000000 in
theorem lp_X12_reads {Γ : gG} {T : gTy} {r : gR} {l : gLg} {i : gI} {Q : gQ} {m ln : Nat} {R : Bool × Nat × Int32 × (Nat → Int32)} (hM : lyM T r m) (hA : gN Γ ≤ m) (hl : i m 5 = nI ln) (hl6 : ln ≤ 60) (hQ : ∀ i', frU m i i' → i' m 10 = nI R.2.1 → i' m 11 = R.2.2.1 → i' (m + 1) = R.2.2.2 → Q (some (.int (gB (R.1 = true)))) T r l i') : ∀ d n p sg F sg2 i1, n + d = 5 → p ≤ ln → frU m i i1 → i1 m 10 = nI (rfT (i (m + 4)) ln p).1 → i1 m 11 = rfR (i (m + 4)) ln p → i1 (m + 1) = (adF F n (rfA (i (m + 4)) ln p sg) (nI (rfT (i (m + 4)) ln p).2.1) (nI (rfT (i (m + 4)) ln p).2.2)) → rfG (i (m + 4)) ln (d + 1) p n sg F = R → G Γ MX12_reads 0 0 65 [(0, .ref m), (1, .int sg2), (2, .int (gB (rfO (i (m + 4)) ln p)))] [] T r l i1 Q := by
  have hM2 := hM
  obtain ⟨m0, m1, m2, m3, m4, m5, m6, m7, m8, m9, m10⟩ := hM
  intro d
  induction d with
  | zero =>
    intro n p sg F sg2 i1 hd hp hi h10 h11 hF hR
    have e4 : i1 (m + 4) = i (m + 4) := hi.1 (m + 4) (by omega) (by omega)
    have hle := rfT_le (tx := i (m + 4)) hp
    rw [rfG] at hR
    refine G_iload_n (pc := 65) 2 dX12_reads_65 rfl ?_
    refine G_if_eq (pc := 66) (tgt := 137) dX12_reads_66 (by decide) (fun h66 => ?_) (fun h66 => ?_)
    · refine G_iload_n (pc := 137) 2 dX12_reads_137 rfl ?_
      refine G_if_eq (pc := 138) (tgt := 156) dX12_reads_138 (by decide) (fun h138 => ?_) (fun h138 => ?_)
      · refine G_iconst (pc := 156) (v := 0) dX12_reads_156 rfl ?_
        refine G_iret (pc := 157) dX12_reads_157 ⟨_, rfl, rfl⟩ ⟨by decide, by decide⟩ ?_
        rw [if_neg (fun z => gB_eq.mp h66 z.1)] at hR
        rw [show gB (R.1 = true) = 0 by rw [← hR]; exact gB_f (by have h66 := gB_eq.mp h66; simp [h66])] at hQ
        exact hQ i1 hi (by rw [← hR]; exact h10) (by rw [← hR]; exact h11) (by rw [← hR]; exact hF)
      · exact absurd h66 h138
    · refine G_aload_n (pc := 69) 0 dX12_reads_69 rfl ?_
      refine G_bipush (pc := 70) (v := 43) dX12_reads_70 rfl ?_
      refine G_bipush (pc := 72) (v := 45) dX12_reads_72 rfl ?_
      refine gV2 (pc := 74) (k' := 0) (n' := 0) dX12_reads_74 lkX12_191 ⟨by decide, by decide⟩ (Nat.le_of_ble_eq_true rfl) rfl rfl ⟨by decide, by decide⟩ (by assumption) (c_X12_sees (p := (rfT (i (m + 4)) ln p).1) (ln := ln) hM2 (by rw [hi.2 5 (by decide) (by decide)]; exact hl) hl6 h10 hle.1 ?_)
      dsimp only [gRt]
      rw [e4]
      refine G_if_eq (pc := 77) (tgt := 137) dX12_reads_77 (by decide) (fun h77 => ?_) (fun h77 => ?_)
      · refine G_iload_n (pc := 137) 2 dX12_reads_137 rfl ?_
        refine G_if_eq (pc := 138) (tgt := 156) dX12_reads_138 (by decide) (fun h138 => ?_) (fun h138 => ?_)
        · exact absurd h138 h66
        · refine G_aload_n (pc := 141) 0 dX12_reads_141 rfl ?_
          refine G_getI (pc := 142) dX12_reads_142 fX12_188 (by assumption) ?_
          rw [h10]
          refine G_aload_n (pc := 145) 0 dX12_reads_145 rfl ?_
          refine G_getI (pc := 146) dX12_reads_146 fX12_175 (by assumption) ?_
          rw [hi.2 5 (by decide) (by decide), hl]
          refine G_icmp_ne (pc := 149) (tgt := 156) dX12_reads_149 (by decide) (fun h149 => ?_) (fun h149 => ?_)
          · have hne : ¬ (rfT (i (m + 4)) ln p).1 = ln := fun z => h149 (by rw [z])
            refine G_iconst (pc := 156) (v := 0) dX12_reads_156 rfl ?_
            refine G_iret (pc := 157) dX12_reads_157 ⟨_, rfl, rfl⟩ ⟨by decide, by decide⟩ ?_
            rw [if_neg (fun z => gB_eq.mp h77 z.2)] at hR
            rw [show gB (R.1 = true) = 0 by rw [← hR]; exact gB_f (by simp [hne])] at hQ
            exact hQ i1 hi (by rw [← hR]; exact h10) (by rw [← hR]; exact h11) (by rw [← hR]; exact hF)
          · have heq : (rfT (i (m + 4)) ln p).1 = ln := (nI_eq (by omega) (by omega)).mp h149
            refine G_iconst (pc := 152) (v := 1) dX12_reads_152 rfl ?_
            refine G_goto (pc := 153) (tgt := 157) dX12_reads_153 (by decide) ?_
            refine G_iret (pc := 157) dX12_reads_157 ⟨_, rfl, rfl⟩ ⟨by decide, by decide⟩ ?_
            rw [if_neg (fun z => gB_eq.mp h77 z.2)] at hR
            rw [show gB (R.1 = true) = 1 by rw [← hR]; exact gB_t (by simp only [decide_eq_true_eq]; exact ⟨gB_ne.mp h66, heq⟩)] at hQ
            exact hQ i1 hi (by rw [← hR]; exact h10) (by rw [← hR]; exact h11) (by rw [← hR]; exact hF)
      · have hsee : rfO (i (m + 4)) ln p ∧ (rfT (i (m + 4)) ln p).1 < ln ∧ ((i (m + 4)) (rfT (i (m + 4)) ln p).1 = 43 ∨ (i (m + 4)) (rfT (i (m + 4)) ln p).1 = 45) := ⟨gB_ne.mp h66, gB_ne.mp h77⟩
        refine G_aload_n (pc := 80) 0 dX12_reads_80 rfl ?_
        refine G_getR (pc := 81) dX12_reads_81 fX12_7 (by assumption) (by assumption) ?_
        refine G_iconst (pc := 84) (v := 0) dX12_reads_84 rfl ?_
        refine G_ialdJ (pc := 85) (j := 0) dX12_reads_85 (by assumption) gl0 (by first | assumption | omega) (by decide) ?_
        rw [hF, adF_0]
        refine G_bipush (pc := 86) (v := 6) dX12_reads_86 rfl ?_
        refine G_icmp_ne (pc := 88) (tgt := 98) dX12_reads_88 (by decide) (fun h88 => ?_) (fun h88 => ?_)
        · exact absurd (show nI (n + 1) = 6 by rw [show n = 5 by omega]; rfl) h88
        · have h88e : n + 1 = 6 := (nI_eq (by omega) (by decide)).mp h88
          refine G_aload_n (pc := 91) 0 dX12_reads_91 rfl ?_
          refine G_iconst (pc := 92) (v := 3) dX12_reads_92 rfl ?_
          refine G_putI (pc := 93) dX12_reads_93 fX12_194 (by assumption) rfl rfl (by first | assumption | omega) ?_
          refine G_iconst (pc := 96) (v := 0) dX12_reads_96 rfl ?_
          refine G_iret (pc := 97) dX12_reads_97 ⟨_, rfl, rfl⟩ ⟨by decide, by decide⟩ ?_
          rw [if_pos hsee, if_pos h88e] at hR
          rw [show gB (R.1 = true) = 0 by rw [← hR]; exact gB_f (show ¬ (false = true) by decide)] at hQ
          exact hQ _ (hi.put (j := 11) (Or.inr rfl)) (by rw [← hR, up2_row (by decide)]; exact h10) (by rw [← hR, up2_self]) (by rw [← hR, up2_ne (by omega)]; exact hF)
  | succ d ih =>
    intro n p sg F sg2 i1 hd hp hi h10 h11 hF hR
    have e4 : i1 (m + 4) = i (m + 4) := hi.1 (m + 4) (by omega) (by omega)
    have hle := rfT_le (tx := i (m + 4)) hp
    rw [rfG] at hR
    refine G_iload_n (pc := 65) 2 dX12_reads_65 rfl ?_
    refine G_if_eq (pc := 66) (tgt := 137) dX12_reads_66 (by decide) (fun h66 => ?_) (fun h66 => ?_)
    · refine G_iload_n (pc := 137) 2 dX12_reads_137 rfl ?_
      refine G_if_eq (pc := 138) (tgt := 156) dX12_reads_138 (by decide) (fun h138 => ?_) (fun h138 => ?_)
      · refine G_iconst (pc := 156) (v := 0) dX12_reads_156 rfl ?_
        refine G_iret (pc := 157) dX12_reads_157 ⟨_, rfl, rfl⟩ ⟨by decide, by decide⟩ ?_
        rw [if_neg (fun z => gB_eq.mp h66 z.1)] at hR
        rw [show gB (R.1 = true) = 0 by rw [← hR]; exact gB_f (by have h66 := gB_eq.mp h66; simp [h66])] at hQ
        exact hQ i1 hi (by rw [← hR]; exact h10) (by rw [← hR]; exact h11) (by rw [← hR]; exact hF)
      · exact absurd h66 h138
    · refine G_aload_n (pc := 69) 0 dX12_reads_69 rfl ?_
      refine G_bipush (pc := 70) (v := 43) dX12_reads_70 rfl ?_
      refine G_bipush (pc := 72) (v := 45) dX12_reads_72 rfl ?_
      refine gV2 (pc := 74) (k' := 0) (n' := 0) dX12_reads_74 lkX12_191 ⟨by decide, by decide⟩ (Nat.le_of_ble_eq_true rfl) rfl rfl ⟨by decide, by decide⟩ (by assumption) (c_X12_sees (p := (rfT (i (m + 4)) ln p).1) (ln := ln) hM2 (by rw [hi.2 5 (by decide) (by decide)]; exact hl) hl6 h10 hle.1 ?_)
      dsimp only [gRt]
      rw [e4]
      refine G_if_eq (pc := 77) (tgt := 137) dX12_reads_77 (by decide) (fun h77 => ?_) (fun h77 => ?_)
      · refine G_iload_n (pc := 137) 2 dX12_reads_137 rfl ?_
        refine G_if_eq (pc := 138) (tgt := 156) dX12_reads_138 (by decide) (fun h138 => ?_) (fun h138 => ?_)
        · exact absurd h138 h66
        · refine G_aload_n (pc := 141) 0 dX12_reads_141 rfl ?_
          refine G_getI (pc := 142) dX12_reads_142 fX12_188 (by assumption) ?_
          rw [h10]
          refine G_aload_n (pc := 145) 0 dX12_reads_145 rfl ?_
          refine G_getI (pc := 146) dX12_reads_146 fX12_175 (by assumption) ?_
          rw [hi.2 5 (by decide) (by decide), hl]
          refine G_icmp_ne (pc := 149) (tgt := 156) dX12_reads_149 (by decide) (fun h149 => ?_) (fun h149 => ?_)
          · have hne : ¬ (rfT (i (m + 4)) ln p).1 = ln := fun z => h149 (by rw [z])
            refine G_iconst (pc := 156) (v := 0) dX12_reads_156 rfl ?_
            refine G_iret (pc := 157) dX12_reads_157 ⟨_, rfl, rfl⟩ ⟨by decide, by decide⟩ ?_
            rw [if_neg (fun z => gB_eq.mp h77 z.2)] at hR
            rw [show gB (R.1 = true) = 0 by rw [← hR]; exact gB_f (by simp [hne])] at hQ
            exact hQ i1 hi (by rw [← hR]; exact h10) (by rw [← hR]; exact h11) (by rw [← hR]; exact hF)
          · have heq : (rfT (i (m + 4)) ln p).1 = ln := (nI_eq (by omega) (by omega)).mp h149
            refine G_iconst (pc := 152) (v := 1) dX12_reads_152 rfl ?_
            refine G_goto (pc := 153) (tgt := 157) dX12_reads_153 (by decide) ?_
            refine G_iret (pc := 157) dX12_reads_157 ⟨_, rfl, rfl⟩ ⟨by decide, by decide⟩ ?_
            rw [if_neg (fun z => gB_eq.mp h77 z.2)] at hR
            rw [show gB (R.1 = true) = 1 by rw [← hR]; exact gB_t (by simp only [decide_eq_true_eq]; exact ⟨gB_ne.mp h66, heq⟩)] at hQ
            exact hQ i1 hi (by rw [← hR]; exact h10) (by rw [← hR]; exact h11) (by rw [← hR]; exact hF)
      · have hsee : rfO (i (m + 4)) ln p ∧ (rfT (i (m + 4)) ln p).1 < ln ∧ ((i (m + 4)) (rfT (i (m + 4)) ln p).1 = 43 ∨ (i (m + 4)) (rfT (i (m + 4)) ln p).1 = 45) := ⟨gB_ne.mp h66, gB_ne.mp h77⟩
        refine G_aload_n (pc := 80) 0 dX12_reads_80 rfl ?_
        refine G_getR (pc := 81) dX12_reads_81 fX12_7 (by assumption) (by assumption) ?_
        refine G_iconst (pc := 84) (v := 0) dX12_reads_84 rfl ?_
        refine G_ialdJ (pc := 85) (j := 0) dX12_reads_85 (by assumption) gl0 (by first | assumption | omega) (by decide) ?_
        rw [hF, adF_0]
        refine G_bipush (pc := 86) (v := 6) dX12_reads_86 rfl ?_
        refine G_icmp_ne (pc := 88) (tgt := 98) dX12_reads_88 (by decide) (fun h88 => ?_) (fun h88 => ?_)
        · have h88n : ¬ n + 1 = 6 := fun z => h88 (by rw [z]; rfl)
          refine G_aload_n (pc := 98) 0 dX12_reads_98 rfl ?_
          refine G_getR (pc := 99) dX12_reads_99 fX12_19 (by assumption) (by assumption) ?_
          refine G_aload_n (pc := 102) 0 dX12_reads_102 rfl ?_
          refine G_getI (pc := 103) dX12_reads_103 fX12_188 (by assumption) ?_
          refine G_ialdJ (pc := 106) (j := (rfT (i (m + 4)) ln p).1) dX12_reads_106 (by assumption) h10 (by have := hsee.2.1; omega) (by decide) ?_
          rw [e4]
          refine G_bipush (pc := 107) (v := 45) dX12_reads_107 rfl ?_
          refine G_icmp_ne (pc := 109) (tgt := 116) dX12_reads_109 (by decide) (fun h109 => ?_) (fun h109 => ?_)
          · refine G_iconst (pc := 116) (v := 1) dX12_reads_116 rfl ?_
            refine G_st1 (pc := 117) (gSt_in dX12_reads_117 rfl (by decide)) rfl ?_
            refine G_aload_n (pc := 118) 0 dX12_reads_118 rfl ?_
            refine G_dup (pc := 119) dX12_reads_119 rfl ?_
            refine G_getI (pc := 120) dX12_reads_120 fX12_188 (by assumption) ?_
            refine G_iconst (pc := 123) (v := 1) dX12_reads_123 rfl ?_
            refine G_iadd (pc := 124) dX12_reads_124 ?_
            refine G_putI (pc := 125) dX12_reads_125 fX12_188 (by assumption) rfl rfl (by first | assumption | omega) ?_
            refine G_aload_n (pc := 128) 0 dX12_reads_128 rfl ?_
            refine G_iload_n (pc := 129) 1 dX12_reads_129 rfl ?_
            rw [if_pos hsee, if_neg h88n, show (if (i (m + 4)) (rfT (i (m + 4)) ln p).1 = 45 then (-1 : Int32) else 1) = 1 from if_neg h109] at hR
            refine gV1 (pc := 130) (k' := 0) (n' := 0) dX12_reads_130 lkX12_197 ⟨by decide, by decide⟩ (Nat.le_of_ble_eq_true rfl) rfl rfl ⟨by decide, by decide⟩ (by assumption) (c_X12_readsTerm (p := (rfT (i (m + 4)) ln p).1 + 1) (ln := ln) (n := n + 1) hM2 hA (by rw [up2_row (by decide), hi.2 5 (by decide) (by decide)]; exact hl) hl6 (by rw [up2_self, h10, nI_1]) (by have := hsee.2.1; omega) (by rw [up2_ne (by omega), hF]; exact adF_0) (by omega) ?_)
            intro i2 g1 g2 g3 g4 g5
            rw [up2_ne (show m + 4 ≠ m by omega), e4] at g3 g4 g5 ⊢
            rw [up2_ne (show m + 1 ≠ m by omega), hF] at g5
            dsimp only [gRt]
            refine G_st2 (pc := 133) (gSt_in dX12_reads_133 rfl (by decide)) rfl ?_
            refine G_goto (pc := 134) (tgt := 65) dX12_reads_134 (by decide) ?_
            exact ih (n + 1) ((rfT (i (m + 4)) ln p).1 + 1) 1 (adF F n (rfA (i (m + 4)) ln p sg) (nI (rfT (i (m + 4)) ln p).2.1) (nI (rfT (i (m + 4)) ln p).2.2)) 1 i2 (by omega) (by have := hsee.2.1; omega) ((hi.put (j := 10) (Or.inl rfl)).tr ⟨g1, g2⟩) g3 g4 g5 hR
          · refine G_iconst (pc := 112) (v := (-1)) dX12_reads_112 rfl ?_
            refine G_goto (pc := 113) (tgt := 117) dX12_reads_113 (by decide) ?_
            refine G_st1 (pc := 117) (gSt_in dX12_reads_117 rfl (by decide)) rfl ?_
            refine G_aload_n (pc := 118) 0 dX12_reads_118 rfl ?_
            refine G_dup (pc := 119) dX12_reads_119 rfl ?_
            refine G_getI (pc := 120) dX12_reads_120 fX12_188 (by assumption) ?_
            refine G_iconst (pc := 123) (v := 1) dX12_reads_123 rfl ?_
            refine G_iadd (pc := 124) dX12_reads_124 ?_
            refine G_putI (pc := 125) dX12_reads_125 fX12_188 (by assumption) rfl rfl (by first | assumption | omega) ?_
            refine G_aload_n (pc := 128) 0 dX12_reads_128 rfl ?_
            refine G_iload_n (pc := 129) 1 dX12_reads_129 rfl ?_
            rw [if_pos hsee, if_neg h88n, show (if (i (m + 4)) (rfT (i (m + 4)) ln p).1 = 45 then (-1 : Int32) else 1) = (-1) from if_pos h109] at hR
            refine gV1 (pc := 130) (k' := 0) (n' := 0) dX12_reads_130 lkX12_197 ⟨by decide, by decide⟩ (Nat.le_of_ble_eq_true rfl) rfl rfl ⟨by decide, by decide⟩ (by assumption) (c_X12_readsTerm (p := (rfT (i (m + 4)) ln p).1 + 1) (ln := ln) (n := n + 1) hM2 hA (by rw [up2_row (by decide), hi.2 5 (by decide) (by decide)]; exact hl) hl6 (by rw [up2_self, h10, nI_1]) (by have := hsee.2.1; omega) (by rw [up2_ne (by omega), hF]; exact adF_0) (by omega) ?_)
            intro i2 g1 g2 g3 g4 g5
            rw [up2_ne (show m + 4 ≠ m by omega), e4] at g3 g4 g5 ⊢
            rw [up2_ne (show m + 1 ≠ m by omega), hF] at g5
            dsimp only [gRt]
            refine G_st2 (pc := 133) (gSt_in dX12_reads_133 rfl (by decide)) rfl ?_
            refine G_goto (pc := 134) (tgt := 65) dX12_reads_134 (by decide) ?_
            exact ih (n + 1) ((rfT (i (m + 4)) ln p).1 + 1) (-1) (adF F n (rfA (i (m + 4)) ln p sg) (nI (rfT (i (m + 4)) ln p).2.1) (nI (rfT (i (m + 4)) ln p).2.2)) (-1) i2 (by omega) (by have := hsee.2.1; omega) ((hi.put (j := 10) (Or.inl rfl)).tr ⟨g1, g2⟩) g3 g4 g5 hR
        · have h88e : n + 1 = 6 := (nI_eq (by omega) (by decide)).mp h88
          refine G_aload_n (pc := 91) 0 dX12_reads_91 rfl ?_
          refine G_iconst (pc := 92) (v := 3) dX12_reads_92 rfl ?_
          refine G_putI (pc := 93) dX12_reads_93 fX12_194 (by assumption) rfl rfl (by first | assumption | omega) ?_
          refine G_iconst (pc := 96) (v := 0) dX12_reads_96 rfl ?_
          refine G_iret (pc := 97) dX12_reads_97 ⟨_, rfl, rfl⟩ ⟨by decide, by decide⟩ ?_
          rw [if_pos hsee, if_pos h88e] at hR
          rw [show gB (R.1 = true) = 0 by rw [← hR]; exact gB_f (show ¬ (false = true) by decide)] at hQ
          exact hQ _ (hi.put (j := 11) (Or.inr rfl)) (by rw [← hR, up2_row (by decide)]; exact h10) (by rw [← hR, up2_self]) (by rw [← hR, up2_ne (by omega)]; exact hF)

set_option maxRecDepth 100000 in
set_option maxHeartbeats 4000000 in
theorem c_X12_reads {Γ : gG} {T : gTy} {r : gR} {l : gLg} {i : gI} {Q : gQ} {m ln : Nat} (hM : lyM T r m) (hA : gN Γ ≤ m) (hl : i m 5 = nI ln) (hl6 : ln ≤ 60) (hQ : ∀ i', frU m i i' → i' m 10 = nI (rfAll (i (m + 4)) ln (i (m + 1))).2.1 → i' m 11 = (rfAll (i (m + 4)) ln (i (m + 1))).2.2.1 → i' (m + 1) = (rfAll (i (m + 4)) ln (i (m + 1))).2.2.2 → Q (some (.int (gB ((rfAll (i (m + 4)) ln (i (m + 1))).1 = true)))) T r l i') : gC Γ MX12_reads [.ref m] T r l i Q := by
  have hM2 := hM
  obtain ⟨m0, m1, m2, m3, m4, m5, m6, m7, m8, m9, m10⟩ := hM
  refine gC_of rfl (Nat.le_of_ble_eq_true rfl) (L := [(0, .ref m)]) rfl ?_
  refine G_aload_n (pc := 0) 0 dX12_reads_0 rfl ?_
  refine G_iconst (pc := 1) (v := 0) dX12_reads_1 rfl ?_
  refine G_putI (pc := 2) dX12_reads_2 fX12_188 (by assumption) rfl rfl (by first | assumption | omega) ?_
  refine G_aload_n (pc := 5) 0 dX12_reads_5 rfl ?_
  refine G_iconst (pc := 6) (v := 1) dX12_reads_6 rfl ?_
  refine G_putI (pc := 7) dX12_reads_7 fX12_194 (by assumption) rfl rfl (by first | assumption | omega) ?_
  refine G_aload_n (pc := 10) 0 dX12_reads_10 rfl ?_
  refine G_getR (pc := 11) dX12_reads_11 fX12_7 (by assumption) (by assumption) ?_
  refine G_iconst (pc := 14) (v := 0) dX12_reads_14 rfl ?_
  refine G_iconst (pc := 15) (v := 0) dX12_reads_15 rfl ?_
  refine G_iastJ (pc := 16) (j := 0) dX12_reads_16 (by assumption) gl0 (by first | assumption | omega) (by decide) (by first | assumption | omega) ?_
  refine G_aload_n (pc := 17) 0 dX12_reads_17 rfl ?_
  refine G_getR (pc := 18) dX12_reads_18 fX12_7 (by assumption) (by assumption) ?_
  refine G_iconst (pc := 21) (v := 1) dX12_reads_21 rfl ?_
  refine G_iconst (pc := 22) (v := 0) dX12_reads_22 rfl ?_
  refine G_iastJ (pc := 23) (j := 1) dX12_reads_23 (by assumption) gl1 (by first | assumption | omega) (by decide) (by first | assumption | omega) ?_
  refine G_aload_n (pc := 24) 0 dX12_reads_24 rfl ?_
  refine G_bipush (pc := 25) (v := 45) dX12_reads_25 rfl ?_
  refine G_bipush (pc := 27) (v := 45) dX12_reads_27 rfl ?_
  refine gV2 (pc := 29) (k' := 0) (n' := 0) dX12_reads_29 lkX12_191 ⟨by decide, by decide⟩ (Nat.le_of_ble_eq_true rfl) rfl rfl ⟨by decide, by decide⟩ (by assumption) (c_X12_sees (p := 0) (ln := ln) hM2 (by simp (disch := omega) only [up2_ne, up2_row]; exact hl) hl6 (by simp (disch := omega) only [up2_ne, up2_row, up2_self]; rfl) (Nat.zero_le _) ?_)
  dsimp only [gRt]
  rw [show up2 (up2 (up2 (up2 i m 10 0) m 11 1) (m + 1) 0 0) (m + 1) 1 0 (m + 4) = i (m + 4) by simp (disch := omega) only [up2_ne]]
  refine G_if_eq (pc := 32) (tgt := 39) dX12_reads_32 (by decide) (fun h32 => ?_) (fun h32 => ?_)
  · have hs := gB_eq.mp h32
    have hs : ¬ rfM (i (m + 4)) ln := fun z => hs ⟨z.1, Or.inl z.2⟩
    refine G_iconst (pc := 39) (v := 1) dX12_reads_39 rfl ?_
    have hmm : ¬ rfM (i (m + 4)) ln := hs
    refine G_sn1 (pc := 40) (gSt_in dX12_reads_40 rfl (by decide)) rfl ?_
    refine G_aload_n (pc := 41) 0 dX12_reads_41 rfl ?_
    refine G_dup (pc := 42) dX12_reads_42 rfl ?_
    refine G_getI (pc := 43) dX12_reads_43 fX12_188 (by assumption) ?_
    simp (disch := omega) only [up2_ne, up2_row, up2_self]
    refine G_iload_n (pc := 46) 1 dX12_reads_46 rfl ?_
    refine G_if_ge (pc := 47) (tgt := 54) dX12_reads_47 (by decide) (fun h47 => ?_) (fun h47 => ?_)
    · refine G_iconst (pc := 54) (v := 0) dX12_reads_54 rfl ?_
      refine G_iadd (pc := 55) dX12_reads_55 ?_
      rw [show (0 : Int32) + 0 = nI 0 from rfl]
      refine G_putI (pc := 56) dX12_reads_56 fX12_188 (by assumption) rfl rfl (by first | assumption | omega) ?_
      refine G_aload_n (pc := 59) 0 dX12_reads_59 rfl ?_
      refine G_iload_n (pc := 60) 1 dX12_reads_60 rfl ?_
      generalize hii : up2 (up2 (up2 (up2 (up2 i m 10 0) m 11 1) (m + 1) 0 0) (m + 1) 1 0) m 10 (nI 0) = i0
      have hfr : frU m i i0 := by rw [← hii]; exact ((((frU.rf.put (Or.inl rfl)).put (Or.inr rfl)).put1).put1).put (Or.inl rfl)
      have hF0 : i0 (m + 1) = upd (upd (i (m + 1)) 0 0) 1 0 := by rw [← hii, up2_ne (by omega), up2_u (j := 1), va_s, up2_u (j := 0), va_s, up2_ne (by omega), up2_ne (by omega)]
      have h40 : i0 m 10 = nI 0 := by rw [← hii, up2_self]
      have e4 : i0 (m + 4) = i (m + 4) := hfr.1 (m + 4) (by omega) (by omega)
      have hpl : 0 ≤ ln := Nat.zero_le _
      refine gV1 (pc := 61) (k' := 0) (n' := 0) dX12_reads_61 lkX12_197 ⟨by decide, by decide⟩ (Nat.le_of_ble_eq_true rfl) rfl rfl ⟨by decide, by decide⟩ (by assumption) (c_X12_readsTerm (p := 0) (ln := ln) (n := 0) hM2 hA (by rw [hfr.2 5 (by decide) (by decide)]; exact hl) hl6 h40 hpl (by rw [hF0]; rfl) (by decide) ?_)
      intro i2 g1 g2 g3 g4 g5
      rw [e4] at g3 g4 g5 ⊢
      rw [hF0] at g5
      dsimp only [gRt]
      refine G_sn2 (pc := 64) (gSt_in dX12_reads_64 rfl (by decide)) rfl ?_
      exact lp_X12_reads hM2 hA hl hl6 hQ 5 0 0 1 _ 1 i2 rfl hpl (hfr.tr ⟨g1, g2⟩) g3 g4 g5 (by unfold rfAll; rw [if_neg hmm, if_neg hmm])
    · exact absurd (by decide) h47
  · have hs := gB_ne.mp h32
    have hs : rfM (i (m + 4)) ln := ⟨hs.1, hs.2.elim id id⟩
    refine G_iconst (pc := 35) (v := (-1)) dX12_reads_35 rfl ?_
    refine G_goto (pc := 36) (tgt := 40) dX12_reads_36 (by decide) ?_
    have hmm : rfM (i (m + 4)) ln := hs
    refine G_sn1 (pc := 40) (gSt_in dX12_reads_40 rfl (by decide)) rfl ?_
    refine G_aload_n (pc := 41) 0 dX12_reads_41 rfl ?_
    refine G_dup (pc := 42) dX12_reads_42 rfl ?_
    refine G_getI (pc := 43) dX12_reads_43 fX12_188 (by assumption) ?_
    simp (disch := omega) only [up2_ne, up2_row, up2_self]
    refine G_iload_n (pc := 46) 1 dX12_reads_46 rfl ?_
    refine G_if_ge (pc := 47) (tgt := 54) dX12_reads_47 (by decide) (fun h47 => ?_) (fun h47 => ?_)
    · exact absurd h47 (by decide)
    · refine G_iconst (pc := 50) (v := 1) dX12_reads_50 rfl ?_
      refine G_goto (pc := 51) (tgt := 55) dX12_reads_51 (by decide) ?_
      refine G_iadd (pc := 55) dX12_reads_55 ?_
      rw [show (0 : Int32) + 1 = nI 1 from rfl]
      refine G_putI (pc := 56) dX12_reads_56 fX12_188 (by assumption) rfl rfl (by first | assumption | omega) ?_
      refine G_aload_n (pc := 59) 0 dX12_reads_59 rfl ?_
      refine G_iload_n (pc := 60) 1 dX12_reads_60 rfl ?_
      generalize hii : up2 (up2 (up2 (up2 (up2 i m 10 0) m 11 1) (m + 1) 0 0) (m + 1) 1 0) m 10 (nI 1) = i0
      have hfr : frU m i i0 := by rw [← hii]; exact ((((frU.rf.put (Or.inl rfl)).put (Or.inr rfl)).put1).put1).put (Or.inl rfl)
      have hF0 : i0 (m + 1) = upd (upd (i (m + 1)) 0 0) 1 0 := by rw [← hii, up2_ne (by omega), up2_u (j := 1), va_s, up2_u (j := 0), va_s, up2_ne (by omega), up2_ne (by omega)]
      have h40 : i0 m 10 = nI 1 := by rw [← hii, up2_self]
      have e4 : i0 (m + 4) = i (m + 4) := hfr.1 (m + 4) (by omega) (by omega)
      have hpl : 1 ≤ ln := by have := hmm.1; omega
      refine gV1 (pc := 61) (k' := 0) (n' := 0) dX12_reads_61 lkX12_197 ⟨by decide, by decide⟩ (Nat.le_of_ble_eq_true rfl) rfl rfl ⟨by decide, by decide⟩ (by assumption) (c_X12_readsTerm (p := 1) (ln := ln) (n := 0) hM2 hA (by rw [hfr.2 5 (by decide) (by decide)]; exact hl) hl6 h40 hpl (by rw [hF0]; rfl) (by decide) ?_)
      intro i2 g1 g2 g3 g4 g5
      rw [e4] at g3 g4 g5 ⊢
      rw [hF0] at g5
      dsimp only [gRt]
      refine G_sn2 (pc := 64) (gSt_in dX12_reads_64 rfl (by decide)) rfl ?_
      exact lp_X12_reads hM2 hA hl hl6 hQ 5 0 1 (-1) _ (-1) i2 rfl hpl (hfr.tr ⟨g1, g2⟩) g3 g4 g5 (by unfold rfAll; rw [if_pos hmm, if_pos hmm])

