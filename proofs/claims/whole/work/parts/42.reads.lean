/-! the reference reads -/
abbrev rfX (tx : Nat → Int32) (ln p : Nat) : Prop := p < ln ∧ (tx p = 120 ∨ tx p = 121)
abbrev rfD (tx : Nat → Int32) (ln p : Nat) : Prop := p < ln ∧ inI (tx p) 49 53
/-- d letters more may come: the place behind them, how many x, how many y -/
def rfL (tx : Nat → Int32) (ln : Nat) : Nat → Nat → Nat → Nat → Nat × Nat × Nat
  | 0, p, x, y => (p, x, y)
  | d + 1, p, x, y => if rfX tx ln p then rfL tx ln d (p + 1) (x + if tx p = 120 then 1 else 0) (y + if tx p = 121 then 1 else 0) else (p, x, y)
theorem rfL_le {tx : Nat → Int32} {ln : Nat} : ∀ d p x y, p ≤ ln → x + y + d ≤ 3 → (rfL tx ln d p x y).1 ≤ ln ∧ (rfL tx ln d p x y).2.1 + (rfL tx ln d p x y).2.2 ≤ 3
  | 0, p, x, y, h, h2 => ⟨h, h2⟩
  | d + 1, p, x, y, h, h2 => by
    rw [rfL]
    by_cases hx : rfX tx ln p
    · rw [if_pos hx]
      refine rfL_le d _ _ _ (by omega) ?_
      by_cases e1 : tx p = 120
      · rw [if_pos e1, if_neg (by rw [e1]; decide)]; omega
      · rw [if_neg e1]; split <;> omega
    · rw [if_neg hx]; exact ⟨h, by show x + y ≤ 3; omega⟩
def rfT (tx : Nat → Int32) (ln p : Nat) : Nat × Nat × Nat := rfL tx ln 3 (p + if rfD tx ln p then 1 else 0) 0 0
def rfA (tx : Nat → Int32) (ln p : Nat) (sg : Int32) : Int32 := sg * (if rfD tx ln p then tx p - 48 else 1)
def rfR (tx : Nat → Int32) (ln p : Nat) : Int32 := if rfX tx ln (rfT tx ln p).1 then 2 else 1
abbrev rfO (tx : Nat → Int32) (ln p : Nat) : Prop := rfR tx ln p = 1 ∧ (rfD tx ln p ∨ 0 < (rfT tx ln p).2.1 + (rfT tx ln p).2.2)
theorem rfT_le {tx : Nat → Int32} {ln p : Nat} (h : p ≤ ln) : (rfT tx ln p).1 ≤ ln ∧ (rfT tx ln p).2.1 + (rfT tx ln p).2.2 ≤ 3 := by
  unfold rfT
  refine rfL_le 3 _ 0 0 ?_ (by decide)
  split
  · rename_i hd; have := hd.1; omega
  · exact h
/-- the place and the reason may move -/
def frT (m : Nat) (i i' : gI) : Prop := (∀ c, c ≠ m → i' c = i c) ∧ ∀ j, j ≠ 10 → j ≠ 11 → i' m j = i m j
theorem frT.rf {m : Nat} {i : gI} : frT m i i := ⟨fun _ _ => rfl, fun _ _ _ => rfl⟩
theorem frT.put {m j : Nat} {i i' : gI} {x : Int32} (h : frT m i i') (hj : j = 10 ∨ j = 11) : frT m i (up2 i' m j x) := ⟨fun c hc => by rw [up2_ne hc]; exact h.1 c hc, fun q q1 q2 => by rw [up2_row (by omega)]; exact h.2 q q1 q2⟩
set_option maxRecDepth 100000 in
set_option maxHeartbeats 4000000 in
theorem c_X12_sees {Γ : gG} {T : gTy} {r : gR} {l : gLg} {i : gI} {Q : gQ} {m p ln : Nat} {x y : Int32} (hM : lyM T r m) (hl : i m 5 = nI ln) (hl6 : ln ≤ 60) (hp : i m 10 = nI p) (hpl : p ≤ ln) (hQ : Q (some (.int (gB (p < ln ∧ ((i (m + 4)) p = x ∨ (i (m + 4)) p = y))))) T r l i) : gC Γ MX12_sees [.ref m, .int x, .int y] T r l i Q := by
  obtain ⟨m0, m1, m2, m3, m4, m5, m6, m7, m8, m9, m10⟩ := hM
  refine gC_of rfl (Nat.le_of_ble_eq_true rfl) (L := [(0, .ref m), (1, .int x), (2, .int y)]) rfl ?_
  refine G_aload_n (pc := 0) 0 dX12_sees_0 rfl ?_
  refine G_getI (pc := 1) dX12_sees_1 fX12_188 (by assumption) ?_
  refine G_aload_n (pc := 4) 0 dX12_sees_4 rfl ?_
  refine G_getI (pc := 5) dX12_sees_5 fX12_175 (by assumption) ?_
  refine G_icmp_ge (pc := 8) (tgt := 41) dX12_sees_8 (by decide) (fun h8 => ?_) (fun h8 => ?_)
  · have hz : ¬ p < ln := fun z => absurd h8 (by rw [hp, hl]; exact nI_ge z (by omega))
    refine G_iconst (pc := 41) (v := 0) dX12_sees_41 rfl ?_
    refine G_iret (pc := 42) dX12_sees_42 ⟨_, rfl, rfl⟩ ⟨by decide, by decide⟩ ?_
    rw [gB_f (fun z => hz z.1)] at hQ
    exact hQ
  · have hz : p < ln := by
      rcases Nat.lt_or_ge p ln with z | z
      · exact z
      · exact absurd (by rw [hp, hl]; exact nI_le z (by omega)) h8
    refine G_aload_n (pc := 11) 0 dX12_sees_11 rfl ?_
    refine G_getR (pc := 12) dX12_sees_12 fX12_19 (by assumption) (by assumption) ?_
    refine G_aload_n (pc := 15) 0 dX12_sees_15 rfl ?_
    refine G_getI (pc := 16) dX12_sees_16 fX12_188 (by assumption) ?_
    refine G_ialdJ (pc := 19) (j := p) dX12_sees_19 (by assumption) hp (by first | assumption | omega) (by decide) ?_
    refine G_iload_n (pc := 20) 1 dX12_sees_20 rfl ?_
    refine G_icmp_eq (pc := 21) (tgt := 37) dX12_sees_21 (by decide) (fun h21 => ?_) (fun h21 => ?_)
    · refine G_iconst (pc := 37) (v := 1) dX12_sees_37 rfl ?_
      refine G_goto (pc := 38) (tgt := 42) dX12_sees_38 (by decide) ?_
      refine G_iret (pc := 42) dX12_sees_42 ⟨_, rfl, rfl⟩ ⟨by decide, by decide⟩ ?_
      rw [gB_t ⟨hz, Or.inl h21⟩] at hQ
      exact hQ
    · refine G_aload_n (pc := 24) 0 dX12_sees_24 rfl ?_
      refine G_getR (pc := 25) dX12_sees_25 fX12_19 (by assumption) (by assumption) ?_
      refine G_aload_n (pc := 28) 0 dX12_sees_28 rfl ?_
      refine G_getI (pc := 29) dX12_sees_29 fX12_188 (by assumption) ?_
      refine G_ialdJ (pc := 32) (j := p) dX12_sees_32 (by assumption) hp (by first | assumption | omega) (by decide) ?_
      refine G_iload_n (pc := 33) 2 dX12_sees_33 rfl ?_
      refine G_icmp_ne (pc := 34) (tgt := 41) dX12_sees_34 (by decide) (fun h34 => ?_) (fun h34 => ?_)
      · refine G_iconst (pc := 41) (v := 0) dX12_sees_41 rfl ?_
        refine G_iret (pc := 42) dX12_sees_42 ⟨_, rfl, rfl⟩ ⟨by decide, by decide⟩ ?_
        rw [gB_f (fun z => z.2.elim h21 h34)] at hQ
        exact hQ
      · refine G_iconst (pc := 37) (v := 1) dX12_sees_37 rfl ?_
        refine G_goto (pc := 38) (tgt := 42) dX12_sees_38 (by decide) ?_
        refine G_iret (pc := 42) dX12_sees_42 ⟨_, rfl, rfl⟩ ⟨by decide, by decide⟩ ?_
        rw [gB_t ⟨hz, Or.inr h34⟩] at hQ
        exact hQ

set_option maxRecDepth 100000 in
set_option maxHeartbeats 4000000 in
theorem lp_X12_letters {Γ : gG} {T : gTy} {r : gR} {l : gLg} {i : gI} {Q : gQ} {m ln P X Y : Nat} {sg dg fc : Int32} (hM : lyM T r m) (hA : gN Γ ≤ m) (hl : i m 5 = nI ln) (hl6 : ln ≤ 60) (hK : ∀ i1, frT m i i1 → i1 m 10 = nI P → G Γ MX12_readsTerm 0 0 162 [(0, .ref m), (1, .int sg), (2, .int dg), (3, .int fc), (4, .int (nI X)), (5, .int (nI Y))] [] T r l i1 Q) : ∀ d p x y i1, x + y + d = 3 → p ≤ ln → frT m i i1 → i1 m 10 = nI p → rfL (i (m + 4)) ln d p x y = (P, X, Y) → G Γ MX12_readsTerm 0 0 81 [(0, .ref m), (1, .int sg), (2, .int dg), (3, .int fc), (4, .int (nI x)), (5, .int (nI y))] [] T r l i1 Q := by
  have hM2 := hM
  obtain ⟨m0, m1, m2, m3, m4, m5, m6, m7, m8, m9, m10⟩ := hM
  intro d
  induction d with
  | zero =>
    intro p x y i1 hd hp hi h10 he
    have e := Prod.mk.inj he
    have hd2 : x + y = 3 := hd
    obtain ⟨rfl, e2⟩ := e
    obtain ⟨rfl, rfl⟩ := Prod.mk.inj e2
    refine G_aload_n (pc := 81) 0 dX12_readsTerm_81 rfl ?_
    refine G_bipush (pc := 82) (v := 120) dX12_readsTerm_82 rfl ?_
    refine G_bipush (pc := 84) (v := 121) dX12_readsTerm_84 rfl ?_
    refine gV2 (pc := 86) (k' := 0) (n' := 0) dX12_readsTerm_86 lkX12_191 ⟨by decide, by decide⟩ (Nat.le_of_ble_eq_true rfl) rfl rfl ⟨by decide, by decide⟩ (by assumption) (c_X12_sees (p := p) (ln := ln) hM2 (by rw [hi.2 5 (by decide) (by decide)]; exact hl) hl6 h10 hp ?_)
    dsimp only [gRt]
    refine G_if_eq (pc := 89) (tgt := 162) dX12_readsTerm_89 (by decide) (fun h89 => ?_) (fun h89 => ?_)
    · exact hK i1 hi h10
    · refine G_iload (pc := 92) 4 dX12_readsTerm_92 rfl ?_
      refine G_iload (pc := 94) 5 dX12_readsTerm_94 rfl ?_
      refine G_iadd (pc := 96) dX12_readsTerm_96 ?_
      rw [nI_add, hd2]
      refine G_iconst (pc := 97) (v := 3) dX12_readsTerm_97 rfl ?_
      refine G_icmp_ge (pc := 98) (tgt := 162) dX12_readsTerm_98 (by decide) (fun h98 => ?_) (fun h98 => ?_)
      · exact hK i1 hi h10
      · exact absurd (by decide) h98
  | succ d ih =>
    intro p x y i1 hd hp hi h10 he
    have e4 : i1 (m + 4) = i (m + 4) := hi.1 (m + 4) (by omega)
    rw [rfL, ← e4] at he
    rw [← e4] at ih
    refine G_aload_n (pc := 81) 0 dX12_readsTerm_81 rfl ?_
    refine G_bipush (pc := 82) (v := 120) dX12_readsTerm_82 rfl ?_
    refine G_bipush (pc := 84) (v := 121) dX12_readsTerm_84 rfl ?_
    refine gV2 (pc := 86) (k' := 0) (n' := 0) dX12_readsTerm_86 lkX12_191 ⟨by decide, by decide⟩ (Nat.le_of_ble_eq_true rfl) rfl rfl ⟨by decide, by decide⟩ (by assumption) (c_X12_sees (p := p) (ln := ln) hM2 (by rw [hi.2 5 (by decide) (by decide)]; exact hl) hl6 h10 hp ?_)
    dsimp only [gRt]
    refine G_if_eq (pc := 89) (tgt := 162) dX12_readsTerm_89 (by decide) (fun h89 => ?_) (fun h89 => ?_)
    · rw [if_neg (gB_eq.mp h89)] at he
      obtain ⟨rfl, e2⟩ := Prod.mk.inj he
      obtain ⟨rfl, rfl⟩ := Prod.mk.inj e2
      exact hK i1 hi h10
    · have h89 := gB_ne.mp h89
      refine G_iload (pc := 92) 4 dX12_readsTerm_92 rfl ?_
      refine G_iload (pc := 94) 5 dX12_readsTerm_94 rfl ?_
      refine G_iadd (pc := 96) dX12_readsTerm_96 ?_
      rw [nI_add]
      refine G_iconst (pc := 97) (v := 3) dX12_readsTerm_97 rfl ?_
      refine G_icmp_ge (pc := 98) (tgt := 162) dX12_readsTerm_98 (by decide) (fun h98 => ?_) (fun h98 => ?_)
      · exact absurd h98 (by rw [gl3]; exact nI_ge (by omega) (by omega))
      · refine G_iload (pc := 101) 4 dX12_readsTerm_101 rfl ?_
        refine G_aload_n (pc := 103) 0 dX12_readsTerm_103 rfl ?_
        refine G_getR (pc := 104) dX12_readsTerm_104 fX12_19 (by assumption) (by assumption) ?_
        refine G_aload_n (pc := 107) 0 dX12_readsTerm_107 rfl ?_
        refine G_getI (pc := 108) dX12_readsTerm_108 fX12_188 (by assumption) ?_
        refine G_ialdJ (pc := 111) (j := p) dX12_readsTerm_111 (by assumption) h10 (by first | assumption | omega) (by decide) ?_
        refine G_bipush (pc := 112) (v := 120) dX12_readsTerm_112 rfl ?_
        refine G_icmp_ne (pc := 114) (tgt := 121) dX12_readsTerm_114 (by decide) (fun h114 => ?_) (fun h114 => ?_)
        · refine G_iconst (pc := 121) (v := 0) dX12_readsTerm_121 rfl ?_
          refine G_iadd (pc := 122) dX12_readsTerm_122 ?_
          refine G_st4 (pc := 123) (gSt_i dX12_readsTerm_123 (by decide)) rfl ?_
          refine G_iload (pc := 125) 5 dX12_readsTerm_125 rfl ?_
          refine G_aload_n (pc := 127) 0 dX12_readsTerm_127 rfl ?_
          refine G_getR (pc := 128) dX12_readsTerm_128 fX12_19 (by assumption) (by assumption) ?_
          refine G_aload_n (pc := 131) 0 dX12_readsTerm_131 rfl ?_
          refine G_getI (pc := 132) dX12_readsTerm_132 fX12_188 (by assumption) ?_
          refine G_ialdJ (pc := 135) (j := p) dX12_readsTerm_135 (by assumption) h10 (by first | assumption | omega) (by decide) ?_
          refine G_bipush (pc := 136) (v := 121) dX12_readsTerm_136 rfl ?_
          refine G_icmp_ne (pc := 138) (tgt := 145) dX12_readsTerm_138 (by decide) (fun h138 => ?_) (fun h138 => ?_)
          · refine G_iconst (pc := 145) (v := 0) dX12_readsTerm_145 rfl ?_
            refine G_iadd (pc := 146) dX12_readsTerm_146 ?_
            refine G_st5 (pc := 147) (gSt_i dX12_readsTerm_147 (by decide)) rfl ?_
            refine G_aload_n (pc := 149) 0 dX12_readsTerm_149 rfl ?_
            refine G_dup (pc := 150) dX12_readsTerm_150 rfl ?_
            refine G_getI (pc := 151) dX12_readsTerm_151 fX12_188 (by assumption) ?_
            refine G_iconst (pc := 154) (v := 1) dX12_readsTerm_154 rfl ?_
            refine G_iadd (pc := 155) dX12_readsTerm_155 ?_
            refine G_putI (pc := 156) dX12_readsTerm_156 fX12_188 (by assumption) rfl rfl (by first | assumption | omega) ?_
            refine G_goto (pc := 159) (tgt := 81) dX12_readsTerm_159 (by decide) ?_
            exact absurd h89 (fun z => z.2.elim (fun u => h114 u) (fun u => h138 u))
          · refine G_iconst (pc := 141) (v := 1) dX12_readsTerm_141 rfl ?_
            refine G_goto (pc := 142) (tgt := 146) dX12_readsTerm_142 (by decide) ?_
            refine G_iadd (pc := 146) dX12_readsTerm_146 ?_
            refine G_st5 (pc := 147) (gSt_i dX12_readsTerm_147 (by decide)) rfl ?_
            refine G_aload_n (pc := 149) 0 dX12_readsTerm_149 rfl ?_
            refine G_dup (pc := 150) dX12_readsTerm_150 rfl ?_
            refine G_getI (pc := 151) dX12_readsTerm_151 fX12_188 (by assumption) ?_
            refine G_iconst (pc := 154) (v := 1) dX12_readsTerm_154 rfl ?_
            refine G_iadd (pc := 155) dX12_readsTerm_155 ?_
            refine G_putI (pc := 156) dX12_readsTerm_156 fX12_188 (by assumption) rfl rfl (by first | assumption | omega) ?_
            refine G_goto (pc := 159) (tgt := 81) dX12_readsTerm_159 (by decide) ?_
            rw [if_pos h89, show (if i1 (m + 4) p = 120 then 1 else 0) = 0 from if_neg h114, show (if i1 (m + 4) p = 121 then 1 else 0) = 1 from if_pos h138] at he
            rw [nI_1, show nI x + 0 = nI x from Int32.add_zero _]
            exact ih (p + 1) x (y + 1) _ (by omega) (by omega) (hi.put (by decide)) (by rw [up2_self, h10, nI_1]) he
        · refine G_iconst (pc := 117) (v := 1) dX12_readsTerm_117 rfl ?_
          refine G_goto (pc := 118) (tgt := 122) dX12_readsTerm_118 (by decide) ?_
          refine G_iadd (pc := 122) dX12_readsTerm_122 ?_
          refine G_st4 (pc := 123) (gSt_i dX12_readsTerm_123 (by decide)) rfl ?_
          refine G_iload (pc := 125) 5 dX12_readsTerm_125 rfl ?_
          refine G_aload_n (pc := 127) 0 dX12_readsTerm_127 rfl ?_
          refine G_getR (pc := 128) dX12_readsTerm_128 fX12_19 (by assumption) (by assumption) ?_
          refine G_aload_n (pc := 131) 0 dX12_readsTerm_131 rfl ?_
          refine G_getI (pc := 132) dX12_readsTerm_132 fX12_188 (by assumption) ?_
          refine G_ialdJ (pc := 135) (j := p) dX12_readsTerm_135 (by assumption) h10 (by first | assumption | omega) (by decide) ?_
          refine G_bipush (pc := 136) (v := 121) dX12_readsTerm_136 rfl ?_
          refine G_icmp_ne (pc := 138) (tgt := 145) dX12_readsTerm_138 (by decide) (fun h138 => ?_) (fun h138 => ?_)
          · refine G_iconst (pc := 145) (v := 0) dX12_readsTerm_145 rfl ?_
            refine G_iadd (pc := 146) dX12_readsTerm_146 ?_
            refine G_st5 (pc := 147) (gSt_i dX12_readsTerm_147 (by decide)) rfl ?_
            refine G_aload_n (pc := 149) 0 dX12_readsTerm_149 rfl ?_
            refine G_dup (pc := 150) dX12_readsTerm_150 rfl ?_
            refine G_getI (pc := 151) dX12_readsTerm_151 fX12_188 (by assumption) ?_
            refine G_iconst (pc := 154) (v := 1) dX12_readsTerm_154 rfl ?_
            refine G_iadd (pc := 155) dX12_readsTerm_155 ?_
            refine G_putI (pc := 156) dX12_readsTerm_156 fX12_188 (by assumption) rfl rfl (by first | assumption | omega) ?_
            refine G_goto (pc := 159) (tgt := 81) dX12_readsTerm_159 (by decide) ?_
            rw [if_pos h89, show (if i1 (m + 4) p = 120 then 1 else 0) = 1 from if_pos h114, show (if i1 (m + 4) p = 121 then 1 else 0) = 0 from if_neg h138] at he
            rw [nI_1, show nI y + 0 = nI y from Int32.add_zero _]
            exact ih (p + 1) (x + 1) y _ (by omega) (by omega) (hi.put (by decide)) (by rw [up2_self, h10, nI_1]) he
          · refine G_iconst (pc := 141) (v := 1) dX12_readsTerm_141 rfl ?_
            refine G_goto (pc := 142) (tgt := 146) dX12_readsTerm_142 (by decide) ?_
            refine G_iadd (pc := 146) dX12_readsTerm_146 ?_
            refine G_st5 (pc := 147) (gSt_i dX12_readsTerm_147 (by decide)) rfl ?_
            refine G_aload_n (pc := 149) 0 dX12_readsTerm_149 rfl ?_
            refine G_dup (pc := 150) dX12_readsTerm_150 rfl ?_
            refine G_getI (pc := 151) dX12_readsTerm_151 fX12_188 (by assumption) ?_
            refine G_iconst (pc := 154) (v := 1) dX12_readsTerm_154 rfl ?_
            refine G_iadd (pc := 155) dX12_readsTerm_155 ?_
            refine G_putI (pc := 156) dX12_readsTerm_156 fX12_188 (by assumption) rfl rfl (by first | assumption | omega) ?_
            refine G_goto (pc := 159) (tgt := 81) dX12_readsTerm_159 (by decide) ?_
            exact absurd (h114.symm.trans h138) (by decide)

set_option maxRecDepth 100000 in
set_option maxHeartbeats 4000000 in
theorem s2_X12_readsTerm {Γ : gG} {T : gTy} {r : gR} {l : gLg} {i : gI} {Q : gQ} {m p ln n : Nat} {sg : Int32} {fc : Int32} {i1 : gI} (hM : lyM T r m) (hA : gN Γ ≤ m) (hl : i m 5 = nI ln) (hl6 : ln ≤ 60) (hp : i m 10 = nI p) (hpl : p ≤ ln) (hn : i (m + 1) 0 = nI n) (hn6 : n < 6)
  (hQ : ∀ i', (∀ c, c ≠ m → c ≠ m + 1 → i' c = i c) → (∀ j, j ≠ 10 → j ≠ 11 → i' m j = i m j) → i' m 10 = nI (rfT (i (m + 4)) ln p).1 → i' m 11 = rfR (i (m + 4)) ln p → i' (m + 1) = adF (i (m + 1)) n (rfA (i (m + 4)) ln p sg) (nI (rfT (i (m + 4)) ln p).2.1) (nI (rfT (i (m + 4)) ln p).2.2) → Q (some (.int (gB (rfO (i (m + 4)) ln p)))) T r l i') (hi : frT m i i1) (h10 : i1 m 10 = nI (rfT (i (m + 4)) ln p).1) (ha : sg * fc = rfA (i (m + 4)) ln p sg) : G Γ MX12_readsTerm 0 0 162 [(0, .ref m), (1, .int sg), (2, .int (gB (rfD (i (m + 4)) ln p))), (3, .int fc), (4, .int (nI (rfT (i (m + 4)) ln p).2.1)), (5, .int (nI (rfT (i (m + 4)) ln p).2.2))] [] T r l i1 Q := by
  have hM2 := hM
  obtain ⟨m0, m1, m2, m3, m4, m5, m6, m7, m8, m9, m10⟩ := hM
  have e4 : i1 (m + 4) = i (m + 4) := hi.1 (m + 4) (by omega)
  have hle := rfT_le (tx := i (m + 4)) hpl
  refine G_aload_n (pc := 162) 0 dX12_readsTerm_162 rfl ?_
  refine G_aload_n (pc := 163) 0 dX12_readsTerm_163 rfl ?_
  refine G_bipush (pc := 164) (v := 120) dX12_readsTerm_164 rfl ?_
  refine G_bipush (pc := 166) (v := 121) dX12_readsTerm_166 rfl ?_
  refine gV2 (pc := 168) (k' := 0) (n' := 0) dX12_readsTerm_168 lkX12_191 ⟨by decide, by decide⟩ (Nat.le_of_ble_eq_true rfl) rfl rfl ⟨by decide, by decide⟩ (by assumption) (c_X12_sees (p := (rfT (i (m + 4)) ln p).1) (ln := ln) hM2 (by rw [hi.2 5 (by decide) (by decide)]; exact hl) hl6 h10 hle.1 ?_)
  dsimp only [gRt]
  rw [e4]
  refine G_if_eq (pc := 171) (tgt := 178) dX12_readsTerm_171 (by decide) (fun h171 => ?_) (fun h171 => ?_)
  · have hx := gB_eq.mp h171
    have hx : ¬ rfX (i (m + 4)) ln (rfT (i (m + 4)) ln p).1 := hx
    refine G_iconst (pc := 178) (v := 1) dX12_readsTerm_178 rfl ?_
    refine G_putI (pc := 179) dX12_readsTerm_179 fX12_194 (by assumption) rfl rfl (by first | assumption | omega) ?_
    refine G_aload_n (pc := 182) 0 dX12_readsTerm_182 rfl ?_
    refine G_iload_n (pc := 183) 1 dX12_readsTerm_183 rfl ?_
    refine G_iload_n (pc := 184) 3 dX12_readsTerm_184 rfl ?_
    refine G_imul (pc := 185) dX12_readsTerm_185 ?_
    refine G_iload (pc := 186) 4 dX12_readsTerm_186 rfl ?_
    refine G_iload (pc := 188) 5 dX12_readsTerm_188 rfl ?_
    refine gV3 (pc := 190) (k' := 0) (n' := 0) dX12_readsTerm_190 lkX12_131 ⟨by decide, by decide⟩ (Nat.le_of_ble_eq_true rfl) rfl rfl ⟨by decide, by decide⟩ (by assumption) (c_X12_adds (n := n) hM2 hA (by rw [up2_ne (by omega), hi.1 (m + 1) (by omega)]; exact hn) (by omega) (fun z => absurd z (by omega)) ?_)
    intro _hn
    dsimp only [gRt]
    refine G_sn6 (pc := 193) (gSt_i dX12_readsTerm_193 (by decide)) rfl ?_
    refine G_aload_n (pc := 195) 0 dX12_readsTerm_195 rfl ?_
    refine G_getI (pc := 196) dX12_readsTerm_196 fX12_194 (by assumption) ?_
    rw [va_o (by omega), up2_self]
    refine G_iconst (pc := 199) (v := 1) dX12_readsTerm_199 rfl ?_
    refine G_icmp_ne (pc := 200) (tgt := 219) dX12_readsTerm_200 (by decide) (fun h200 => ?_) (fun h200 => ?_)
    · exact absurd rfl h200
    · refine G_iload_n (pc := 203) 2 dX12_readsTerm_203 rfl ?_
      refine G_if_ne (pc := 204) (tgt := 215) dX12_readsTerm_204 (by decide) (fun h204 => ?_) (fun h204 => ?_)
      · refine G_iconst (pc := 215) (v := 1) dX12_readsTerm_215 rfl ?_
        refine G_goto (pc := 216) (tgt := 220) dX12_readsTerm_216 (by decide) ?_
        refine G_iret (pc := 220) dX12_readsTerm_220 ⟨_, rfl, rfl⟩ ⟨by decide, by decide⟩ ?_
        have er : rfR (i (m + 4)) ln p = 1 := if_neg hx
        have ho : rfO (i (m + 4)) ln p := ⟨er, Or.inl (gB_ne.mp h204)⟩
        rw [gB_t ho] at hQ
        refine hQ _ (fun c c1 c2 => by rw [va_o c2, up2_ne c1]; exact hi.1 c c1) (fun j j1 j2 => by rw [va_o (by omega), up2_row j2]; exact hi.2 j j1 j2) (by rw [va_o (by omega), up2_row (by decide)]; exact h10) (by rw [va_o (by omega), up2_self]; exact er.symm) (by rw [va_s, up2_ne (by omega), hi.1 (m + 1) (by omega), ha])
      · refine G_iload (pc := 207) 4 dX12_readsTerm_207 rfl ?_
        refine G_iload (pc := 209) 5 dX12_readsTerm_209 rfl ?_
        refine G_iadd (pc := 211) dX12_readsTerm_211 ?_
        rw [nI_add]
        refine G_if_le (pc := 212) (tgt := 219) dX12_readsTerm_212 (by decide) (fun h212 => ?_) (fun h212 => ?_)
        · refine G_iconst (pc := 219) (v := 0) dX12_readsTerm_219 rfl ?_
          refine G_iret (pc := 220) dX12_readsTerm_220 ⟨_, rfl, rfl⟩ ⟨by decide, by decide⟩ ?_
          have er : rfR (i (m + 4)) ln p = 1 := if_neg hx
          have ho : ¬ rfO (i (m + 4)) ln p := fun z => z.2.elim (fun u => gB_eq.mp h204 u) (fun u => nI_nle u (by omega) h212)
          rw [gB_f ho] at hQ
          refine hQ _ (fun c c1 c2 => by rw [va_o c2, up2_ne c1]; exact hi.1 c c1) (fun j j1 j2 => by rw [va_o (by omega), up2_row j2]; exact hi.2 j j1 j2) (by rw [va_o (by omega), up2_row (by decide)]; exact h10) (by rw [va_o (by omega), up2_self]; exact er.symm) (by rw [va_s, up2_ne (by omega), hi.1 (m + 1) (by omega), ha])
        · refine G_iconst (pc := 215) (v := 1) dX12_readsTerm_215 rfl ?_
          refine G_goto (pc := 216) (tgt := 220) dX12_readsTerm_216 (by decide) ?_
          refine G_iret (pc := 220) dX12_readsTerm_220 ⟨_, rfl, rfl⟩ ⟨by decide, by decide⟩ ?_
          have er : rfR (i (m + 4)) ln p = 1 := if_neg hx
          have ho : rfO (i (m + 4)) ln p := ⟨er, Or.inr (Nat.pos_of_ne_zero (fun z => h212 (by rw [z]; decide)))⟩
          rw [gB_t ho] at hQ
          refine hQ _ (fun c c1 c2 => by rw [va_o c2, up2_ne c1]; exact hi.1 c c1) (fun j j1 j2 => by rw [va_o (by omega), up2_row j2]; exact hi.2 j j1 j2) (by rw [va_o (by omega), up2_row (by decide)]; exact h10) (by rw [va_o (by omega), up2_self]; exact er.symm) (by rw [va_s, up2_ne (by omega), hi.1 (m + 1) (by omega), ha])
  · have hx := gB_ne.mp h171
    have hx : rfX (i (m + 4)) ln (rfT (i (m + 4)) ln p).1 := hx
    refine G_iconst (pc := 174) (v := 2) dX12_readsTerm_174 rfl ?_
    refine G_goto (pc := 175) (tgt := 179) dX12_readsTerm_175 (by decide) ?_
    refine G_putI (pc := 179) dX12_readsTerm_179 fX12_194 (by assumption) rfl rfl (by first | assumption | omega) ?_
    refine G_aload_n (pc := 182) 0 dX12_readsTerm_182 rfl ?_
    refine G_iload_n (pc := 183) 1 dX12_readsTerm_183 rfl ?_
    refine G_iload_n (pc := 184) 3 dX12_readsTerm_184 rfl ?_
    refine G_imul (pc := 185) dX12_readsTerm_185 ?_
    refine G_iload (pc := 186) 4 dX12_readsTerm_186 rfl ?_
    refine G_iload (pc := 188) 5 dX12_readsTerm_188 rfl ?_
    refine gV3 (pc := 190) (k' := 0) (n' := 0) dX12_readsTerm_190 lkX12_131 ⟨by decide, by decide⟩ (Nat.le_of_ble_eq_true rfl) rfl rfl ⟨by decide, by decide⟩ (by assumption) (c_X12_adds (n := n) hM2 hA (by rw [up2_ne (by omega), hi.1 (m + 1) (by omega)]; exact hn) (by omega) (fun z => absurd z (by omega)) ?_)
    intro _hn
    dsimp only [gRt]
    refine G_sn6 (pc := 193) (gSt_i dX12_readsTerm_193 (by decide)) rfl ?_
    refine G_aload_n (pc := 195) 0 dX12_readsTerm_195 rfl ?_
    refine G_getI (pc := 196) dX12_readsTerm_196 fX12_194 (by assumption) ?_
    rw [va_o (by omega), up2_self]
    refine G_iconst (pc := 199) (v := 1) dX12_readsTerm_199 rfl ?_
    refine G_icmp_ne (pc := 200) (tgt := 219) dX12_readsTerm_200 (by decide) (fun h200 => ?_) (fun h200 => ?_)
    · refine G_iconst (pc := 219) (v := 0) dX12_readsTerm_219 rfl ?_
      refine G_iret (pc := 220) dX12_readsTerm_220 ⟨_, rfl, rfl⟩ ⟨by decide, by decide⟩ ?_
      have er : rfR (i (m + 4)) ln p = 2 := if_pos hx
      have ho : ¬ rfO (i (m + 4)) ln p := fun z => absurd (er.symm.trans z.1) (by decide)
      rw [gB_f ho] at hQ
      refine hQ _ (fun c c1 c2 => by rw [va_o c2, up2_ne c1]; exact hi.1 c c1) (fun j j1 j2 => by rw [va_o (by omega), up2_row j2]; exact hi.2 j j1 j2) (by rw [va_o (by omega), up2_row (by decide)]; exact h10) (by rw [va_o (by omega), up2_self]; exact er.symm) (by rw [va_s, up2_ne (by omega), hi.1 (m + 1) (by omega), ha])
    · exact absurd (show ¬ (2 : Int32) = 1 by decide) (fun z => z h200)

set_option maxRecDepth 100000 in
set_option maxHeartbeats 4000000 in
theorem s1_X12_readsTerm {Γ : gG} {T : gTy} {r : gR} {l : gLg} {i : gI} {Q : gQ} {m p ln n : Nat} {sg : Int32} (hM : lyM T r m) (hA : gN Γ ≤ m) (hl : i m 5 = nI ln) (hl6 : ln ≤ 60) (hp : i m 10 = nI p) (hpl : p ≤ ln) (hn : i (m + 1) 0 = nI n) (hn6 : n < 6)
  (hQ : ∀ i', (∀ c, c ≠ m → c ≠ m + 1 → i' c = i c) → (∀ j, j ≠ 10 → j ≠ 11 → i' m j = i m j) → i' m 10 = nI (rfT (i (m + 4)) ln p).1 → i' m 11 = rfR (i (m + 4)) ln p → i' (m + 1) = adF (i (m + 1)) n (rfA (i (m + 4)) ln p sg) (nI (rfT (i (m + 4)) ln p).2.1) (nI (rfT (i (m + 4)) ln p).2.2) → Q (some (.int (gB (rfO (i (m + 4)) ln p)))) T r l i') : G Γ MX12_readsTerm 0 0 35 [(0, .ref m), (1, .int sg)] [.int (gB (rfD (i (m + 4)) ln p))] T r l i Q := by
  have hM2 := hM
  obtain ⟨m0, m1, m2, m3, m4, m5, m6, m7, m8, m9, m10⟩ := hM
  refine G_sn2 (pc := 35) (gSt_in dX12_readsTerm_35 rfl (by decide)) rfl ?_
  refine G_iload_n (pc := 36) 2 dX12_readsTerm_36 rfl ?_
  refine G_if_eq (pc := 37) (tgt := 55) dX12_readsTerm_37 (by decide) (fun h37 => ?_) (fun h37 => ?_)
  · have hd := gB_eq.mp h37
    have hd : ¬ (rfD (i (m + 4)) ln p) := hd
    refine G_iconst (pc := 55) (v := 1) dX12_readsTerm_55 rfl ?_
    refine G_sn3 (pc := 56) (gSt_in dX12_readsTerm_56 rfl (by decide)) rfl ?_
    refine G_aload_n (pc := 57) 0 dX12_readsTerm_57 rfl ?_
    refine G_dup (pc := 58) dX12_readsTerm_58 rfl ?_
    refine G_getI (pc := 59) dX12_readsTerm_59 fX12_188 (by assumption) ?_
    rw [hp]
    refine G_iload_n (pc := 62) 2 dX12_readsTerm_62 rfl ?_
    refine G_if_eq (pc := 63) (tgt := 70) dX12_readsTerm_63 (by decide) (fun h63 => ?_) (fun h63 => ?_)
    · refine G_iconst (pc := 70) (v := 0) dX12_readsTerm_70 rfl ?_
      refine G_iadd (pc := 71) dX12_readsTerm_71 ?_
      rw [show nI p + 0 = nI p from Int32.add_zero _]
      refine G_putI (pc := 72) dX12_readsTerm_72 fX12_188 (by assumption) rfl rfl (by first | assumption | omega) ?_
      refine G_iconst (pc := 75) (v := 0) dX12_readsTerm_75 rfl ?_
      refine G_sn4 (pc := 76) (gSt_i dX12_readsTerm_76 (by decide)) rfl ?_
      refine G_iconst (pc := 78) (v := 0) dX12_readsTerm_78 rfl ?_
      refine G_sn5 (pc := 79) (gSt_i dX12_readsTerm_79 (by decide)) rfl ?_
      have he : rfL (i (m + 4)) ln 3 p 0 0 = ((rfT (i (m + 4)) ln p).1, (rfT (i (m + 4)) ln p).2.1, (rfT (i (m + 4)) ln p).2.2) := by
        unfold rfT; rw [if_neg hd]; rfl
      have ha : sg * 1 = rfA (i (m + 4)) ln p sg := by unfold rfA; rw [if_neg hd]
      exact lp_X12_letters hM2 hA hl hl6 (fun i1 hi h10 => s2_X12_readsTerm hM2 hA hl hl6 hp hpl hn hn6 hQ hi h10 ha) 3 p 0 0 _ rfl (by exact hpl) (frT.rf.put (by decide)) (up2_self _ _ _ _) he
    · exact absurd h37 h63
  · have hd := gB_ne.mp h37
    have hd : (rfD (i (m + 4)) ln p) := hd
    have hd1 := hd.1
    refine G_aload_n (pc := 40) 0 dX12_readsTerm_40 rfl ?_
    refine G_getR (pc := 41) dX12_readsTerm_41 fX12_19 (by assumption) (by assumption) ?_
    refine G_aload_n (pc := 44) 0 dX12_readsTerm_44 rfl ?_
    refine G_getI (pc := 45) dX12_readsTerm_45 fX12_188 (by assumption) ?_
    refine G_ialdJ (pc := 48) (j := p) dX12_readsTerm_48 (by assumption) hp (by first | assumption | omega) (by decide) ?_
    refine G_bipush (pc := 49) (v := 48) dX12_readsTerm_49 rfl ?_
    refine G_isub (pc := 51) dX12_readsTerm_51 ?_
    refine G_goto (pc := 52) (tgt := 56) dX12_readsTerm_52 (by decide) ?_
    refine G_sn3 (pc := 56) (gSt_in dX12_readsTerm_56 rfl (by decide)) rfl ?_
    refine G_aload_n (pc := 57) 0 dX12_readsTerm_57 rfl ?_
    refine G_dup (pc := 58) dX12_readsTerm_58 rfl ?_
    refine G_getI (pc := 59) dX12_readsTerm_59 fX12_188 (by assumption) ?_
    rw [hp]
    refine G_iload_n (pc := 62) 2 dX12_readsTerm_62 rfl ?_
    refine G_if_eq (pc := 63) (tgt := 70) dX12_readsTerm_63 (by decide) (fun h63 => ?_) (fun h63 => ?_)
    · exact absurd h63 h37
    · refine G_iconst (pc := 66) (v := 1) dX12_readsTerm_66 rfl ?_
      refine G_goto (pc := 67) (tgt := 71) dX12_readsTerm_67 (by decide) ?_
      refine G_iadd (pc := 71) dX12_readsTerm_71 ?_
      rw [nI_1]
      refine G_putI (pc := 72) dX12_readsTerm_72 fX12_188 (by assumption) rfl rfl (by first | assumption | omega) ?_
      refine G_iconst (pc := 75) (v := 0) dX12_readsTerm_75 rfl ?_
      refine G_sn4 (pc := 76) (gSt_i dX12_readsTerm_76 (by decide)) rfl ?_
      refine G_iconst (pc := 78) (v := 0) dX12_readsTerm_78 rfl ?_
      refine G_sn5 (pc := 79) (gSt_i dX12_readsTerm_79 (by decide)) rfl ?_
      have he : rfL (i (m + 4)) ln 3 (p + 1) 0 0 = ((rfT (i (m + 4)) ln p).1, (rfT (i (m + 4)) ln p).2.1, (rfT (i (m + 4)) ln p).2.2) := by
        unfold rfT; rw [if_pos hd]
      have ha : sg * ((i (m + 4)) p - 48) = rfA (i (m + 4)) ln p sg := by unfold rfA; rw [if_pos hd]
      exact lp_X12_letters hM2 hA hl hl6 (fun i1 hi h10 => s2_X12_readsTerm hM2 hA hl hl6 hp hpl hn hn6 hQ hi h10 ha) 3 (p + 1) 0 0 _ rfl (by have := hd.1; omega) (frT.rf.put (by decide)) (up2_self _ _ _ _) he

set_option maxRecDepth 100000 in
set_option maxHeartbeats 4000000 in
theorem c_X12_readsTerm {Γ : gG} {T : gTy} {r : gR} {l : gLg} {i : gI} {Q : gQ} {m p ln n : Nat} {sg : Int32} (hM : lyM T r m) (hA : gN Γ ≤ m) (hl : i m 5 = nI ln) (hl6 : ln ≤ 60) (hp : i m 10 = nI p) (hpl : p ≤ ln) (hn : i (m + 1) 0 = nI n) (hn6 : n < 6)
  (hQ : ∀ i', (∀ c, c ≠ m → c ≠ m + 1 → i' c = i c) → (∀ j, j ≠ 10 → j ≠ 11 → i' m j = i m j) → i' m 10 = nI (rfT (i (m + 4)) ln p).1 → i' m 11 = rfR (i (m + 4)) ln p → i' (m + 1) = adF (i (m + 1)) n (rfA (i (m + 4)) ln p sg) (nI (rfT (i (m + 4)) ln p).2.1) (nI (rfT (i (m + 4)) ln p).2.2) → Q (some (.int (gB (rfO (i (m + 4)) ln p)))) T r l i') : gC Γ MX12_readsTerm [.ref m, .int sg] T r l i Q := by
  have hM2 := hM
  obtain ⟨m0, m1, m2, m3, m4, m5, m6, m7, m8, m9, m10⟩ := hM
  refine gC_of rfl (Nat.le_of_ble_eq_true rfl) (L := [(0, .ref m), (1, .int sg)]) rfl ?_
  refine G_aload_n (pc := 0) 0 dX12_readsTerm_0 rfl ?_
  refine G_getI (pc := 1) dX12_readsTerm_1 fX12_188 (by assumption) ?_
  refine G_aload_n (pc := 4) 0 dX12_readsTerm_4 rfl ?_
  refine G_getI (pc := 5) dX12_readsTerm_5 fX12_175 (by assumption) ?_
  refine G_icmp_ge (pc := 8) (tgt := 34) dX12_readsTerm_8 (by decide) (fun h8 => ?_) (fun h8 => ?_)
  · have hz : ¬ p < ln := fun z => absurd h8 (by rw [hp, hl]; exact nI_ge z (by omega))
    refine G_iconst (pc := 34) (v := 0) dX12_readsTerm_34 rfl ?_
    have h := s1_X12_readsTerm (l := l) (Q := Q) (i := i) hM2 hA hl hl6 hp hpl hn hn6 hQ
    rw [gB_f (c := (rfD (i (m + 4)) ln p)) (fun z => hz z.1)] at h
    exact h
  · have hz : p < ln := by
      rcases Nat.lt_or_ge p ln with z | z
      · exact z
      · exact absurd (by rw [hp, hl]; exact nI_le z (by omega)) h8
    refine G_aload_n (pc := 11) 0 dX12_readsTerm_11 rfl ?_
    refine G_getR (pc := 12) dX12_readsTerm_12 fX12_19 (by assumption) (by assumption) ?_
    refine G_aload_n (pc := 15) 0 dX12_readsTerm_15 rfl ?_
    refine G_getI (pc := 16) dX12_readsTerm_16 fX12_188 (by assumption) ?_
    refine G_ialdJ (pc := 19) (j := p) dX12_readsTerm_19 (by assumption) hp (by first | assumption | omega) (by decide) ?_
    refine G_bipush (pc := 20) (v := 49) dX12_readsTerm_20 rfl ?_
    refine G_bipush (pc := 22) (v := 53) dX12_readsTerm_22 rfl ?_
    refine gS3 (pc := 24) (k' := 0) (n' := 0) dX12_readsTerm_24 lkX12_25 ⟨by decide, by decide⟩ (Nat.le_of_ble_eq_true rfl) rfl rfl ⟨by decide, by decide⟩ (c_X12_in ?_)
    dsimp only [gRt]
    refine G_if_eq (pc := 27) (tgt := 34) dX12_readsTerm_27 (by decide) (fun h27 => ?_) (fun h27 => ?_)
    · refine G_iconst (pc := 34) (v := 0) dX12_readsTerm_34 rfl ?_
      have h := s1_X12_readsTerm (l := l) (Q := Q) (i := i) hM2 hA hl hl6 hp hpl hn hn6 hQ
      rw [gB_f (c := (rfD (i (m + 4)) ln p)) (fun z => gB_eq.mp h27 z.2)] at h
      exact h
    · refine G_iconst (pc := 30) (v := 1) dX12_readsTerm_30 rfl ?_
      refine G_goto (pc := 31) (tgt := 35) dX12_readsTerm_31 (by decide) ?_
      have h := s1_X12_readsTerm (l := l) (Q := Q) (i := i) hM2 hA hl hl6 hp hpl hn hn6 hQ
      rw [gB_t (c := (rfD (i (m + 4)) ln p)) ⟨hz, gB_ne.mp h27⟩] at h
      exact h

