/-! the reference acts -/
/-- afterwards: the flat state S, the past P of n -/
def rfP (m : Nat) (i i' : gI) (S : Nat → Int32) (P : Nat → Nat → Int32) (n : Nat) : Prop := (∀ c, c < m ∨ m + 6 ≤ c → i' c = i c) ∧ i' m 5 = i m 5 ∧ i' (m + 4) = i (m + 4) ∧ i' (m + 1) = S ∧ rpP i' m P n
def frB (m : Nat) (i i' : gI) : Prop := (∀ c, c ≠ m → c ≠ m + 1 → c ≠ m + 2 → c ≠ m + 5 → i' c = i c) ∧ i' m 3 = i m 3 ∧ i' m 5 = i m 5
theorem frB.N {m : Nat} {i j k : gI} {F : Nat → Int32} (h : frB m i j) (g : frN m j k F) : frB m i k := ⟨fun c c1 c2 c3 c4 => (g.1 c c1 c2).trans (h.1 c c1 c2 c3 c4), (g.2.1 3 (by decide) (by decide) (by decide)).trans h.2.1, (g.2.1 5 (by decide) (by decide) (by decide)).trans h.2.2⟩
theorem frB.M {m : Nat} {i j k : gI} (h : frB m i j) (g : frM m j k) : frB m i k := ⟨fun c c1 c2 c3 c4 => (g.1 c c1).trans (h.1 c c1 c2 c3 c4), (g.2 3 (by decide) (by decide) (by decide)).trans h.2.1, (g.2 5 (by decide) (by decide) (by decide)).trans h.2.2⟩
theorem frB.U {m : Nat} {i j k : gI} (h : frB m i j) (g : frU m j k) : frB m i k := ⟨fun c c1 c2 c3 c4 => (g.1 c c1 c2).trans (h.1 c c1 c2 c3 c4), (g.2 3 (by decide) (by decide)).trans h.2.1, (g.2 5 (by decide) (by decide)).trans h.2.2⟩
theorem frB.F {m : Nat} {i j : gI} {F : Nat → Int32} (h : frB m i j) : frB m i (va_up j (m + 1) F) := ⟨fun c c1 c2 c3 c4 => by rw [va_o c2]; exact h.1 c c1 c2 c3 c4, by rw [va_o (by omega)]; exact h.2.1, by rw [va_o (by omega)]; exact h.2.2⟩
theorem rpP.eq {m n : Nat} {i j : gI} {P : Nat → Nat → Int32} (h : rpP i m P n) (h3 : j m 3 = i m 3) (hp : j (m + 3) = i (m + 3)) : rpP j m P n := by
  unfold rpP; rw [h3, hp]; exact h
theorem rfP.same {m n : Nat} {i j : gI} {P : Nat → Nat → Int32} {S : Nat → Int32} (hP : rpP i m P n) (h : frB m i j) (hS : j (m + 1) = S) : rfP m i j S P n := ⟨fun c hc => h.1 c (by omega) (by omega) (by omega) (by omega), h.2.2, h.1 (m + 4) (by omega) (by omega) (by omega) (by omega), hS, hP.eq h.2.1 (h.1 (m + 3) (by omega) (by omega) (by omega) (by omega))⟩
theorem c_begX {Γ : gG} {T : gTy} {r : gR} {l : gLg} {i : gI} {Q : gQ} {m : Nat} {S : Nat → Int32} (hM : lyM T r m) (hA : gN Γ ≤ m) (he : i (m + 1) = S)
  (hQ : ∀ i1, frB m i i1 → i1 (m + 1) = S → (∀ k, k < 853 → i1 (m + 2) k = S k) → Q none T r l i1) : gC Γ MX12_begins [.ref m] T r l i Q := by
  refine c_X12_begins hM hA (hQ _ ⟨fun c _ _ c3 _ => va_o c3, by rw [va_o (by omega)], by rw [va_o (by omega)]⟩ (by rw [va_o (by omega)]; exact he) (fun k hk => ?_))
  rw [va_s, cpy, if_pos hk, he]
theorem c_actN {Γ : gG} {T : gTy} {r : gR} {l : gLg} {i i2 : gI} {Q : gQ} {m n : Nat} {S : Nat → Int32} {P : Nat → Nat → Int32} {ans : Int32} (hM : lyM T r m) (hA : gN Γ ≤ m) (hP : rpP i m P n) (hf : frB m i i2) (hB : ∀ k, k < 853 → i2 (m + 2) k = S k)
  (ha : ans ≤ -1000001) (hh : ∀ k, 853 ≤ k → i2 (m + 1) k = S k) (hQ : ∀ i', rfP m i i' S P n → Q (some (.int ans)) T r l i') : gC Γ MX12_acted [.ref m, .int ans] T r l i2 Q := by
  refine c_X12_acted (P := P) (n := n) (s := S) hM hA (hP.eq hf.2.1 (hf.1 (m + 3) (by omega) (by omega) (by omega) (by omega))) hB (fun _ => hQ _ (rfP.same hP hf.F ?_)) (fun z => absurd ha z)
  rw [va_s]
  funext k
  unfold cpy
  by_cases hk : k < 853
  · rw [if_pos hk]; exact hB k hk
  · rw [if_neg hk]; exact hh k (by omega)
theorem c_actS {Γ : gG} {T : gTy} {r : gR} {l : gLg} {i i2 : gI} {Q : gQ} {m n : Nat} {S F : Nat → Int32} {P : Nat → Nat → Int32} {ans : Int32} (hM : lyM T r m) (hA : gN Γ ≤ m) (hP : rpP i m P n) (hf : frB m i i2) (hB : ∀ k, k < 853 → i2 (m + 2) k = S k)
  (ha : ¬ ans ≤ -1000001) (hF : i2 (m + 1) = F) (hQ : ∀ i', rfP m i i' F (psP n P S) (psN n) → Q (some (.int ans)) T r l i') : gC Γ MX12_acted [.ref m, .int ans] T r l i2 Q := by
  refine c_X12_acted (P := P) (n := n) (s := S) hM hA (hP.eq hf.2.1 (hf.1 (m + 3) (by omega) (by omega) (by omega) (by omega))) hB (fun z => absurd z ha) (fun _ i' g1 g2 => hQ i' ⟨fun c hc => ?_, ?_, ?_, ?_, g2⟩)
  · rw [g1.1 c (by omega) (by omega)]; exact hf.1 c (by omega) (by omega) (by omega) (by omega)
  · rw [g1.2 5 (by decide)]; exact hf.2.2
  · rw [g1.1 (m + 4) (by omega) (by omega)]; exact hf.1 (m + 4) (by omega) (by omega) (by omega) (by omega)
  · rw [g1.1 (m + 1) (by omega) (by omega)]; exact hF
theorem nI_big {k : Nat} (h : k < 2 ^ 31) : ¬ nI k ≤ -1000001 := by
  intro z
  have := Int32.le_iff_toInt_le.mp z
  rw [nI_toInt h, show (-1000001 : Int32).toInt = -1000001 by decide] at this
  omega
/-! what an action answers, and the flat state after it, if it acts -/
abbrev aRes : Type := Int32 × Option (Nat → Int32)
def nxS (S : Nat → Int32) : Option (Nat → Int32) → (Nat → Int32)
  | none => S
  | some F => F
def nxP (n : Nat) (P : Nat → Nat → Int32) (S : Nat → Int32) : Option (Nat → Int32) → Nat → Nat → Int32
  | none => P
  | some _ => psP n P S
def nxN (n : Nat) : Option (Nat → Int32) → Nat
  | none => n
  | some _ => psN n
def nW (s : Nat → Int32) : Nat := (s 1).toNatClampNeg
abbrev okT (f x y : Int32) : Prop := inI f (-5) 5 ∧ ¬ f = 0 ∧ inI x 0 3 ∧ inI y 0 3 ∧ x + y ≤ 3
def aTerm (S : Nat → Int32) (f x y : Int32) : aRes := if okT f x y then (if tN S = 6 then (-1000003, none) else (nI (tN S + 1), some (adF S (tN S) f x y))) else (-1000001, none)
def aDropT (S : Nat → Int32) (k : Int32) : aRes := if k < 0 then (-1000001, none) else if nI (tN S) ≤ k then (-1000002, none) else (S (5 + 3 * k.toNatClampNeg), some (rmF S (tN S - 1) k.toNatClampNeg))
abbrev okB (x y sg : Int32) : Prop := inI x (-1024) 1024 ∧ inI y (-1024) 1024 ∧ (sg = 1 ∨ sg = -1)
def aOpen (S : Nat → Int32) (sg p f : Int32) : Option (Int64 × Int64 × Nat) → aRes
  | none => (-1000002, none)
  | some c => if nW S = 5 then (-1000003, none) else (nI (nW S), some (oF S (nW S) sg p f c))
def aBegin (S : Nat → Int32) (x y sg : Int32) : aRes := if okB x y sg then aOpen S sg (-1) (-1) (gCor (tF S) (tP S) (tQ S) (tN S) (tM S) 0 x.toInt64 y.toInt64) else (-1000001, none)
def aStep (S : Nat → Int32) (w k : Int32) : aRes := if inI w 0 (S 1 - 1) ∧ inI k 1 40 then (if gStop S (23 + 166 * w.toNatClampNeg) then (-1000002, none) else (nI (wkR (23 + 166 * w.toNatClampNeg) k.toNatClampNeg S).2, some (wkR (23 + 166 * w.toNatClampNeg) k.toNatClampNeg S).1)) else (-1000001, none)
theorem aDone {S : Nat → Int32} {P : Nat → Nat → Int32} {n m : Nat} {i : gI} {Q : gQ} {T : gTy} {r : gR} {l : gLg} {A B : aRes} (hQ : ∀ i', rfP m i i' (nxS S A.2) (nxP n P S A.2) (nxN n A.2) → Q (some (.int A.1)) T r l i') (h : A = B) : ∀ i', rfP m i i' (nxS S B.2) (nxP n P S B.2) (nxN n B.2) → Q (some (.int B.1)) T r l i' := by
  subst h; exact hQ
set_option maxRecDepth 100000 in
set_option maxHeartbeats 4000000 in
theorem s1_X12_term {Γ : gG} {T : gTy} {r : gR} {l : gLg} {i : gI} {Q : gQ} {m n : Nat} {S : Nat → Int32} {P : Nat → Nat → Int32} {f x y : Int32} {i1 : gI} (hM : lyM T r m) (hA : gN Γ ≤ m) (he : i (m + 1) = S) (hP : rpP i m P n) (hS : vS S) (hQ : ∀ i', rfP m i i' (nxS S (aTerm S f x y).2) (nxP n P S (aTerm S f x y).2) (nxN n (aTerm S f x y).2) → Q (some (.int (aTerm S f x y).1)) T r l i') (hb : frB m i i1) (e1 : i1 (m + 1) = S) (e2 : ∀ k, k < 853 → i1 (m + 2) k = S k) : G Γ MX12_term 0 0 48 [(0, .ref m), (1, .int f), (2, .int x), (3, .int y)] [.int (gB (okT f x y))] T r l i1 Q := by
  have hM2 := hM
  obtain ⟨m0, m1, m2, m3, m4, m5, m6, m7, m8, m9, m10⟩ := hM
  have hT := hS.1
  have hn6 := hT.1.1
  have hn0 := hT.1.2.1
  refine G_sn4 (pc := 48) (gSt_i dX12_term_48 (by decide)) rfl ?_
  refine G_aload_n (pc := 50) 0 dX12_term_50 rfl ?_
  refine G_iload (pc := 51) 4 dX12_term_51 rfl ?_
  refine G_if_eq (pc := 53) (tgt := 66) dX12_term_53 (by decide) (fun h53 => ?_) (fun h53 => ?_)
  · have hno := gB_eq.mp h53
    have hno : ¬ okT f x y := hno
    replace hQ := aDone hQ (show aTerm S f x y = (-1000001, none) from if_neg hno)
    refine G_ldc (pc := 66) dX12_term_66 kcX12_29 ?_
    refine gV1 (pc := 68) (k' := 0) (n' := 0) dX12_term_68 lkX12_134 ⟨by decide, by decide⟩ (Nat.le_of_ble_eq_true rfl) rfl rfl ⟨by decide, by decide⟩ (by assumption) (c_actN (S := S) hM2 hA hP hb e2 (by decide) (fun k _ => by rw [e1]) ?_)
    intro i' hi'
    dsimp only [gRt]
    refine G_iret (pc := 71) dX12_term_71 ⟨_, rfl, rfl⟩ ⟨by decide, by decide⟩ ?_
    exact hQ i' hi'
  · have hok := gB_ne.mp h53
    have hok : okT f x y := hok
    refine G_aload_n (pc := 56) 0 dX12_term_56 rfl ?_
    refine G_iload_n (pc := 57) 1 dX12_term_57 rfl ?_
    refine G_iload_n (pc := 58) 2 dX12_term_58 rfl ?_
    refine G_iload_n (pc := 59) 3 dX12_term_59 rfl ?_
    refine gV3 (pc := 60) (k' := 0) (n' := 0) dX12_term_60 lkX12_131 ⟨by decide, by decide⟩ (Nat.le_of_ble_eq_true rfl) rfl rfl ⟨by decide, by decide⟩ (by assumption) (c_X12_adds (n := tN S) hM2 hA (by rw [e1]; exact hn0) hn6 ?_ ?_)
    · intro h6
      replace hQ := aDone hQ (show aTerm S f x y = (-1000003, none) by unfold aTerm; rw [if_pos hok, if_pos h6])
      dsimp only [gRt]
      refine G_goto (pc := 63) (tgt := 68) dX12_term_63 (by decide) ?_
      refine gV1 (pc := 68) (k' := 0) (n' := 0) dX12_term_68 lkX12_134 ⟨by decide, by decide⟩ (Nat.le_of_ble_eq_true rfl) rfl rfl ⟨by decide, by decide⟩ (by assumption) (c_actN (S := S) hM2 hA hP hb e2 (by decide) (fun k _ => by rw [e1]) ?_)
      intro i' hi'
      dsimp only [gRt]
      refine G_iret (pc := 71) dX12_term_71 ⟨_, rfl, rfl⟩ ⟨by decide, by decide⟩ ?_
      exact hQ i' hi'
    · intro h6
      replace hQ := aDone hQ (show aTerm S f x y = (nI (tN S + 1), some (adF S (tN S) f x y)) by unfold aTerm; rw [if_pos hok, if_neg (by omega)])
      dsimp only [gRt]
      refine G_goto (pc := 63) (tgt := 68) dX12_term_63 (by decide) ?_
      refine gV1 (pc := 68) (k' := 0) (n' := 0) dX12_term_68 lkX12_134 ⟨by decide, by decide⟩ (Nat.le_of_ble_eq_true rfl) rfl rfl ⟨by decide, by decide⟩ (by assumption) (c_actS (S := S) hM2 hA hP hb.F (fun k hk => by rw [va_o (by omega)]; exact e2 k hk) (nI_big (by omega)) (by rw [va_s, e1]) ?_)
      intro i' hi'
      dsimp only [gRt]
      refine G_iret (pc := 71) dX12_term_71 ⟨_, rfl, rfl⟩ ⟨by decide, by decide⟩ ?_
      exact hQ i' hi'

set_option maxRecDepth 100000 in
set_option maxHeartbeats 4000000 in
theorem c_X12_term {Γ : gG} {T : gTy} {r : gR} {l : gLg} {i : gI} {Q : gQ} {m n : Nat} {S : Nat → Int32} {P : Nat → Nat → Int32} {f x y : Int32} (hM : lyM T r m) (hA : gN Γ ≤ m) (he : i (m + 1) = S) (hP : rpP i m P n) (hS : vS S) (hQ : ∀ i', rfP m i i' (nxS S (aTerm S f x y).2) (nxP n P S (aTerm S f x y).2) (nxN n (aTerm S f x y).2) → Q (some (.int (aTerm S f x y).1)) T r l i') : gC Γ MX12_term [.ref m, .int f, .int x, .int y] T r l i Q := by
  have hM2 := hM
  obtain ⟨m0, m1, m2, m3, m4, m5, m6, m7, m8, m9, m10⟩ := hM
  refine gC_of rfl (Nat.le_of_ble_eq_true rfl) (L := [(0, .ref m), (1, .int f), (2, .int x), (3, .int y)]) rfl ?_
  refine G_aload_n (pc := 0) 0 dX12_term_0 rfl ?_
  refine gV0 (pc := 1) (k' := 0) (n' := 0) dX12_term_1 lkX12_128 ⟨by decide, by decide⟩ (Nat.le_of_ble_eq_true rfl) rfl rfl ⟨by decide, by decide⟩ (by assumption) (c_begX hM2 hA he ?_)
  intro i1 hb e1 e2
  dsimp only [gRt]
  refine G_iload_n (pc := 4) 1 dX12_term_4 rfl ?_
  refine G_bipush (pc := 5) (v := (-5)) dX12_term_5 rfl ?_
  refine G_iconst (pc := 7) (v := 5) dX12_term_7 rfl ?_
  refine gS3 (pc := 8) (k' := 0) (n' := 0) dX12_term_8 lkX12_25 ⟨by decide, by decide⟩ (Nat.le_of_ble_eq_true rfl) rfl rfl ⟨by decide, by decide⟩ (c_X12_in ?_)
  dsimp only [gRt]
  refine G_if_eq (pc := 11) (tgt := 47) dX12_term_11 (by decide) (fun h11 => ?_) (fun h11 => ?_)
  · refine G_iconst (pc := 47) (v := 0) dX12_term_47 rfl ?_
    have h := s1_X12_term (r := r) (T := T) (l := l) (Q := Q) hM2 hA he hP hS hQ hb e1 e2
    rw [gB_f (c := okT f x y) (fun z => gB_eq.mp h11 z.1)] at h
    exact h
  · refine G_iload_n (pc := 14) 1 dX12_term_14 rfl ?_
    refine G_if_eq (pc := 15) (tgt := 47) dX12_term_15 (by decide) (fun h15 => ?_) (fun h15 => ?_)
    · refine G_iconst (pc := 47) (v := 0) dX12_term_47 rfl ?_
      have h := s1_X12_term (r := r) (T := T) (l := l) (Q := Q) hM2 hA he hP hS hQ hb e1 e2
      rw [gB_f (c := okT f x y) (fun z => z.2.1 h15)] at h
      exact h
    · refine G_iload_n (pc := 18) 2 dX12_term_18 rfl ?_
      refine G_iconst (pc := 19) (v := 0) dX12_term_19 rfl ?_
      refine G_iconst (pc := 20) (v := 3) dX12_term_20 rfl ?_
      refine gS3 (pc := 21) (k' := 0) (n' := 0) dX12_term_21 lkX12_25 ⟨by decide, by decide⟩ (Nat.le_of_ble_eq_true rfl) rfl rfl ⟨by decide, by decide⟩ (c_X12_in ?_)
      dsimp only [gRt]
      refine G_if_eq (pc := 24) (tgt := 47) dX12_term_24 (by decide) (fun h24 => ?_) (fun h24 => ?_)
      · refine G_iconst (pc := 47) (v := 0) dX12_term_47 rfl ?_
        have h := s1_X12_term (r := r) (T := T) (l := l) (Q := Q) hM2 hA he hP hS hQ hb e1 e2
        rw [gB_f (c := okT f x y) (fun z => gB_eq.mp h24 z.2.2.1)] at h
        exact h
      · refine G_iload_n (pc := 27) 3 dX12_term_27 rfl ?_
        refine G_iconst (pc := 28) (v := 0) dX12_term_28 rfl ?_
        refine G_iconst (pc := 29) (v := 3) dX12_term_29 rfl ?_
        refine gS3 (pc := 30) (k' := 0) (n' := 0) dX12_term_30 lkX12_25 ⟨by decide, by decide⟩ (Nat.le_of_ble_eq_true rfl) rfl rfl ⟨by decide, by decide⟩ (c_X12_in ?_)
        dsimp only [gRt]
        refine G_if_eq (pc := 33) (tgt := 47) dX12_term_33 (by decide) (fun h33 => ?_) (fun h33 => ?_)
        · refine G_iconst (pc := 47) (v := 0) dX12_term_47 rfl ?_
          have h := s1_X12_term (r := r) (T := T) (l := l) (Q := Q) hM2 hA he hP hS hQ hb e1 e2
          rw [gB_f (c := okT f x y) (fun z => gB_eq.mp h33 z.2.2.2.1)] at h
          exact h
        · refine G_iload_n (pc := 36) 2 dX12_term_36 rfl ?_
          refine G_iload_n (pc := 37) 3 dX12_term_37 rfl ?_
          refine G_iadd (pc := 38) dX12_term_38 ?_
          refine G_iconst (pc := 39) (v := 3) dX12_term_39 rfl ?_
          refine G_icmp_gt (pc := 40) (tgt := 47) dX12_term_40 (by decide) (fun h40 => ?_) (fun h40 => ?_)
          · refine G_iconst (pc := 47) (v := 0) dX12_term_47 rfl ?_
            have h := s1_X12_term (r := r) (T := T) (l := l) (Q := Q) hM2 hA he hP hS hQ hb e1 e2
            rw [gB_f (c := okT f x y) (fun z => absurd h40 (Int32.not_lt.mpr z.2.2.2.2))] at h
            exact h
          · refine G_iconst (pc := 43) (v := 1) dX12_term_43 rfl ?_
            refine G_goto (pc := 44) (tgt := 48) dX12_term_44 (by decide) ?_
            have h := s1_X12_term (r := r) (T := T) (l := l) (Q := Q) hM2 hA he hP hS hQ hb e1 e2
            rw [gB_t (c := okT f x y) ⟨gB_ne.mp h11, h15, gB_ne.mp h24, gB_ne.mp h33, Int32.not_lt.mp h40⟩] at h
            exact h

