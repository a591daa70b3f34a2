/-! what is told of a state: families, places that stand by themselves -/
theorem inI_of {j a b : Nat} (h1 : a ≤ j) (h2 : j ≤ b) (hb : b < 2 ^ 31) : inI (nI j) (nI a) (nI b) := ⟨nI_nlt h1 (by omega), nI_nlt h2 hb⟩
theorem aWalkOf_at {S : Nat → Int32} (h : vS S) {w c : Nat} (hw : w < nW S) (hc : c ≤ 8) : aWalkOf S (nI w) (nI c) = aWalkN S w c := by
  obtain ⟨w5, w1, wk⟩ := nW_of h
  unfold aWalkOf
  rw [if_pos ⟨by rw [w1]; exact (isW (by omega)).mpr ⟨w, hw, rfl⟩, inI_of (a := 0) (b := 8) (by omega) hc (by decide)⟩, nI_clamp (by omega), nI_clamp (by omega)]
theorem aPlaceOf_at {S : Nat → Int32} (h : vS S) {w p c : Nat} (hw : w < nW S) (hp : p < szW S (23 + 166 * w)) (hc : c ≤ 3) : aPlaceOf S (nI w) (nI p) (nI c) = S (23 + 166 * w + 6 + 4 * p + c) := by
  obtain ⟨w5, w1, wk⟩ := nW_of h
  obtain ⟨⟨z, hz⟩, _⟩ := wk w hw
  have h40 := hz.2.1
  rw [szW_v hz] at hp
  unfold aPlaceOf
  rw [if_pos ⟨by rw [w1]; exact (isW (by omega)).mpr ⟨w, hw, rfl⟩, nI_pos (by omega), inI_of (a := 0) (b := 3) (by omega) hc (by decide)⟩, nI_clamp (by omega), nI_clamp (by omega), nI_clamp (by omega), hz.1, if_pos (nI_lt hp (by omega))]
theorem aCorr_fx {S : Nat → Int32} (h : vS S) {u v : Int32} (hu : inB u.toInt64) (hv : inB v.toInt64) (hf : fxP S u.toInt64 v.toInt64) : aCorr S u v 0 = u ∧ aCorr S u v 2 = 1 := by
  have hg := gCor_again hu hv hf (m := tM S) (by have := h.2.1.2.2.1; omega)
  unfold aCorr
  rw [if_pos ⟨inI_inB.mpr hu, inI_inB.mpr hv, by decide⟩, if_pos ⟨inI_inB.mpr hu, inI_inB.mpr hv, by decide⟩, hg]
  refine ⟨?_, rfl⟩
  show u.toInt64.toInt32 = u
  simp
theorem nrF_min {f : Nat → Int32} {p : Nat} (hp : f p = 0) : ∀ k, (∀ j, j ≤ k → ¬ f j < 0) → p ≤ k → nrF f k ≤ p ∧ ¬ 0 < f (nrF f k)
  | 0, _, h => by
    obtain rfl : p = 0 := by omega
    rw [nrF, hp]
    exact ⟨Nat.le_refl _, by decide⟩
  | k + 1, hn, h => by
    rw [nrF]
    by_cases hpk : p = k + 1
    · by_cases hl : f (k + 1) < f (nrF f k)
      · rw [if_pos hl, ← hpk, hp]; exact ⟨Nat.le_refl _, by decide⟩
      · rw [if_neg hl]
        rw [← hpk, hp] at hl
        exact ⟨by have := nrF_le f k; omega, hl⟩
    · obtain ⟨a1, a2⟩ := nrF_min hp k (fun j hj => hn j (by omega)) (by omega)
      have hl : ¬ f (k + 1) < f (nrF f k) := fun z => by
        have n1 := hn (k + 1) (Nat.le_refl _)
        rw [Int32.lt_iff_toInt_lt] at z n1 a2
        have : (0 : Int32).toInt = 0 := rfl
        omega
      rw [if_neg hl]
      exact ⟨a1, a2⟩
theorem aNear_at {S : Nat → Int32} (h : vS S) {w p : Nat} (hw : w < nW S) (hp : p < szW S (23 + 166 * w)) : ∃ j, j ≤ p ∧ aNear S (nI w) (S (23 + 166 * w + 6 + 4 * p + 0)) (S (23 + 166 * w + 6 + 4 * p + 1)) = nI j := by
  obtain ⟨w5, w1, wk⟩ := nW_of h
  obtain ⟨⟨z, hz⟩, _⟩ := wk w hw
  have h40 := hz.2.1
  rw [szW_v hz] at hp
  obtain ⟨b0, b1, _⟩ := hz.2.2.2.2.2 p (by omega)
  unfold aNear
  rw [if_pos ⟨by rw [w1]; exact (isW (by omega)).mpr ⟨w, hw, rfl⟩, inI_inB.mpr b0, inI_inB.mpr b1⟩, nI_clamp (by omega), hz.1, nI_clamp (by omega), Nat.add_sub_cancel]
  refine ⟨_, (nrF_min (p := p) ?_ z (fun j hj => ?_) (by omega)).1, rfl⟩
  · unfold farS
    rw [Int32.sub_self, Int32.sub_self]
    decide
  · obtain ⟨c0, c1, _⟩ := hz.2.2.2.2.2 j hj
    exact (far_i c0 c1 b0 b1).2
/-- sums of numbers -/
def sN (f : Nat → Nat) : Nat → Nat
  | 0 => 0
  | k + 1 => sN f k + f k
theorem sN_c {f g : Nat → Nat} : ∀ n, (∀ k, k < n → f k = g k) → sN f n = sN g n
  | 0, _ => rfl
  | n + 1, h => by rw [sN, sN, sN_c n (fun k hk => h k (by omega)), h n (by omega)]
theorem sN_add {f g : Nat → Nat} : ∀ n, sN (fun k => f k + g k) n = sN f n + sN g n
  | 0 => rfl
  | n + 1 => by rw [sN, sN, sN, sN_add n]; omega
theorem sN_one {c j : Nat} : ∀ n, sN (fun k => if k = j then c else 0) n = if j < n then c else 0
  | 0 => by rw [sN, if_neg (by omega)]
  | n + 1 => by
    rw [sN, sN_one n]
    by_cases h : n = j
    · rw [if_pos h, if_neg (by omega), if_pos (by omega)]; omega
    · rw [if_neg h]
      by_cases h2 : j < n
      · rw [if_pos h2, if_pos (by omega), Nat.add_zero]
      · rw [if_neg h2, if_neg (by omega)]
theorem sN_0 : ∀ n, sN (fun _ => 0) n = 0
  | 0 => rfl
  | n + 1 => by rw [sN, sN_0 n]
theorem sN_swap {a : Nat → Nat → Nat} {m : Nat} : ∀ n, sN (fun j => sN (fun k => a k j) m) n = sN (fun k => sN (fun j => a k j) n) m
  | 0 => by rw [sN]; exact (sN_0 m).symm
  | n + 1 => by
    rw [sN, sN_swap n]
    rw [← sN_add]
    rfl
/-- each parent stands ahead -/
def vPr (pr : Nat → Int32) (n : Nat) : Prop := ∀ j, j < n → pr j = -1 ∨ ∃ q, q < j ∧ pr j = nI q
theorem fam_ge {pr : Nat → Int32} {n : Nat} (hv : vPr pr n) (hn : n < 2 ^ 31) : ∀ d j k, j < d → j < n → fam pr k j = true → k ≤ j := by
  intro d
  induction d with
  | zero => intro j k h; exact absurd h (Nat.not_lt_zero j)
  | succ d ih =>
    intro j k hd hj hf
    by_cases hjk : j = k
    · omega
    · rcases hv j hj with e | ⟨q, hq, e⟩
      · rw [fam_no hjk (by rw [e]; exact fun z => z.1 (by decide))] at hf
        exact absurd hf (by decide)
      · rw [fam_up hjk hq (by omega) e] at hf
        have := ih q k (by omega) (by omega) hf
        omega
theorem fam_one {pr : Nat → Int32} {n w : Nat} (hv : vPr pr n) (hn : n < 2 ^ 31) (hw : w < n) : ∀ d j, j < d → j < n → sN (fun k => if pr k = nI w ∧ fam pr k j = true then 1 else 0) n = if j ≠ w ∧ fam pr w j = true then 1 else 0 := by
  intro d
  induction d with
  | zero => intro j h; exact absurd h (Nat.not_lt_zero j)
  | succ d ih =>
    intro j hd hj
    rcases hv j hj with e | ⟨q, hq, e⟩
    · have hz : sN (fun k => if pr k = nI w ∧ fam pr k j = true then 1 else 0) n = sN (fun _ => 0) n := sN_c n (fun k _ => by
        refine if_neg (fun z => ?_)
        by_cases hjk : j = k
        · rw [← hjk, e] at z
          exact absurd (show nI w < 0 by rw [← z.1]; decide) (nI_pos (by omega))
        · rw [fam_no hjk (by rw [e]; exact fun z => z.1 (by decide))] at z
          exact absurd z.2 (by decide))
      rw [hz, sN_0]
      by_cases hjw : j = w
      · rw [if_neg (fun z => z.1 hjw)]
      · rw [fam_no hjw (by rw [e]; exact fun z => z.1 (by decide)), if_neg (fun z => absurd z.2 (by decide))]
    · have hs : sN (fun k => if pr k = nI w ∧ fam pr k j = true then 1 else 0) n = sN (fun k => (if pr k = nI w ∧ fam pr k q = true then 1 else 0) + (if k = j then (if q = w then 1 else 0) else 0)) n := sN_c n (fun k _ => by
        by_cases hjk : k = j
        · subst hjk
          have hfq : ¬ fam pr k q = true := fun z => by
            have := fam_ge hv hn (q + 1) q k (by omega) (by omega) z
            omega
          have e1 : (if pr k = nI w ∧ fam pr k q = true then 1 else 0) = 0 := if_neg (fun z => hfq z.2)
          rw [e1, if_pos (rfl : k = k), fam_self, Nat.zero_add]
          by_cases hqw : q = w
          · rw [if_pos hqw, if_pos ⟨by rw [e, hqw], rfl⟩]
          · rw [if_neg hqw, if_neg (fun z => hqw ((nI_eq (by omega) (by omega)).mp (e.symm.trans z.1)))]
        · rw [if_neg hjk, fam_up (fun z => hjk z.symm) hq (by omega) e, Nat.add_zero])
      rw [hs, sN_add, ih q (by omega) (by omega), sN_one, if_pos hj]
      by_cases hjw : j = w
      · subst hjw
        have hfq : ¬ fam pr j q = true := fun z => by
          have := fam_ge hv hn (q + 1) q j (by omega) (by omega) z
          omega
        rw [if_neg (fun z => hfq z.2), if_neg (by omega), if_neg (fun z => z.1 rfl)]
      · rw [fam_up hjw hq (by omega) e]
        by_cases hqw : q = w
        · rw [if_neg (fun z => z.1 hqw), if_pos hqw, if_pos ⟨hjw, by rw [hqw]; exact fam_self _ _⟩]
        · rw [if_neg hqw, Nat.add_zero]
          by_cases hf : fam pr w q = true
          · rw [if_pos ⟨hqw, hf⟩, if_pos ⟨hjw, hf⟩]
          · rw [if_neg (fun z => hf z.2), if_neg (fun z => hf z.2)]
theorem cBg_s {pr : Nat → Int32} {w : Nat} : ∀ n, cBg pr w n = sN (fun j => if j ≠ w ∧ fam pr w j = true then 1 else 0) n
  | 0 => rfl
  | n + 1 => by rw [cBg, sN, cBg_s n]
theorem fam_s {pr : Nat → Int32} {k n : Nat} (hk : k < n) : sN (fun j => if fam pr k j = true then 1 else 0) n = 1 + cBg pr k n := by
  have h : sN (fun j => if fam pr k j = true then 1 else 0) n = sN (fun j => (if j ≠ k ∧ fam pr k j = true then 1 else 0) + (if j = k then 1 else 0)) n := sN_c n (fun j _ => by
    by_cases hjk : j = k
    · subst hjk; simp [fam_self]
    · rw [if_neg hjk, Nat.add_zero]
      by_cases hf : fam pr k j = true
      · rw [if_pos hf, if_pos ⟨hjk, hf⟩]
      · rw [if_neg hf, if_neg (fun z => hf z.2)])
  rw [h, sN_add, sN_one, if_pos hk, ← cBg_s]
  omega
/-- what was begun from a walk: its own branches, each with what was begun from it -/
theorem cBg_tree {pr : Nat → Int32} {n w : Nat} (hv : vPr pr n) (hn : n < 2 ^ 31) (hw : w < n) : cBg pr w n = sN (fun k => if pr k = nI w then 1 + cBg pr k n else 0) n := by
  have h1 : cBg pr w n = sN (fun j => sN (fun k => if pr k = nI w ∧ fam pr k j = true then 1 else 0) n) n := by
    rw [cBg_s]
    exact sN_c n (fun j hj => (fam_one hv hn hw (j + 1) j (by omega) hj).symm)
  rw [h1, sN_swap]
  refine sN_c n (fun k hk => ?_)
  by_cases hp : pr k = nI w
  · rw [if_pos hp, ← fam_s hk]
    refine sN_c n (fun j _ => ?_)
    by_cases hf : fam pr k j = true
    · rw [if_pos ⟨hp, hf⟩, if_pos hf]
    · rw [if_neg (fun z => hf z.2), if_neg hf]
  · rw [if_neg hp]
    rw [sN_c (g := fun _ => 0) n (fun j _ => if_neg (fun z => hp z.1)), sN_0]
theorem cBg_kc {pr : Nat → Int32} {a : Nat} : ∀ n, kc pr a n + cBg pr a n + (if a < n then 1 else 0) = n
  | 0 => by rw [kc, cBg, if_neg (by omega)]
  | n + 1 => by
    have h := cBg_kc (pr := pr) (a := a) n
    rw [kc, cBg]
    by_cases hna : n = a
    · subst hna
      rw [if_neg (by omega)] at h
      rw [fam_self, if_pos rfl, if_neg (fun z => z.1 rfl), if_pos (by omega)]
      omega
    · by_cases hf : fam pr a n = true
      · rw [if_pos hf, if_pos ⟨hna, hf⟩]
        split at h <;> split <;> omega
      · rw [if_neg hf, if_neg (fun z => hf z.2)]
        split at h <;> split <;> omega
theorem vPr_of {S : Nat → Int32} (h : vS S) : vPr (gPr4 S) (nW S) := fun j hj => ((nW_of h).2.2 j hj).2
/-- the law's own sum over the walks below -/
theorem under_eq {S : Nat → Int32} (h : vS S) {w : Nat} (hw : w < nW S) : gSumI (fun k => if aWalkN S k 6 = nI w then 1 + aWalkN S k 8 else 0) (nW S) = aWalkN S w 8 := by
  have h5 := (nW_of h).1
  have hv := vPr_of h
  have e : ∀ m, m ≤ nW S → gSumI (fun k => if aWalkN S k 6 = nI w then 1 + aWalkN S k 8 else 0) m = nI (sN (fun k => if gPr4 S k = nI w then 1 + cBg (gPr4 S) k (nW S) else 0) m) := by
    intro m
    induction m with
    | zero => intro _; rfl
    | succ m ih =>
      intro hm
      rw [gSumI, sN, ih (by omega), ← nI_add]
      congr 1
      show (if (if S (23 + 166 * m + 4) < 0 then (-1000004 : Int32) else S (23 + 166 * m + 4)) = nI w then 1 + nI (cBg (gPr4 S) m (nW S)) else 0) = _
      rcases hv m (by omega) with e | ⟨q, hq, e⟩
      · have e2 : S (23 + 166 * m + 4) = -1 := e
        rw [e2, if_pos (show (-1 : Int32) < 0 by decide), if_neg (fun z => absurd (show nI w < 0 by rw [← z]; decide) (nI_pos (by omega))), e, if_neg (fun z => absurd (show nI w < 0 by rw [← z]; decide) (nI_pos (by omega)))]
        rfl
      · have e2 : S (23 + 166 * m + 4) = nI q := e
        rw [e2, if_neg (nI_pos (by omega)), e]
        split
        · rw [show (1 : Int32) = nI 1 from rfl, nI_add]
        · rfl
  rw [e _ (Nat.le_refl _), ← cBg_tree hv (by omega) hw]
  rfl
theorem swS_0 {S : Nat → Int32} : swS S 0 = gSumI (fun k => aWalkN S k 0) (nW S) := rfl
theorem swS_1 {S : Nat → Int32} : swS S 1 = gSumI (fun k => aWalkN S k 4) (nW S) := gSumI_c _ (fun k _ => if_neg (by decide))
theorem swS_2 {S : Nat → Int32} : swS S 2 = gSumI (fun k => aWalkN S k 5) (nW S) := gSumI_c _ (fun k _ => if_neg (by decide))
/-- steps: how many, and where they end -/
theorem wk_of {a : Nat} : ∀ d S, vS S → a < nW S → (wkR (23 + 166 * a) d S).2 ≤ d ∧ szW (wkR (23 + 166 * a) d S).1 (23 + 166 * a) = szW S (23 + 166 * a) + (wkR (23 + 166 * a) d S).2 ∧ ((wkR (23 + 166 * a) d S).2 = d ∨ gStop (wkR (23 + 166 * a) d S).1 (23 + 166 * a)) ∧ nW (wkR (23 + 166 * a) d S).1 = nW S
  | 0, _, _, _ => ⟨Nat.le_refl _, rfl, Or.inl rfl, rfl⟩
  | d + 1, S, h, ha => by
    rw [wkR]
    by_cases hs : gStop S (23 + 166 * a)
    · rw [if_pos hs]; exact ⟨Nat.zero_le _, rfl, Or.inr hs, rfl⟩
    · rw [if_neg hs]
      obtain ⟨w5, w1, wk⟩ := nW_of h
      obtain ⟨⟨z, hv⟩, _⟩ := wk a ha
      have hz := gStop_z hv hs
      have h2 := vS_st h ha hv hz
      have h3 := stR_v h.2.1 (by omega) hv hz
      have e3 := stR_3 hv hz
      by_cases hb : (stR S (23 + 166 * a)).2 = true
      · rw [if_pos hb] at h3 ⊢
        obtain ⟨a1, a2, a3, a4⟩ := wk_of d _ h2.1 (by rw [h2.2]; exact ha)
        refine ⟨by show _ + 1 ≤ _; omega, ?_, ?_, a4.trans h2.2⟩
        · show szW (wkR _ d _).1 _ = _ + (_ + 1)
          rw [a2, szW_v h3, szW_v hv]; omega
        · rcases a3 with a3 | a3
          · left; show _ + 1 = _ + 1; omega
          · exact Or.inr a3
      · rw [if_neg hb] at h3 ⊢
        refine ⟨Nat.zero_le _, by show szW _ _ = _ + 0; rw [szW_v h3, szW_v hv], Or.inr (Or.inl ?_), h2.2⟩
        show (stR S (23 + 166 * a)).1 _ = 1
        rw [e3, if_neg hb]
/-- texts -/
theorem rfG_f {tx : Nat → Int32} {ln : Nat} : ∀ d p n sg F, p ≤ ln → n + d ≤ 5 → (∃ m, 1 ≤ m ∧ m ≤ 6 ∧ (rfG tx ln (d + 1) p n sg F).2.2.2 0 = nI m) ∧ (rfG tx ln (d + 1) p n sg F).2.1 ≤ ln ∧ ((rfG tx ln (d + 1) p n sg F).2.2.1 = 1 ∨ (rfG tx ln (d + 1) p n sg F).2.2.1 = 2 ∨ (rfG tx ln (d + 1) p n sg F).2.2.1 = 3)
  | 0, p, n, sg, F, hp, hn => by
    have hle := rfT_le (tx := tx) hp
    rw [rfG]
    split
    · split
      · exact ⟨⟨n + 1, by omega, by omega, adF_0 (s := F) (f := rfA tx ln p sg) (x := nI (rfT tx ln p).2.1) (y := nI (rfT tx ln p).2.2)⟩, hle.1, Or.inr (Or.inr rfl)⟩
      · rename_i hc _
        rw [rfG]
        exact ⟨⟨n + 1, by omega, by omega, adF_0 (s := F) (f := rfA tx ln p sg) (x := nI (rfT tx ln p).2.1) (y := nI (rfT tx ln p).2.2)⟩, hc.2.1, Or.inl rfl⟩
    · refine ⟨⟨n + 1, by omega, by omega, adF_0 (s := F) (f := rfA tx ln p sg) (x := nI (rfT tx ln p).2.1) (y := nI (rfT tx ln p).2.2)⟩, hle.1, ?_⟩
      show rfR tx ln p = 1 ∨ rfR tx ln p = 2 ∨ rfR tx ln p = 3
      unfold rfR
      split
      · exact Or.inr (Or.inl rfl)
      · exact Or.inl rfl
  | d + 1, p, n, sg, F, hp, hn => by
    have hle := rfT_le (tx := tx) hp
    rw [rfG]
    split
    · split
      · exact ⟨⟨n + 1, by omega, by omega, adF_0 (s := F) (f := rfA tx ln p sg) (x := nI (rfT tx ln p).2.1) (y := nI (rfT tx ln p).2.2)⟩, hle.1, Or.inr (Or.inr rfl)⟩
      · rename_i hc _
        exact rfG_f d _ (n + 1) _ _ hc.2.1 (by omega)
    · refine ⟨⟨n + 1, by omega, by omega, adF_0 (s := F) (f := rfA tx ln p sg) (x := nI (rfT tx ln p).2.1) (y := nI (rfT tx ln p).2.2)⟩, hle.1, ?_⟩
      show rfR tx ln p = 1 ∨ rfR tx ln p = 2 ∨ rfR tx ln p = 3
      unfold rfR
      split
      · exact Or.inr (Or.inl rfl)
      · exact Or.inl rfl
theorem rfAll_f {tx : Nat → Int32} {ln : Nat} {S : Nat → Int32} : (∃ m, 1 ≤ m ∧ m ≤ 6 ∧ (rfAll tx ln S).2.2.2 0 = nI m) ∧ (rfAll tx ln S).2.1 ≤ ln ∧ ((rfAll tx ln S).2.2.1 = 1 ∨ (rfAll tx ln S).2.2.1 = 2 ∨ (rfAll tx ln S).2.2.1 = 3) := by
  unfold rfAll
  refine rfG_f 5 _ 0 _ _ ?_ (by decide)
  split
  · rename_i h; exact h.1
  · exact Nat.zero_le _
