/-! what acts tell -/
theorem inW {S : Nat → Int32} (h : vS S) {a : Nat} (ha : a < nW S) : inI (nI a) 0 (S 1 - 1) := by
  have h5 := (nW_of h).1
  rw [(nW_of h).2.1]
  exact (isW (by omega)).mpr ⟨a, ha, rfl⟩
theorem not_inW {S : Nat → Int32} (h : vS S) : ¬ inI (nI (nW S)) 0 (S 1 - 1) := by
  have h5 := (nW_of h).1
  rw [(nW_of h).2.1]
  intro z
  obtain ⟨k, hk, e⟩ := (isW (by omega)).mp z
  have := (nI_eq (by omega) (by omega)).mp e
  omega
theorem inI_450 {u : Nat} (hu : u < 900) : inI (nI u - 450) (-1024) 1024 := by
  rw [show (450 : Int32) = nI 450 from rfl]
  unfold inI
  rw [Int32.lt_iff_toInt_lt, Int32.lt_iff_toInt_lt, pk_sub_toInt (by omega) (by decide), show (-1024 : Int32).toInt = -1024 by decide, show (1024 : Int32).toInt = 1024 by decide]
  omega
theorem inB_ne {x : Int64} (h : inB x) : ¬ x.toInt32 = -1000004 := by
  intro z
  have e := inB_tt h
  rw [z] at e
  rw [← e] at h
  exact absurd h.1 (by decide)
theorem aCorr_0 {S : Nat → Int32} {p q : Int32} {c : Int64 × Int64 × Nat} (hp : inI p (-1024) 1024) (hq : inI q (-1024) 1024) (hc : gCor (tF S) (tP S) (tQ S) (tN S) (tM S) 0 p.toInt64 q.toInt64 = some c) : aCorr S p q 0 = c.1.toInt32 := by
  unfold aCorr
  rw [if_pos ⟨hp, hq, by decide⟩, hc]
  rfl
theorem aCorr_n {S : Nat → Int32} {p q : Int32} (hp : inI p (-1024) 1024) (hq : inI q (-1024) 1024) (hc : gCor (tF S) (tP S) (tQ S) (tN S) (tM S) 0 p.toInt64 q.toInt64 = none) : aCorr S p q 0 = -1000004 := by
  unfold aCorr
  rw [if_pos ⟨hp, hq, by decide⟩, hc]
  rfl
theorem aBegin_bad {S : Nat → Int32} {p q : Int32} : aBegin S p q 0 = (-1000001, none) := by
  unfold aBegin
  exact if_neg (fun z => z.2.2.elim (by decide) (by decide))
theorem aBegin_n {S : Nat → Int32} {p q sg : Int32} (hp : inI p (-1024) 1024) (hq : inI q (-1024) 1024) (hs : sg = 1 ∨ sg = -1) (hc : gCor (tF S) (tP S) (tQ S) (tN S) (tM S) 0 p.toInt64 q.toInt64 = none) : aBegin S p q sg = (-1000002, none) := by
  unfold aBegin
  rw [if_pos ⟨hp, hq, hs⟩, hc]
  rfl
theorem aBegin_5 {S : Nat → Int32} {p q sg : Int32} {c : Int64 × Int64 × Nat} (hp : inI p (-1024) 1024) (hq : inI q (-1024) 1024) (hs : sg = 1 ∨ sg = -1) (hc : gCor (tF S) (tP S) (tQ S) (tN S) (tM S) 0 p.toInt64 q.toInt64 = some c) (h5 : nW S = 5) : aBegin S p q sg = (-1000003, none) := by
  unfold aBegin
  rw [if_pos ⟨hp, hq, hs⟩, hc]
  exact if_pos h5
theorem aBegin_y {S : Nat → Int32} {p q sg : Int32} {c : Int64 × Int64 × Nat} (hp : inI p (-1024) 1024) (hq : inI q (-1024) 1024) (hs : sg = 1 ∨ sg = -1) (hc : gCor (tF S) (tP S) (tQ S) (tN S) (tM S) 0 p.toInt64 q.toInt64 = some c) (h5 : ¬ nW S = 5) : aBegin S p q sg = (nI (nW S), some (oF S (nW S) sg (-1) (-1) c)) := by
  unfold aBegin
  rw [if_pos ⟨hp, hq, hs⟩, hc]
  exact if_neg h5
/-- a new walk, told -/
theorem op_told {S : Nat → Int32} {sg p f : Int32} {c : Int64 × Int64 × Nat} (h5 : nW S < 5) (hF : vS (oF S (nW S) sg p f c)) : aWalkOf (oF S (nW S) sg p f c) (nI (nW S)) 0 = 1 ∧ aWalkOf (oF S (nW S) sg p f c) (nI (nW S)) 1 = sg ∧ aPlaceOf (oF S (nW S) sg p f c) (nI (nW S)) 0 0 = c.1.toInt32 ∧ (¬ p < 0 → aWalkOf (oF S (nW S) sg p f c) (nI (nW S)) 6 = p ∧ aWalkOf (oF S (nW S) sg p f c) (nI (nW S)) 7 = f) := by
  obtain ⟨o0, o1, o2, o3, o4, o5⟩ := oF_w (S := S) (k := nW S) (sg := sg) (p := p) (f := f) (c := c)
  obtain ⟨p0, p1, p2, p3⟩ := oF_p (S := S) (k := nW S) (sg := sg) (p := p) (f := f) (c := c)
  have en : nW (oF S (nW S) sg p f c) = nW S + 1 := by
    show (oF S (nW S) sg p f c 1).toNatClampNeg = _
    rw [oF_1, nI_clamp (by omega)]
  have hn : nW S < nW (oF S (nW S) sg p f c) := by omega
  have hz : 0 < szW (oF S (nW S) sg p f c) (23 + 166 * nW S) := by unfold szW; rw [o0]; decide
  refine ⟨(aWalkOf_at hF hn (c := 0) (by decide)).trans o0, (aWalkOf_at hF hn (c := 1) (by decide)).trans o1, (aPlaceOf_at hF hn (p := 0) hz (c := 0) (by decide)).trans p0, fun hp => ⟨?_, ?_⟩⟩
  · refine (aWalkOf_at hF hn (c := 6) (by decide)).trans ?_
    show (if oF S (nW S) sg p f c (23 + 166 * nW S + 4) < 0 then (-1000004 : Int32) else oF S (nW S) sg p f c (23 + 166 * nW S + 4)) = p
    rw [o4, if_neg hp]
  · refine (aWalkOf_at hF hn (c := 7) (by decide)).trans ?_
    show (if oF S (nW S) sg p f c (23 + 166 * nW S + 4) < 0 then (-1000004 : Int32) else oF S (nW S) sg p f c (23 + 166 * nW S + 5)) = f
    rw [o4, if_neg hp, o5]
theorem aCorr_oF {S : Nat → Int32} {sg p f u v w : Int32} {c : Int64 × Int64 × Nat} : aCorr (oF S (nW S) sg p f c) u v w = aCorr S u v w := by
  obtain ⟨e1, e2, e3, e4, e5⟩ := t_eq (s := S) (s' := oF S (nW S) sg p f c) (fun j h1 h2 => oF_o h2 (by omega))
  unfold aCorr
  rw [e1, e2, e3, e4, e5]
/-- steps, told -/
theorem aStep_K {S : Nat → Int32} {a K : Nat} (h : K = 0 ∨ K = 41) : aStep S (nI a) (nI K) = (-1000001, none) := by
  unfold aStep
  exact if_neg (fun z => by rcases h with rfl | rfl <;> exact absurd z.2 (by decide))
theorem aStep_no {S : Nat → Int32} (h : vS S) {k : Int32} : aStep S (nI (nW S)) k = (-1000001, none) := by
  unfold aStep
  exact if_neg (fun z => not_inW h z.1)
theorem aStep_st {S : Nat → Int32} (h : vS S) {a K : Nat} (ha : a < nW S) (h1 : 1 ≤ K) (h2 : K ≤ 40) (hs : gStop S (23 + 166 * a)) : aStep S (nI a) (nI K) = (-1000002, none) := by
  have h5 := (nW_of h).1
  unfold aStep
  rw [if_pos ⟨inW h ha, inI_of (a := 1) (b := 40) h1 h2 (by decide)⟩, nI_clamp (by omega), if_pos hs]
theorem aStep_y {S : Nat → Int32} (h : vS S) {a K : Nat} (ha : a < nW S) (h1 : 1 ≤ K) (h2 : K ≤ 40) (hs : ¬ gStop S (23 + 166 * a)) : aStep S (nI a) (nI K) = (nI (wkR (23 + 166 * a) K S).2, some (wkR (23 + 166 * a) K S).1) := by
  have h5 := (nW_of h).1
  unfold aStep
  rw [if_pos ⟨inW h ha, inI_of (a := 1) (b := 40) h1 h2 (by decide)⟩, nI_clamp (by omega), if_neg hs, nI_clamp (by omega)]
theorem w3_of {S : Nat → Int32} (h : vS S) {a : Nat} (ha : a < nW S) : (gStop S (23 + 166 * a) → ¬ aWalkOf S (nI a) 3 ≤ 0) ∧ (¬ gStop S (23 + 166 * a) → aWalkOf S (nI a) 3 = 0) := by
  have e3 : aWalkOf S (nI a) 3 = stS S (23 + 166 * a) := aWalkOf_at h ha (c := 3) (by decide)
  rw [e3]
  refine ⟨fun hs => ?_, fun hs => gStop_0 hs⟩
  show ¬ (if S (23 + 166 * a + 3) = 1 then (1 : Int32) else if S (23 + 166 * a) = 40 then 2 else 0) ≤ 0
  rcases hs with hs | hs
  · rw [if_pos hs]; decide
  · rw [if_pos hs]; split <;> decide
theorem w0_of {S : Nat → Int32} (h : vS S) {a : Nat} (ha : a < nW S) : aWalkOf S (nI a) 0 = nI (szW S (23 + 166 * a)) := by
  obtain ⟨⟨z, hz⟩, _⟩ := (nW_of h).2.2 a ha
  exact (aWalkOf_at h ha (c := 0) (by decide)).trans (hz.1.trans (by rw [szW_v hz]))
/-- branches, told -/
theorem aBranch_no {S : Nat → Int32} (h : vS S) {p sd : Int32} : aBranch S (nI (nW S)) p sd = (-1000001, none) := by
  unfold aBranch
  exact if_neg (fun z => not_inW h z.1)
theorem aBranch_k {S : Nat → Int32} (h : vS S) {a : Nat} (ha : a < nW S) {sd : Int32} : aBranch S (nI a) (nI (szW S (23 + 166 * a))) sd = (-1000001, none) := by
  have h5 := (nW_of h).1
  obtain ⟨⟨z, hz⟩, _⟩ := (nW_of h).2.2 a ha
  unfold aBranch
  refine if_neg (fun q => ?_)
  have q2 := q.2.1
  rw [nI_clamp (by omega), hz.1, szW_v hz] at q2
  obtain ⟨k, hk, e⟩ := (isW (by have := hz.2.1; omega)).mp q2
  have := (nI_eq (by have := hz.2.1; omega) (by have := hz.2.1; omega)).mp e
  omega
theorem aBranch_in {S : Nat → Int32} (h : vS S) {a k : Nat} (ha : a < nW S) (hk : k < szW S (23 + 166 * a)) {sd : Int32} (hs : sd = 1 ∨ sd = -1) : aBranch S (nI a) (nI k) sd = if S (23 + 166 * a + 6 + 4 * k + 3) = 2 then aBrn S (nI a) (nI k) sd (k - 1) (brC S (23 + 166 * a) (k - 1) sd) else (-1000002, none) := by
  have h5 := (nW_of h).1
  obtain ⟨⟨z, hz⟩, _⟩ := (nW_of h).2.2 a ha
  have h40 := hz.2.1
  rw [szW_v hz] at hk
  unfold aBranch
  rw [nI_clamp (by omega), nI_clamp (by omega), if_pos ⟨inW h ha, by rw [hz.1]; exact (isW (by omega)).mpr ⟨k, hk, rfl⟩, hs⟩]
theorem aBrn_some {S : Nat → Int32} {a b : Nat} {p sd : Int32} {c : Int64 × Int64 × Nat} (ha : a < 100) : aBrn S (nI a) p sd b (some c) = if nW S = 5 then (-1000003, none) else (nI (nW S), some (oF S (nW S) (brS S (23 + 166 * a) b sd c) (nI a) p c)) := by
  have e : aBrn S (nI a) p sd b (some c) = aOpen S (brS S (23 + 166 * (nI a).toNatClampNeg) b sd c) (nI a) p (some c) := rfl
  rw [e, nI_clamp (by omega)]
  rfl
/-- a drop, told -/
theorem drop_n {S : Nat → Int32} (h : vS S) {a : Nat} (ha : a < nW S) : nI (kc (gPr4 S) a (nW S)) = nI (nW S) - 1 - aWalkOf S (nI a) 8 := by
  have h5 := (nW_of h).1
  have e8 : aWalkOf S (nI a) 8 = nI (cBg (gPr4 S) a (nW S)) := aWalkOf_at h ha (c := 8) (by decide)
  have hk := cBg_kc (pr := gPr4 S) (a := a) (nW S)
  rw [if_pos ha] at hk
  rw [e8, show (1 : Int32) = nI 1 from rfl, pk_sub (by omega), pk_sub (by omega)]
  congr 1
  omega
/-- settings, told -/
theorem aSet_3 {S : Nat → Int32} {v : Int32} : aSet S 3 v = (-1000001, none) := by
  unfold aSet
  refine if_neg (fun z => ?_)
  rcases z with ⟨z, _⟩ | ⟨z, _⟩ | ⟨z, _⟩ <;> exact absurd z (by decide)
theorem aSet_n {S : Nat → Int32} {q g : Nat} (hq : q < 3) (hg : g < 24) (hb : g = 0 ∨ (q = 2 ∧ (g < 2 ∨ 20 < g))) : aSet S (nI q) (nI g) = (-1000001, none) := by
  unfold aSet
  refine if_neg (fun z => ?_)
  have n1 : ∀ lo hi : Nat, lo < 2 ^ 30 → hi < 2 ^ 30 → inI (nI g) (nI lo) (nI hi) → lo ≤ g ∧ g ≤ hi := fun lo hi hl hh z => by
    refine ⟨?_, ?_⟩
    · rcases Nat.lt_or_ge g lo with y | y
      · exact absurd (nI_lt y (by omega)) z.1
      · exact y
    · rcases Nat.lt_or_ge hi g with y | y
      · exact absurd (nI_lt y (by omega)) z.2
      · exact y
  rcases z with ⟨z, w⟩ | ⟨z, w⟩ | ⟨z, w⟩
  · have e := (nI_eq (a := q) (b := 0) (by omega) (by decide)).mp z
    have := n1 1 64 (by decide) (by decide) w
    omega
  · have e := (nI_eq (a := q) (b := 1) (by omega) (by decide)).mp z
    have := n1 1 128 (by decide) (by decide) w
    omega
  · have e := (nI_eq (a := q) (b := 2) (by omega) (by decide)).mp z
    have := n1 2 20 (by decide) (by decide) w
    omega
theorem aSet_y {S : Nat → Int32} {q g : Nat} (hq : q < 3) (hg : g < 24) (h0 : g ≠ 0) (h2 : q = 2 → 2 ≤ g ∧ g ≤ 20) : (aSet S (nI q) (nI g)).1 = S (2 + q) := by
  unfold aSet
  have hok : gAl (nI q) (nI g) := by
    rcases (show q = 0 ∨ q = 1 ∨ q = 2 by omega) with rfl | rfl | rfl
    · exact Or.inl ⟨rfl, inI_of (a := 1) (b := 64) (by omega) (by omega) (by decide)⟩
    · exact Or.inr (Or.inl ⟨rfl, inI_of (a := 1) (b := 128) (by omega) (by omega) (by decide)⟩)
    · exact Or.inr (Or.inr ⟨rfl, inI_of (a := 2) (b := 20) (h2 rfl).1 (h2 rfl).2 (by decide)⟩)
  rw [if_pos hok, nI_clamp (by omega)]
theorem aCount_10 {S : Nat → Int32} {n ln q : Nat} (hq : q < 3) : aCount S n ln (10 + nI q) = S (2 + q) := by
  rcases (show q = 0 ∨ q = 1 ∨ q = 2 by omega) with rfl | rfl | rfl <;> rfl
/-- terms, told -/
theorem aCount_t {S : Nat → Int32} {n ln : Nat} (h : vS S) : aCount S n ln 0 = nI (tN S) := h.1.1.2.1
theorem okT_of {u g e : Nat} (hu : u < 11) (hg : g < 4) (he : e < 4) : okT (nI u - 5) (nI g) (nI e) ↔ ¬ nI u - 5 = 0 ∧ nI g + nI e ≤ 3 := by
  refine ⟨fun z => ⟨z.2.1, z.2.2.2.2⟩, fun z => ⟨?_, z.1, inI_of (a := 0) (b := 3) (by omega) (by omega) (by decide), inI_of (a := 0) (b := 3) (by omega) (by omega) (by decide), z.2⟩⟩
  have e5 : nI u - 5 = nI u - nI 5 := rfl
  rw [e5]
  unfold inI
  rw [Int32.lt_iff_toInt_lt, Int32.lt_iff_toInt_lt, pk_sub_toInt (by omega) (by decide), show (-5 : Int32).toInt = -5 by decide, show (5 : Int32).toInt = 5 by decide]
  omega
theorem aTerm_b {S : Nat → Int32} {u g e : Nat} (hu : u < 11) (hg : g < 4) (he : e < 4) (h : nI u - 5 = 0 ∨ ¬ nI g + nI e ≤ 3) : (aTerm S (nI u - 5) (nI g) (nI e)).1 = -1000001 := by
  unfold aTerm
  rw [if_neg (fun z => by
    have := (okT_of hu hg he).mp z
    rcases h with h | h
    · exact this.1 h
    · exact h this.2)]
theorem aTerm_6 {S : Nat → Int32} {u g e : Nat} (hu : u < 11) (hg : g < 4) (he : e < 4) (h : ¬ nI u - 5 = 0) (h3 : nI g + nI e ≤ 3) (h6 : tN S = 6) : (aTerm S (nI u - 5) (nI g) (nI e)).1 = -1000003 := by
  unfold aTerm
  rw [if_pos ((okT_of hu hg he).mpr ⟨h, h3⟩), if_pos h6]
theorem aTerm_y {S : Nat → Int32} {u g e : Nat} (hu : u < 11) (hg : g < 4) (he : e < 4) (h : ¬ nI u - 5 = 0) (h3 : nI g + nI e ≤ 3) (h6 : ¬ tN S = 6) : (aTerm S (nI u - 5) (nI g) (nI e)).1 = nI (tN S + 1) := by
  unfold aTerm
  rw [if_pos ((okT_of hu hg he).mpr ⟨h, h3⟩), if_neg h6]
theorem aDropT_e {S : Nat → Int32} (h : tN S ≤ 6) : aDropT S (nI (tN S)) = (-1000002, none) := by
  unfold aDropT
  rw [if_neg (nI_pos (by omega)), if_pos (Int32.le_refl _)]
theorem aDropT_y {S : Nat → Int32} (h : tN S ≤ 6) {k : Nat} (hk : k < tN S) : aDropT S (nI k) = (S (5 + 3 * k), some (rmF S (tN S - 1) k)) := by
  unfold aDropT
  rw [if_neg (nI_pos (by omega)), if_neg (nI_ge hk (by omega)), nI_clamp (by omega)]
theorem aTermOf_0 {S : Nat → Int32} (h : tN S ≤ 6) {k : Nat} (hk : k < tN S) : aTermOf S (nI k) 0 = S (5 + 3 * k) := by
  unfold aTermOf
  rw [if_pos ⟨nI_pos (by omega), by decide⟩, if_pos (nI_lt hk (by omega)), nI_clamp (by omega)]
  rfl
theorem rmF_1 {S : Nat → Int32} {m k : Nat} : rmF S m k 1 = 0 := by unfold rmF; exact upd_s
