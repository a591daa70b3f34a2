/-! the class's reading is the reference's -/
section RD
variable {tx : Nat → Int32} {ln n x y : Nat} {t : Nat → Nat → Int32} {ph sg dg ch : Int32}
theorem tk_let (h : ch = 120 ∨ ch = 121) (h3 : x + y < 3) : rTake ch (rMk n t ph sg dg x y) = (0, rMk n t 2 sg dg (x + if ch = 120 then 1 else 0) (y + if ch = 121 then 1 else 0)) := by
  unfold rTake
  rcases h with rfl | rfl
  · rw [if_neg (by decide), if_neg (fun z => absurd z.2 (by decide)), if_pos (Or.inl rfl)]
    unfold rLet
    rw [if_neg (show ¬ 3 ≤ (rMk n t ph sg dg x y).2.2.2.2.2.1 + (rMk n t ph sg dg x y).2.2.2.2.2.2 from fun z => by have z : 3 ≤ x + y := z; omega)]
    rfl
  · rw [if_neg (by decide), if_neg (fun z => absurd z.2 (by decide)), if_pos (Or.inr rfl)]
    unfold rLet
    rw [if_neg (show ¬ 3 ≤ (rMk n t ph sg dg x y).2.2.2.2.2.1 + (rMk n t ph sg dg x y).2.2.2.2.2.2 from fun z => by have z : 3 ≤ x + y := z; omega)]
    rfl
theorem tk_let4 (h : ch = 120 ∨ ch = 121) (h3 : 3 ≤ x + y) : rTake ch (rMk n t ph sg dg x y) = (2, rMk n t ph sg dg x y) := by
  unfold rTake
  have e1 : ¬ (ch = 43 ∨ ch = 45) := by rcases h with rfl | rfl <;> decide
  have e2 : ¬ inI ch 49 53 := by rcases h with rfl | rfl <;> exact fun z => absurd z.2 (by decide)
  rw [if_neg e1, if_neg e2, if_pos h]
  unfold rLet
  rw [if_pos (show 3 ≤ (rMk n t ph sg dg x y).2.2.2.2.2.1 + (rMk n t ph sg dg x y).2.2.2.2.2.2 from h3)]
theorem dg_ns (h : inI ch 49 53) : ¬ (ch = 43 ∨ ch = 45) := by
  intro z
  rcases z with rfl | rfl
  · exact h.1 (by decide)
  · exact h.1 (by decide)
theorem tk_dig (h : inI ch 49 53) (hp : ¬ ph = 2) : rTake ch (rMk n t ph sg dg x y) = (0, rMk n t 2 sg (ch - 48) x y) := by
  unfold rTake
  rw [if_neg (dg_ns h), if_pos h]
  unfold rDig
  rw [if_neg (show ¬ (rMk n t ph sg dg x y).2.2.1 = 2 from hp)]
  rfl
theorem tk_dig2 (h : inI ch 49 53) : rTake ch (rMk n t 2 sg dg x y) = (1, rMk n t 2 sg dg x y) := by
  unfold rTake
  rw [if_neg (dg_ns h), if_pos h]
  unfold rDig
  rw [if_pos (show (rMk n t 2 sg dg x y).2.2.1 = 2 from rfl)]
theorem tk_mis (h : ch = 43 ∨ ch = 45) (hp : ph = 1 ∨ (ph = 0 ∧ ¬ ch = 45)) : rTake ch (rMk n t ph sg dg x y) = (1, rMk n t ph sg dg x y) := by
  unfold rTake
  rw [if_pos h]
  unfold rSign
  rw [if_pos]
  rcases hp with e | ⟨e, e2⟩
  · exact Or.inl e
  · exact Or.inr ⟨e, if_neg e2⟩
theorem tk_oth (h1 : ¬ (ch = 43 ∨ ch = 45)) (h2 : ¬ inI ch 49 53) (h3 : ¬ (ch = 120 ∨ ch = 121)) {S : rS} : rTake ch S = (1, S) := by
  unfold rTake
  rw [if_neg h1, if_neg h2, if_neg h3]
/-- the terms with one more behind -/
def clT (n : Nat) (t : Nat → Nat → Int32) (f : Int32) (x y : Nat) : Nat → Nat → Int32 := fun c j => if j = n then (if c = 0 then f else if c = 1 then nI x else nI y) else t c j
theorem tk_sg (h : ch = 43 ∨ ch = 45) (hn : ¬ n + 1 = 6) : rTake ch (rMk n t 2 sg dg x y) = (0, rMk (n + 1) (clT n t (sg * dg) x y) 1 (if ch = 45 then -1 else 1) 1 0 0) := by
  unfold rTake
  rw [if_pos h]
  unfold rSign
  rw [if_neg (show ¬ ((rMk n t 2 sg dg x y).2.2.1 = 1 ∨ ((rMk n t 2 sg dg x y).2.2.1 = 0 ∧ (if ch = 45 then (-1) else 1 : Int32) = 1)) from fun z => by rcases z with z | z; exact absurd (show (2 : Int32) = 1 from z) (by decide); exact absurd (show (2 : Int32) = 0 from z.1) (by decide)),
    if_pos (show (rMk n t 2 sg dg x y).2.2.1 = 2 from rfl), if_neg (show ¬ (rMk n t 2 sg dg x y).1 + 1 = 6 from hn)]
  rfl
theorem tk_sg6 (h : ch = 43 ∨ ch = 45) (hn : n + 1 = 6) : rTake ch (rMk n t 2 sg dg x y) = (3, rClose (rMk n t 2 sg dg x y)) := by
  unfold rTake
  rw [if_pos h]
  unfold rSign
  rw [if_neg (show ¬ ((rMk n t 2 sg dg x y).2.2.1 = 1 ∨ ((rMk n t 2 sg dg x y).2.2.1 = 0 ∧ (if ch = 45 then (-1) else 1 : Int32) = 1)) from fun z => by rcases z with z | z; exact absurd (show (2 : Int32) = 1 from z) (by decide); exact absurd (show (2 : Int32) = 0 from z.1) (by decide)),
    if_pos (show (rMk n t 2 sg dg x y).2.2.1 = 2 from rfl), if_pos (show (rMk n t 2 sg dg x y).1 + 1 = 6 from hn)]
theorem rs_go {p : Nat} {S S' : rS} (hp : p < ln) (h : rTake (tx p) S = (0, S')) : rScan tx (ln - p) p S = rScan tx (ln - (p + 1)) (p + 1) S' := by
  rw [show ln - p = ln - (p + 1) + 1 by omega, rScan, h, if_pos rfl]
theorem rs_no {p : Nat} {S S' : rS} {q : Int32} (hp : p < ln) (hq : ¬ q = 0) (h : rTake (tx p) S = (q, S')) : rScan tx (ln - p) p S = (q, p, S') := by
  rw [show ln - p = ln - (p + 1) + 1 by omega, rScan, h, if_neg hq]
theorem rs_end {S : rS} (h : S.2.2.1 = 2) : rScan tx (ln - ln) ln S = (0, ln, rClose S) := by
  rw [Nat.sub_self, rScan, if_pos h]
theorem rs_end1 {S : rS} (h : ¬ S.2.2.1 = 2) : rScan tx (ln - ln) ln S = (1, ln, S) := by
  rw [Nat.sub_self, rScan, if_neg h]
theorem lt_one {ch : Int32} (h : ch = 120 ∨ ch = 121) : (if ch = 120 then 1 else 0) + (if ch = 121 then 1 else 0) = 1 := by rcases h with rfl | rfl <;> rfl
theorem rfL_ct : ∀ d p x y, (rfL tx ln d p x y).1 + (x + y) = p + ((rfL tx ln d p x y).2.1 + (rfL tx ln d p x y).2.2)
  | 0, p, x, y => rfl
  | d + 1, p, x, y => by
    rw [rfL]
    by_cases hx : rfX tx ln p
    · rw [if_pos hx]
      have h := rfL_ct d (p + 1) (x + if tx p = 120 then 1 else 0) (y + if tx p = 121 then 1 else 0)
      have e := lt_one hx.2
      omega
    · rw [if_neg hx]
theorem rfL_stop : ∀ d p x y, x + y + d = 3 → (rfL tx ln d p x y).2.1 + (rfL tx ln d p x y).2.2 < 3 → ¬ rfX tx ln (rfL tx ln d p x y).1
  | 0, p, x, y, h, h2 => by
    have h2 : x + y < 3 := h2
    omega
  | d + 1, p, x, y, h, h2 => by
    rw [rfL] at h2 ⊢
    by_cases hx : rfX tx ln p
    · rw [if_pos hx] at h2 ⊢
      have e := lt_one hx.2
      exact rfL_stop d _ _ _ (by omega) h2
    · rw [if_neg hx] at h2 ⊢
      exact hx
theorem rfL_ge : ∀ d p x y, p ≤ (rfL tx ln d p x y).1
  | 0, p, x, y => Nat.le_refl p
  | d + 1, p, x, y => by
    rw [rfL]
    by_cases hx : rfX tx ln p
    · rw [if_pos hx]; have := rfL_ge d (p + 1) (x + if tx p = 120 then 1 else 0) (y + if tx p = 121 then 1 else 0); omega
    · rw [if_neg hx]; exact Nat.le_refl p
theorem rs_let : ∀ d p x y ph, x + y + d = 3 → rScan tx (ln - p) p (rMk n t ph sg dg x y) = rScan tx (ln - (rfL tx ln d p x y).1) (rfL tx ln d p x y).1 (rMk n t (if (rfL tx ln d p x y).1 = p then ph else 2) sg dg (rfL tx ln d p x y).2.1 (rfL tx ln d p x y).2.2)
  | 0, p, x, y, ph, h => by
    rw [show rfL tx ln 0 p x y = (p, x, y) from rfl]
    dsimp only
    rw [if_pos rfl]
  | d + 1, p, x, y, ph, h => by
    rw [rfL]
    by_cases hx : rfX tx ln p
    · have e := lt_one hx.2
      have hs := tk_let (n := n) (t := t) (ph := ph) (sg := sg) (dg := dg) hx.2 (show x + y < 3 by omega)
      rw [if_pos hx]
      generalize hx1 : x + (if tx p = 120 then 1 else 0) = x1 at hs
      generalize hy1 : y + (if tx p = 121 then 1 else 0) = y1 at hs
      rw [rs_go hx.1 hs, rs_let d (p + 1) x1 y1 2 (by omega), ite_self]
      have hge := rfL_ge (tx := tx) (ln := ln) d (p + 1) x1 y1
      rw [if_neg (by omega)]
    · rw [if_neg hx]
      dsimp only
      rw [if_pos rfl]
/-- a term: behind it, if there is one -/
theorem rs_term {p : Nat} (hp : ¬ ph = 2) (h : rfD tx ln p ∨ 0 < (rfT tx ln p).2.1 + (rfT tx ln p).2.2) : rScan tx (ln - p) p (rMk n t ph sg 1 0 0) = rScan tx (ln - (rfT tx ln p).1) (rfT tx ln p).1 (rMk n t 2 sg (if rfD tx ln p then tx p - 48 else 1) (rfT tx ln p).2.1 (rfT tx ln p).2.2) := by
  by_cases hd : rfD tx ln p
  · have e : rfT tx ln p = rfL tx ln 3 (p + 1) 0 0 := by unfold rfT; rw [if_pos hd]
    rw [e, if_pos hd, rs_go hd.1 (tk_dig hd.2 hp), rs_let 3 (p + 1) 0 0 2 rfl, ite_self]
  · have e : rfT tx ln p = rfL tx ln 3 p 0 0 := by unfold rfT; rw [if_neg hd, Nat.add_zero]
    rw [e] at h ⊢
    have hc := rfL_ct (tx := tx) (ln := ln) 3 p 0 0
    have h2 := h.elim (fun z => absurd z hd) id
    rw [if_neg hd, rs_let 3 p 0 0 ph rfl, if_neg (by omega)]
/-- no term -/
theorem rs_none {p : Nat} (hpl : p ≤ ln) (hp : ph = 1 ∨ (ph = 0 ∧ (p < ln → ¬ tx p = 45))) (hd : ¬ rfD tx ln p) (h0 : ¬ 0 < (rfT tx ln p).2.1 + (rfT tx ln p).2.2) : (rfT tx ln p).1 = p ∧ ¬ rfX tx ln p ∧ rScan tx (ln - p) p (rMk n t ph sg 1 0 0) = (1, p, rMk n t ph sg 1 0 0) := by
  have e : rfT tx ln p = rfL tx ln 3 p 0 0 := by unfold rfT; rw [if_neg hd, Nat.add_zero]
  rw [e] at h0 ⊢
  have hc := rfL_ct (tx := tx) (ln := ln) 3 p 0 0
  have hs := rfL_stop (tx := tx) (ln := ln) 3 p 0 0 rfl (by omega)
  have eq : (rfL tx ln 3 p 0 0).1 = p := by omega
  rw [eq] at hs
  refine ⟨eq, hs, ?_⟩
  rcases Nat.lt_or_ge p ln with hlt | hge
  · have h3 : ¬ (tx p = 120 ∨ tx p = 121) := fun z => hs ⟨hlt, z⟩
    have h2 : ¬ inI (tx p) 49 53 := fun z => hd ⟨hlt, z⟩
    refine rs_no hlt (by decide) ?_
    by_cases h1 : tx p = 43 ∨ tx p = 45
    · refine tk_mis h1 ?_
      rcases hp with z | z
      · exact Or.inl z
      · exact Or.inr ⟨z.1, z.2 hlt⟩
    · exact tk_oth h1 h2 h3
  · obtain rfl : p = ln := by omega
    refine rs_end1 (fun z => ?_)
    have z : ph = 2 := z
    rcases hp with q | q
    · exact absurd (q.symm.trans z) (by decide)
    · exact absurd (q.1.symm.trans z) (by decide)
end RD
def rM (n : Nat) (t : Nat → Nat → Int32) (F : Nat → Int32) : Prop := ∀ c, c < 3 → ∀ j, j < n → t c j = F (5 + 3 * j + c)
theorem rM.cl {n x y : Nat} {t : Nat → Nat → Int32} {F : Nat → Int32} {f : Int32} (h : rM n t F) : rM (n + 1) (clT n t f x y) (adF F n f (nI x) (nI y)) := by
  intro c hc j hj
  unfold clT adF
  by_cases hjn : j = n
  · subst hjn
    rw [if_pos rfl]
    rcases (show c = 0 ∨ c = 1 ∨ c = 2 by omega) with rfl | rfl | rfl
    · rw [if_pos rfl]; simp (disch := omega) only [upd_o, upd_s, Nat.add_zero]
    · rw [if_neg (by decide), if_pos rfl]; simp (disch := omega) only [upd_o, upd_s]
    · rw [if_neg (by decide), if_neg (by decide)]; simp (disch := omega) only [upd_o, upd_s]
  · rw [if_neg hjn]
    simp (disch := omega) only [upd_o]
    exact h c hc j (by omega)
/-- what the class read is what the reference read -/
def rsR (C : Int32 × Nat × rS) (R : Bool × Nat × Int32 × (Nat → Int32)) : Prop := (R.1 = true → C.1 = 0 ∧ rM C.2.2.1 C.2.2.2.1 R.2.2.2 ∧ R.2.2.2 0 = nI C.2.2.1 ∧ C.2.2.1 ≤ 6) ∧ (R.1 = false → C.1 = R.2.2.1 ∧ C.2.1 = R.2.1 ∧ ¬ C.1 = 0)
theorem rs_eq {tx : Nat → Int32} {ln : Nat} : ∀ d p n sg F t ph, n + d = 5 → p ≤ ln → (ph = 1 ∨ (ph = 0 ∧ (p < ln → ¬ tx p = 45))) → rM n t F → rsR (rScan tx (ln - p) p (rMk n t ph sg 1 0 0)) (rfG tx ln (d + 1) p n sg F) := by
  intro d
  induction d with
  | zero =>
    intro p n sg F t ph hn hp hph hM
    have hle := rfT_le (tx := tx) hp
    rw [rfG]
    by_cases ho : rfD tx ln p ∨ 0 < (rfT tx ln p).2.1 + (rfT tx ln p).2.2
    · rw [rs_term (by rcases hph with z | z <;> (first | rw [z] | rw [z.1]) <;> decide) ho]
      by_cases hx : rfX tx ln (rfT tx ln p).1
      · have e2 : rfR tx ln p = 2 := if_pos hx
        have hno : ¬ rfO tx ln p := fun z => absurd (e2.symm.trans z.1) (by decide)
        have h3 : 3 ≤ (rfT tx ln p).2.1 + (rfT tx ln p).2.2 := by
          rcases Nat.lt_or_ge ((rfT tx ln p).2.1 + (rfT tx ln p).2.2) 3 with z | z
          · exact absurd hx (rfL_stop 3 _ 0 0 rfl z)
          · exact z
        rw [if_neg (show ¬ (rfO tx ln p ∧ (rfT tx ln p).1 < ln ∧ (tx (rfT tx ln p).1 = 43 ∨ tx (rfT tx ln p).1 = 45)) from fun z => hno z.1), rs_no hx.1 (by decide) (tk_let4 hx.2 h3)]
        exact ⟨fun z => absurd (of_decide_eq_true z).1 hno, fun _ => ⟨e2.symm, rfl, show ¬ (2 : Int32) = 0 by decide⟩⟩
      · have e1 : rfR tx ln p = 1 := if_neg hx
        have hok : rfO tx ln p := ⟨e1, ho⟩
        rcases Nat.lt_or_ge (rfT tx ln p).1 ln with hlt | hge
        · by_cases hs : tx (rfT tx ln p).1 = 43 ∨ tx (rfT tx ln p).1 = 45
          · rw [if_pos (show (rfO tx ln p ∧ (rfT tx ln p).1 < ln ∧ (tx (rfT tx ln p).1 = 43 ∨ tx (rfT tx ln p).1 = 45)) from ⟨hok, hlt, hs⟩)]
            rw [if_pos (show n + 1 = 6 by omega), rs_no hlt (by decide) (tk_sg6 hs (by omega))]
            exact ⟨fun z => Bool.noConfusion z, fun _ => ⟨rfl, rfl, show ¬ (3 : Int32) = 0 by decide⟩⟩
          · rw [if_neg (show ¬ (rfO tx ln p ∧ (rfT tx ln p).1 < ln ∧ (tx (rfT tx ln p).1 = 43 ∨ tx (rfT tx ln p).1 = 45)) from fun z => hs z.2.2)]
            have hl : ¬ (tx (rfT tx ln p).1 = 120 ∨ tx (rfT tx ln p).1 = 121) := fun z => hx ⟨hlt, z⟩
            have ht : ∃ S' : rS, rScan tx (ln - (rfT tx ln p).1) (rfT tx ln p).1 (rMk n t 2 sg (if rfD tx ln p then tx p - 48 else 1) (rfT tx ln p).2.1 (rfT tx ln p).2.2) = (1, (rfT tx ln p).1, S') := by
              by_cases hg : inI (tx (rfT tx ln p).1) 49 53
              · exact ⟨_, rs_no hlt (by decide) (tk_dig2 hg)⟩
              · exact ⟨_, rs_no hlt (by decide) (tk_oth hs hg hl)⟩
            obtain ⟨S', ht⟩ := ht
            rw [ht]
            exact ⟨fun z => absurd (of_decide_eq_true z).2 (by omega), fun _ => ⟨e1.symm, rfl, show ¬ (1 : Int32) = 0 by decide⟩⟩
        · have hq : (rfT tx ln p).1 = ln := by omega
          have ht : rScan tx (ln - (rfT tx ln p).1) (rfT tx ln p).1 (rMk n t 2 sg (if rfD tx ln p then tx p - 48 else 1) (rfT tx ln p).2.1 (rfT tx ln p).2.2) = (0, ln, rClose (rMk n t 2 sg (if rfD tx ln p then tx p - 48 else 1) (rfT tx ln p).2.1 (rfT tx ln p).2.2)) := by
            rw [hq]; exact rs_end rfl
          rw [if_neg (show ¬ (rfO tx ln p ∧ (rfT tx ln p).1 < ln ∧ (tx (rfT tx ln p).1 = 43 ∨ tx (rfT tx ln p).1 = 45)) from fun z => absurd z.2.1 (by omega)), ht]
          exact ⟨fun _ => ⟨rfl, hM.cl, adF_0 (s := F) (n := n) (f := rfA tx ln p sg) (x := nI (rfT tx ln p).2.1) (y := nI (rfT tx ln p).2.2), by show n + 1 ≤ 6; omega⟩, fun z => absurd (decide_eq_true (show rfO tx ln p ∧ (rfT tx ln p).1 = ln from ⟨hok, hq⟩)) (by intro z2; exact Bool.noConfusion (z.symm.trans z2))⟩
    · have hd : ¬ rfD tx ln p := fun z => ho (Or.inl z)
      obtain ⟨eq, hx, hs⟩ := rs_none (n := n) (t := t) (sg := sg) hp hph hd (fun z => ho (Or.inr z))
      have e1 : rfR tx ln p = 1 := by unfold rfR; rw [eq]; exact if_neg hx
      have hno : ¬ rfO tx ln p := fun z => ho z.2
      rw [if_neg (show ¬ (rfO tx ln p ∧ (rfT tx ln p).1 < ln ∧ (tx (rfT tx ln p).1 = 43 ∨ tx (rfT tx ln p).1 = 45)) from fun z => hno z.1), hs]
      exact ⟨fun z => absurd (of_decide_eq_true z).1 hno, fun _ => ⟨e1.symm, eq.symm, show ¬ (1 : Int32) = 0 by decide⟩⟩
  | succ d ih =>
    intro p n sg F t ph hn hp hph hM
    have hle := rfT_le (tx := tx) hp
    rw [rfG]
    by_cases ho : rfD tx ln p ∨ 0 < (rfT tx ln p).2.1 + (rfT tx ln p).2.2
    · rw [rs_term (by rcases hph with z | z <;> (first | rw [z] | rw [z.1]) <;> decide) ho]
      by_cases hx : rfX tx ln (rfT tx ln p).1
      · have e2 : rfR tx ln p = 2 := if_pos hx
        have hno : ¬ rfO tx ln p := fun z => absurd (e2.symm.trans z.1) (by decide)
        have h3 : 3 ≤ (rfT tx ln p).2.1 + (rfT tx ln p).2.2 := by
          rcases Nat.lt_or_ge ((rfT tx ln p).2.1 + (rfT tx ln p).2.2) 3 with z | z
          · exact absurd hx (rfL_stop 3 _ 0 0 rfl z)
          · exact z
        rw [if_neg (show ¬ (rfO tx ln p ∧ (rfT tx ln p).1 < ln ∧ (tx (rfT tx ln p).1 = 43 ∨ tx (rfT tx ln p).1 = 45)) from fun z => hno z.1), rs_no hx.1 (by decide) (tk_let4 hx.2 h3)]
        exact ⟨fun z => absurd (of_decide_eq_true z).1 hno, fun _ => ⟨e2.symm, rfl, show ¬ (2 : Int32) = 0 by decide⟩⟩
      · have e1 : rfR tx ln p = 1 := if_neg hx
        have hok : rfO tx ln p := ⟨e1, ho⟩
        rcases Nat.lt_or_ge (rfT tx ln p).1 ln with hlt | hge
        · by_cases hs : tx (rfT tx ln p).1 = 43 ∨ tx (rfT tx ln p).1 = 45
          · rw [if_pos (show (rfO tx ln p ∧ (rfT tx ln p).1 < ln ∧ (tx (rfT tx ln p).1 = 43 ∨ tx (rfT tx ln p).1 = 45)) from ⟨hok, hlt, hs⟩)]
            rw [if_neg (show ¬ n + 1 = 6 by omega), rs_go hlt (tk_sg hs (by omega))]
            exact ih ((rfT tx ln p).1 + 1) (n + 1) _ _ _ 1 (by omega) (by omega) (Or.inl rfl) hM.cl
          · rw [if_neg (show ¬ (rfO tx ln p ∧ (rfT tx ln p).1 < ln ∧ (tx (rfT tx ln p).1 = 43 ∨ tx (rfT tx ln p).1 = 45)) from fun z => hs z.2.2)]
            have hl : ¬ (tx (rfT tx ln p).1 = 120 ∨ tx (rfT tx ln p).1 = 121) := fun z => hx ⟨hlt, z⟩
            have ht : ∃ S' : rS, rScan tx (ln - (rfT tx ln p).1) (rfT tx ln p).1 (rMk n t 2 sg (if rfD tx ln p then tx p - 48 else 1) (rfT tx ln p).2.1 (rfT tx ln p).2.2) = (1, (rfT tx ln p).1, S') := by
              by_cases hg : inI (tx (rfT tx ln p).1) 49 53
              · exact ⟨_, rs_no hlt (by decide) (tk_dig2 hg)⟩
              · exact ⟨_, rs_no hlt (by decide) (tk_oth hs hg hl)⟩
            obtain ⟨S', ht⟩ := ht
            rw [ht]
            exact ⟨fun z => absurd (of_decide_eq_true z).2 (by omega), fun _ => ⟨e1.symm, rfl, show ¬ (1 : Int32) = 0 by decide⟩⟩
        · have hq : (rfT tx ln p).1 = ln := by omega
          have ht : rScan tx (ln - (rfT tx ln p).1) (rfT tx ln p).1 (rMk n t 2 sg (if rfD tx ln p then tx p - 48 else 1) (rfT tx ln p).2.1 (rfT tx ln p).2.2) = (0, ln, rClose (rMk n t 2 sg (if rfD tx ln p then tx p - 48 else 1) (rfT tx ln p).2.1 (rfT tx ln p).2.2)) := by
            rw [hq]; exact rs_end rfl
          rw [if_neg (show ¬ (rfO tx ln p ∧ (rfT tx ln p).1 < ln ∧ (tx (rfT tx ln p).1 = 43 ∨ tx (rfT tx ln p).1 = 45)) from fun z => absurd z.2.1 (by omega)), ht]
          exact ⟨fun _ => ⟨rfl, hM.cl, adF_0 (s := F) (n := n) (f := rfA tx ln p sg) (x := nI (rfT tx ln p).2.1) (y := nI (rfT tx ln p).2.2), by show n + 1 ≤ 6; omega⟩, fun z => absurd (decide_eq_true (show rfO tx ln p ∧ (rfT tx ln p).1 = ln from ⟨hok, hq⟩)) (by intro z2; exact Bool.noConfusion (z.symm.trans z2))⟩
    · have hd : ¬ rfD tx ln p := fun z => ho (Or.inl z)
      obtain ⟨eq, hx, hs⟩ := rs_none (n := n) (t := t) (sg := sg) hp hph hd (fun z => ho (Or.inr z))
      have e1 : rfR tx ln p = 1 := by unfold rfR; rw [eq]; exact if_neg hx
      have hno : ¬ rfO tx ln p := fun z => ho z.2
      rw [if_neg (show ¬ (rfO tx ln p ∧ (rfT tx ln p).1 < ln ∧ (tx (rfT tx ln p).1 = 43 ∨ tx (rfT tx ln p).1 = 45)) from fun z => hno z.1), hs]
      exact ⟨fun z => absurd (of_decide_eq_true z).1 hno, fun _ => ⟨e1.symm, eq.symm, show ¬ (1 : Int32) = 0 by decide⟩⟩
theorem rs_all {tx : Nat → Int32} {ln : Nat} {S : Nat → Int32} : rsR (rScan tx ln 0 rZ) (rfAll tx ln S) := by
  unfold rfAll
  by_cases hm : rfM tx ln
  · rw [if_pos hm, if_pos hm]
    have hs : rScan tx ln 0 rZ = rScan tx (ln - 1) 1 (rMk 0 (fun _ _ => 0) 1 (-1) 1 0 0) := by
      have h : rTake (tx 0) rZ = (0, rMk 0 (fun _ _ => 0) 1 (-1) 1 0 0) := by rw [hm.2]; rfl
      exact rs_go (p := 0) hm.1 h
    rw [hs]
    exact rs_eq 5 1 0 (-1) _ _ 1 rfl hm.1 (Or.inl rfl) (fun c _ j hj => absurd hj (Nat.not_lt_zero j))
  · rw [if_neg hm, if_neg hm]
    exact rs_eq 5 0 0 1 _ _ 0 rfl (Nat.zero_le _) (Or.inr ⟨rfl, fun z1 z2 => hm ⟨z1, z2⟩⟩) (fun c _ j hj => absurd hj (Nat.not_lt_zero j))
theorem rfG_4 {tx : Nat → Int32} {ln : Nat} : ∀ d p n sg F, n + d = 5 → (rfG tx ln (d + 1) p n sg F).2.2.2 1 = 0 ∧ ∀ k, 2 ≤ k → k < 5 → (rfG tx ln (d + 1) p n sg F).2.2.2 k = F k := by
  have ha : ∀ (F : Nat → Int32) n f x y k, 2 ≤ k → k < 5 → adF F n f x y k = F k := fun F n f x y k ka kb => by
    unfold adF
    simp (disch := omega) only [upd_o]
  have h1 : ∀ (F : Nat → Int32) n f x y, adF F n f x y 1 = 0 := fun F n f x y => by
    unfold adF
    rw [upd_s]
  intro d
  induction d with
  | zero =>
    intro p n sg F hn
    rw [rfG]
    split
    · rw [if_pos (by omega)]; exact ⟨h1 F n (rfA tx ln p sg) (nI (rfT tx ln p).2.1) (nI (rfT tx ln p).2.2), fun k k1 k2 => ha F n (rfA tx ln p sg) (nI (rfT tx ln p).2.1) (nI (rfT tx ln p).2.2) k k1 k2⟩
    · exact ⟨h1 F n (rfA tx ln p sg) (nI (rfT tx ln p).2.1) (nI (rfT tx ln p).2.2), fun k k1 k2 => ha F n (rfA tx ln p sg) (nI (rfT tx ln p).2.1) (nI (rfT tx ln p).2.2) k k1 k2⟩
  | succ d ih =>
    intro p n sg F hn
    rw [rfG]
    split
    · rw [if_neg (by omega)]
      have h := ih ((rfT tx ln p).1 + 1) (n + 1) (if tx (rfT tx ln p).1 = 45 then -1 else 1) (adF F n (rfA tx ln p sg) (nI (rfT tx ln p).2.1) (nI (rfT tx ln p).2.2)) (by omega)
      exact ⟨h.1, fun k k1 k2 => (h.2 k k1 k2).trans (ha _ _ _ _ _ _ k1 k2)⟩
    · exact ⟨h1 F n (rfA tx ln p sg) (nI (rfT tx ln p).2.1) (nI (rfT tx ln p).2.2), fun k k1 k2 => ha F n (rfA tx ln p sg) (nI (rfT tx ln p).2.1) (nI (rfT tx ln p).2.2) k k1 k2⟩
theorem rfAll_4 {tx : Nat → Int32} {ln : Nat} {S : Nat → Int32} : (rfAll tx ln S).2.2.2 1 = 0 ∧ ∀ k, 2 ≤ k → k < 5 → (rfAll tx ln S).2.2.2 k = S k := by
  have h := rfG_4 (tx := tx) (ln := ln) 5 (if rfM tx ln then 1 else 0) 0 (if rfM tx ln then -1 else 1) (upd (upd S 0 0) 1 0) rfl
  exact ⟨h.1, fun k k1 k2 => (h.2 k k1 k2).trans (by rw [upd_o (by omega), upd_o (by omega)])⟩
