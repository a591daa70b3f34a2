/-! branch, set, read, drop -/
def aBrn (S : Nat → Int32) (w p : Int32) (sd : Int32) (b : Nat) : Option (Int64 × Int64 × Nat) → aRes
  | none => (-1000002, none)
  | some c => aOpen S (brS S (23 + 166 * w.toNatClampNeg) b sd c) w p (some c)
def aBranch (S : Nat → Int32) (w p sd : Int32) : aRes := if inI w 0 (S 1 - 1) ∧ inI p 0 (S (23 + 166 * w.toNatClampNeg) - 1) ∧ (sd = 1 ∨ sd = -1) then (if S (23 + 166 * w.toNatClampNeg + 6 + 4 * p.toNatClampNeg + 3) = 2 then aBrn S w p sd (p.toNatClampNeg - 1) (brC S (23 + 166 * w.toNatClampNeg) (p.toNatClampNeg - 1) sd) else (-1000002, none)) else (-1000001, none)
def aSet (S : Nat → Int32) (x v : Int32) : aRes := if gAl x v then (S (2 + x.toNatClampNeg), some (upd S (2 + x.toNatClampNeg) v)) else (-1000001, none)
def aRead (tx : Nat → Int32) (ln : Nat) (S : Nat → Int32) : aRes := if (rfAll tx ln S).1 = true then ((rfAll tx ln S).2.2.2 0, some (rfAll tx ln S).2.2.2) else (-1000002, none)
theorem rfG_F {tx : Nat → Int32} {ln : Nat} : ∀ d p n sg F, n + d = 5 → (∃ a, a ≤ 6 ∧ (rfG tx ln (d + 1) p n sg F).2.2.2 0 = nI a) ∧ ∀ k, 853 ≤ k → (rfG tx ln (d + 1) p n sg F).2.2.2 k = F k := by
  have ha : ∀ (F : Nat → Int32) n f x y k, n ≤ 5 → 853 ≤ k → adF F n f x y k = F k := fun F n f x y k hn hk => by
    unfold adF
    simp (disch := omega) only [upd_o]
  intro d
  induction d with
  | zero =>
    intro p n sg F hn
    rw [rfG]
    split
    · rw [if_pos (by omega)]; exact ⟨⟨n + 1, by omega, adF_0 (s := F) (n := n) (f := rfA tx ln p sg) (x := nI (rfT tx ln p).2.1) (y := nI (rfT tx ln p).2.2)⟩, fun k hk => ha _ _ _ _ _ _ (by omega) hk⟩
    · exact ⟨⟨n + 1, by omega, adF_0 (s := F) (n := n) (f := rfA tx ln p sg) (x := nI (rfT tx ln p).2.1) (y := nI (rfT tx ln p).2.2)⟩, fun k hk => ha _ _ _ _ _ _ (by omega) hk⟩
  | succ d ih =>
    intro p n sg F hn
    rw [rfG]
    split
    · rw [if_neg (by omega)]
      have h := ih ((rfT tx ln p).1 + 1) (n + 1) (if tx (rfT tx ln p).1 = 45 then -1 else 1) (adF F n (rfA tx ln p sg) (nI (rfT tx ln p).2.1) (nI (rfT tx ln p).2.2)) (by omega)
      exact ⟨h.1, fun k hk => (h.2 k hk).trans (ha _ _ _ _ _ _ (by omega) hk)⟩
    · exact ⟨⟨n + 1, by omega, adF_0 (s := F) (n := n) (f := rfA tx ln p sg) (x := nI (rfT tx ln p).2.1) (y := nI (rfT tx ln p).2.2)⟩, fun k hk => ha _ _ _ _ _ _ (by omega) hk⟩
theorem rfAll_F {tx : Nat → Int32} {ln : Nat} {S : Nat → Int32} : (∃ a, a ≤ 6 ∧ (rfAll tx ln S).2.2.2 0 = nI a) ∧ ∀ k, 853 ≤ k → (rfAll tx ln S).2.2.2 k = S k := by
  have h := rfG_F (tx := tx) (ln := ln) 5 (if rfM tx ln then 1 else 0) 0 (if rfM tx ln then -1 else 1) (upd (upd S 0 0) 1 0) rfl
  exact ⟨h.1, fun k hk => (h.2 k hk).trans (by rw [upd_o (by omega), upd_o (by omega)])⟩
