/-! the reference's memory -/
/-- the first n of g over f -/
def cpy (f g : Nat → Int32) (n : Nat) : Nat → Int32 := fun k => if k < n then g k else f k
theorem cpy_0 {f g : Nat → Int32} : cpy f g 0 = f := by funext k; simp [cpy]
theorem cpy_S {f g : Nat → Int32} {n : Nat} : upd (cpy f g n) n (g n) = cpy f g (n + 1) := by
  funext k
  by_cases h : k = n
  · rw [h, upd_s, cpy, if_pos (by omega)]
  · rw [upd_o h]; unfold cpy
    by_cases h2 : k < n
    · rw [if_pos h2, if_pos (by omega)]
    · rw [if_neg h2, if_neg (by omega)]
def shf (f : Nat → Int32) (n : Nat) : Nat → Int32 := fun k => if k < n then f (k + 853) else f k
theorem shf_0 {f : Nat → Int32} : shf f 0 = f := by funext k; simp [shf]
theorem shf_r {f : Nat → Int32} {n : Nat} : shf f n (n + 853) = f (n + 853) := by unfold shf; rw [if_neg (by omega)]
theorem shf_S {f : Nat → Int32} {n : Nat} : upd (shf f n) n (f (n + 853)) = shf f (n + 1) := by
  funext k
  by_cases h : k = n
  · rw [h, upd_s, shf, if_pos (by omega)]
  · rw [upd_o h]; unfold shf
    by_cases h2 : k < n
    · rw [if_pos h2, if_pos (by omega)]
    · rw [if_neg h2, if_neg (by omega)]
def fll (f : Nat → Int32) (a : Nat) (g : Nat → Int32) (n : Nat) : Nat → Int32 := fun k => if a ≤ k ∧ k < a + n then g (k - a) else f k
theorem fll_0 {f g : Nat → Int32} {a : Nat} : fll f a g 0 = f := by funext k; unfold fll; rw [if_neg (by omega)]
theorem fll_S {f g : Nat → Int32} {a n : Nat} : upd (fll f a g n) (a + n) (g n) = fll f a g (n + 1) := by
  funext k
  by_cases h : k = a + n
  · rw [h, upd_s, fll, if_pos (by omega), show a + n - a = n by omega]
  · rw [upd_o h]; unfold fll
    by_cases h2 : a ≤ k ∧ k < a + n
    · rw [if_pos h2, if_pos (by omega)]
    · rw [if_neg h2, if_neg (by omega)]
/-- the past, of n states -/
def rpP (i : gI) (m : Nat) (P : Nat → Nat → Int32) (n : Nat) : Prop := n ≤ 4 ∧ i m 3 = nI n ∧ ∀ j, j < n → ∀ k, k < 853 → i (m + 3) (853 * j + k) = P j k
def psP (n : Nat) (P : Nat → Nat → Int32) (s : Nat → Int32) : Nat → Nat → Int32 := if n < 4 then fun j => if j = n then s else P j else fun j => if j = 3 then s else P (j + 1)
def psN (n : Nat) : Nat := if n < 4 then n + 1 else 4
/-- the past alone may move -/
def frS (m : Nat) (i i' : gI) : Prop := (∀ c, c ≠ m → c ≠ m + 3 → i' c = i c) ∧ ∀ j, j ≠ 3 → i' m j = i m j
theorem va_id {i : gI} {a : Nat} : va_up i a (i a) = i := by funext b; by_cases h : b = a <;> simp [va_up, h]
theorem act_lt {i : gI} {m n : Nat} {P : Nat → Nat → Int32} {s : Nat → Int32} (hn : n < 4) (hP : rpP i m P n) (hB : ∀ k, k < 853 → i (m + 2) k = s k) : frS m i (up2 (va_up i (m + 3) (fll (i (m + 3)) (853 * n) (i (m + 2)) 853)) m 3 (nI (n + 1))) ∧ rpP (up2 (va_up i (m + 3) (fll (i (m + 3)) (853 * n) (i (m + 2)) 853)) m 3 (nI (n + 1))) m (psP n P s) (psN n) := by
  obtain ⟨p1, p2, p3⟩ := hP
  refine ⟨⟨fun c c1 c2 => by rw [up2_ne c1, va_o c2], fun j hj => by rw [up2_row hj, va_o (by omega)]⟩, ?_⟩
  unfold psN psP
  rw [if_pos hn, if_pos hn]
  refine ⟨by omega, up2_self _ _ _ _, fun j hj k hk => ?_⟩
  rw [up2_ne (by omega), va_s]
  unfold fll
  dsimp only
  by_cases h : j = n
  · subst h
    rw [if_pos (by omega), if_pos rfl, show 853 * j + k - 853 * j = k by omega]
    exact hB k hk
  · rw [if_neg (by omega), if_neg h]
    exact p3 j (by omega) k hk
theorem act_4 {i : gI} {m : Nat} {P : Nat → Nat → Int32} {s : Nat → Int32} (hP : rpP i m P 4) (hB : ∀ k, k < 853 → i (m + 2) k = s k) {i1 : gI} (h1 : i1 = up2 (va_up i (m + 3) (shf (i (m + 3)) 2559)) m 3 (nI 3)) : frS m i (up2 (va_up i1 (m + 3) (fll (i1 (m + 3)) (853 * 3) (i1 (m + 2)) 853)) m 3 (nI (3 + 1))) ∧ rpP (up2 (va_up i1 (m + 3) (fll (i1 (m + 3)) (853 * 3) (i1 (m + 2)) 853)) m 3 (nI (3 + 1))) m (psP 4 P s) (psN 4) := by
  obtain ⟨p1, p2, p3⟩ := hP
  have e3 : i1 (m + 3) = shf (i (m + 3)) 2559 := by rw [h1, up2_ne (by omega), va_s]
  have e2 : i1 (m + 2) = i (m + 2) := by rw [h1, up2_ne (by omega), va_o (by omega)]
  have ee : ∀ c, c ≠ m → c ≠ m + 3 → i1 c = i c := fun c c1 c2 => by rw [h1, up2_ne c1, va_o c2]
  have em : ∀ j, j ≠ 3 → i1 m j = i m j := fun j hj => by rw [h1, up2_row hj, va_o (by omega)]
  refine ⟨⟨fun c c1 c2 => by rw [up2_ne c1, va_o c2]; exact ee c c1 c2, fun j hj => by rw [up2_row hj, va_o (by omega)]; exact em j hj⟩, ?_⟩
  unfold psN psP
  rw [if_neg (by decide), if_neg (by decide)]
  refine ⟨Nat.le_refl _, up2_self _ _ _ _, fun j hj k hk => ?_⟩
  rw [up2_ne (by omega), va_s, e3, e2]
  unfold fll
  dsimp only
  by_cases h : j = 3
  · subst h
    rw [if_pos (by omega), if_pos rfl, show 853 * 3 + k - 853 * 3 = k by omega]
    exact hB k hk
  · rw [if_neg (by omega), if_neg h]
    unfold shf
    rw [if_pos (by omega), show 853 * j + k + 853 = 853 * (j + 1) + k by omega]
    exact p3 (j + 1) (by omega) k hk
