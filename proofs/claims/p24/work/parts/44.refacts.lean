/-! the reference acts -/
/-- afterwards: the flat state S, the past P of n -/
def rfP (m : Nat) (i i' : gI) (S : Nat → Int32) (P : Nat → Nat → Int32) (n : Nat) : Prop := (∀ c, c < m ∨ m + 6 ≤ c → i' c = i c) ∧ i' m 5 = i m 5 ∧ i' (m + 4) = i (m + 4) ∧ i' (m + 1) = S ∧ rpP i' m P n
def frB (m : Nat) (i i' : gI) : Prop := (∀ c, c ≠ m → c ≠ m + 1 → c ≠ m + 2 → c ≠ m + 5 → i' c = i c) ∧ i' m 3 = i m 3 ∧ i' m 5 = i m 5
theorem frB.N {m : Nat} {i j k : gI} {F : Nat → Int32} (h : frB m i j) (g : frN m j k F) : frB m i k := ⟨fun c c1 c2 c3 c4 => (g.1 c c1 c2).trans (h.1 c c1 c2 c3 c4), (g.2.1 3 (by decide) (by decide) (by decide)).trans h.2.1, (g.2.1 5 (by decide) (by decide) (by decide)).trans h.2.2⟩
theorem frB.M {m : Nat} {i j k : gI} (h : frB m i j) (g : frM m j k) : frB m i k := ⟨fun c c1 c2 c3 c4 => (g.1 c c1).trans (h.1 c c1 c2 c3 c4), (g.2 3 (by decide) (by decide) (by decide)).trans h.2.1, (g.2 5 (by decide) (by decide) (by decide)).trans h.2.2⟩
theorem frB.U {m : Nat} {i j k : gI} (h : frB m i j) (g : frU m j k) : frB m i k := ⟨fun c c1 c2 c3 c4 => (g.1 c c1 c2).trans (h.1 c c1 c2 c3 c4), (g.2 3 (by decide) (by decide)).trans h.2.1, (g.2 5 (by decide) (by decide)).trans h.2.2⟩
theorem frB.F {m : Nat} {i j : gI} {F : Nat → Int32} (h : frB m i j) : frB m i (va_up j (m + 1) F) := ⟨fun c c1 c2 c3 c4 => by rw [va_o c2]; exact h.1 c c1 c2 c3 c4, by rw [va_o (by omega)]; exact h.2.1, by rw [va_o (by omega)]; exact h.2.2⟩
theorem rpP.eq {m n : Nat} {i j : gI} {P : Nat → Nat → Int32} (h : rpP i m P n) (h3 : j m 3 = i m 3) (hp : j (m + 3) = i (m + 3)) : rpP j m P n := by
  unfold rpP; rw [h3, hp]; exact h
theorem rfP.same {m n : Nat} {i j : gI} {P : Nat → Nat → Int32} {S : Nat → Int32} (hP : rpP i m P n) (h : frB m i j) (hS : j (m + 1) = S) : rfP m i j S P n := ⟨fun c hc => h.1 c (by omega) (by omega) (by omega) (by omega), h.2.2, h.1 (m + 4) (by omega) (by omega) (by omega) (by omega), hS, hP.eq h.2.1 (h.1 (m + 3) (by omega) (by omega) (by omega) (by omega))⟩
theorem nI_big {k : Nat} (h : k < 2 ^ 31) : ¬ nI k ≤ -1000001 := by
  intro z
  have := Int32.le_iff_toInt_le.mp z
  rw [nI_toInt h, show (-1000001 : Int32).toInt = -1000001 by decide] at this
  omega
/-! what an action answers, and the flat state after it, if it acts -/
abbrev aRes : Type := Int32 × Option (Nat → Int32)
def nxS (S : Nat → Int32) : Option (Nat → Int32) → (Nat → Int32)
  | none => S
  | some F => F
def nxP (n : Nat) (P : Nat → Nat → Int32) (S : Nat → Int32) : Option (Nat → Int32) → Nat → Nat → Int32
  | none => P
  | some _ => psP n P S
def nxN (n : Nat) : Option (Nat → Int32) → Nat
  | none => n
  | some _ => psN n
def nW (s : Nat → Int32) : Nat := (s 1).toNatClampNeg
abbrev okT (f x y : Int32) : Prop := inI f (-5) 5 ∧ ¬ f = 0 ∧ inI x 0 3 ∧ inI y 0 3 ∧ x + y ≤ 3
def aTerm (S : Nat → Int32) (f x y : Int32) : aRes := if okT f x y then (if tN S = 6 then (-1000003, none) else (nI (tN S + 1), some (adF S (tN S) f x y))) else (-1000001, none)
def aDropT (S : Nat → Int32) (k : Int32) : aRes := if k < 0 then (-1000001, none) else if nI (tN S) ≤ k then (-1000002, none) else (S (5 + 3 * k.toNatClampNeg), some (rmF S (tN S - 1) k.toNatClampNeg))
abbrev okB (x y sg : Int32) : Prop := inI x (-1024) 1024 ∧ inI y (-1024) 1024 ∧ (sg = 1 ∨ sg = -1)
def aOpen (S : Nat → Int32) (sg p f : Int32) : Option (Int64 × Int64 × Nat) → aRes
  | none => (-1000002, none)
  | some c => if nW S = 5 then (-1000003, none) else (nI (nW S), some (oF S (nW S) sg p f c))
def aBegin (S : Nat → Int32) (x y sg : Int32) : aRes := if okB x y sg then aOpen S sg (-1) (-1) (gCor (tF S) (tP S) (tQ S) (tN S) (tM S) 0 x.toInt64 y.toInt64) else (-1000001, none)
def aStep (S : Nat → Int32) (w k : Int32) : aRes := if inI w 0 (S 1 - 1) ∧ inI k 1 40 then (if gStop S (23 + 166 * w.toNatClampNeg) then (-1000002, none) else (nI (wkR (23 + 166 * w.toNatClampNeg) k.toNatClampNeg S).2, some (wkR (23 + 166 * w.toNatClampNeg) k.toNatClampNeg S).1)) else (-1000001, none)
theorem aDone {S : Nat → Int32} {P : Nat → Nat → Int32} {n m : Nat} {i : gI} {Q : gQ} {T : gTy} {r : gR} {l : gLg} {A B : aRes} (hQ : ∀ i', rfP m i i' (nxS S A.2) (nxP n P S A.2) (nxN n A.2) → Q (some (.int A.1)) T r l i') (h : A = B) : ∀ i', rfP m i i' (nxS S B.2) (nxP n P S B.2) (nxN n B.2) → Q (some (.int B.1)) T r l i' := by
  subst h; exact hQ
