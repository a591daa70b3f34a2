/-! nearest, meets -/
def nrF (f : Nat → Int32) : Nat → Nat
  | 0 => 0
  | k + 1 => if f (k + 1) < f (nrF f k) then k + 1 else nrF f k
theorem nrF_le (f : Nat → Int32) : ∀ k, nrF f k ≤ k
  | 0 => Nat.le_refl _
  | k + 1 => by have := nrF_le f k; unfold nrF; split <;> omega
def farS (s : Nat → Int32) (w : Nat) (x y : Int32) (p : Nat) : Int32 := (s (w + 6 + 4 * p + 0) - x) * (s (w + 6 + 4 * p + 0) - x) + (s (w + 6 + 4 * p + 1) - y) * (s (w + 6 + 4 * p + 1) - y)
def aNear (S : Nat → Int32) (w x y : Int32) : Int32 := if inI w 0 (S 1 - 1) ∧ inI x (-1024) 1024 ∧ inI y (-1024) 1024 then nI (nrF (farS S (23 + 166 * w.toNatClampNeg) x y) ((S (23 + 166 * w.toNatClampNeg)).toNatClampNeg - 1)) else -1000001
theorem inI_inB {x : Int32} : inI x (-1024) 1024 ↔ inB x.toInt64 := by
  have e1 : ((-1024 : Int64)).toInt = -1024 := by decide
  have e2 : ((1024 : Int64)).toInt = 1024 := by decide
  have e3 : ((-1024 : Int32)).toInt = -1024 := by decide
  have e4 : ((1024 : Int32)).toInt = 1024 := by decide
  unfold inI inB
  rw [Int32.lt_iff_toInt_lt, Int32.lt_iff_toInt_lt, Int64.lt_iff_toInt_lt, Int64.lt_iff_toInt_lt, Int32.toInt_toInt64, e1, e2, e3, e4]
theorem mul_i {x y : Int32} {a b : Nat} (hx : x.toInt.natAbs ≤ a) (hy : y.toInt.natAbs ≤ b) (h : a * b < 2 ^ 31) : (x * y).toInt = x.toInt * y.toInt := by
  rw [Int32.toInt_mul]
  apply bmod_i
  rw [Int.natAbs_mul]
  exact Nat.lt_of_le_of_lt (Nat.mul_le_mul hx hy) h
theorem sq_i {x y : Int32} (hx : inB x.toInt64) (hy : inB y.toInt64) : ((x - y) * (x - y)).toInt = (x.toInt - y.toInt) * (x.toInt - y.toInt) ∧ 0 ≤ ((x - y) * (x - y)).toInt ∧ ((x - y) * (x - y)).toInt ≤ 4194304 := by
  have h1 := sub_i hx hy
  have h2 := bd_i hx
  have h3 := bd_i hy
  have h4 : (x - y).toInt.natAbs ≤ 2048 := by rw [h1]; omega
  have h5 := mul_i h4 h4 (by decide)
  rw [h1] at h5
  have s := sq_pos (a := x.toInt - y.toInt)
  have h6 : ((x.toInt - y.toInt) * (x.toInt - y.toInt)).natAbs ≤ 2048 * 2048 := by
    rw [Int.natAbs_mul]
    exact Nat.mul_le_mul (by omega) (by omega)
  refine ⟨h5, by omega, by omega⟩
theorem far_i {s : Nat → Int32} {w p : Nat} {x y : Int32} (h0 : inB (s (w + 6 + 4 * p + 0)).toInt64) (h1 : inB (s (w + 6 + 4 * p + 1)).toInt64) (hx : inB x.toInt64) (hy : inB y.toInt64) : (farS s w x y p).toInt = ((s (w + 6 + 4 * p + 0)).toInt - x.toInt) * ((s (w + 6 + 4 * p + 0)).toInt - x.toInt) + ((s (w + 6 + 4 * p + 1)).toInt - y.toInt) * ((s (w + 6 + 4 * p + 1)).toInt - y.toInt) ∧ ¬ farS s w x y p < 0 := by
  obtain ⟨a1, a2, a3⟩ := sq_i h0 hx
  obtain ⟨b1, b2, b3⟩ := sq_i h1 hy
  have h : (farS s w x y p).toInt = _ := (Int32.toInt_add _ _).trans (bmod_i (z := ((s (w + 6 + 4 * p + 0) - x) * (s (w + 6 + 4 * p + 0) - x)).toInt + ((s (w + 6 + 4 * p + 1) - y) * (s (w + 6 + 4 * p + 1) - y)).toInt) (by omega))
  refine ⟨by rw [h, a1, b1], fun z => ?_⟩
  rw [Int32.lt_iff_toInt_lt, h, show (0 : Int32).toInt = 0 from rfl] at z
  omega
def mtS (f : Int64) : Int32 := if 0 < f then 1 else if f < 0 then -1 else 0
/-- t lines are seen: the changes, the last sign -/
def mtR (f : Nat → Int64) : Nat → Int32 × Int32
  | 0 => (0, 0)
  | t + 1 => ((mtR f t).1 + (if mtS (f t) * (mtR f t).2 < 0 then 1 else 0), if mtS (f t) = 0 then (mtR f t).2 else mtS (f t))
def mtF (S : Nat → Int32) (x : Int32) (t : Nat) : Int64 := gSum (tF S) (tP S) (tQ S) x.toInt64 (nI t - 1024).toInt64 0 (tN S)
def aMeets (S : Nat → Int32) (x : Int32) : Int32 := if inI x (-1024) 1024 then (mtR (mtF S x) 2049).1 else -1000001
theorem mt_lt {t : Nat} (h : t < 2049) : ¬ (1024 : Int32) < nI t - 1024 := by
  rw [Int32.lt_iff_toInt_lt, Int32.toInt_sub, nI_toInt (by omega), show (1024 : Int32).toInt = 1024 by decide, bmod_i (by omega)]
  omega
theorem mt_inc {t : Nat} : nI t - 1024 + 1 = nI (t + 1) - 1024 := by
  rw [← nI_1, Int32.sub_eq_add_neg, Int32.sub_eq_add_neg, Int32.add_assoc, Int32.add_assoc, Int32.add_comm (-1024) 1]
