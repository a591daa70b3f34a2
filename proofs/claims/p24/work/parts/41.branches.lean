/-! the reference begins walks -/
theorem bd_i {x : Int32} (h : inB x.toInt64) : x.toInt.natAbs ≤ 1024 := by
  have := bd_inB h
  unfold bd at this
  rw [Int32.toInt_toInt64] at this
  exact this
theorem bmod_i {z : Int} (h : z.natAbs < 2 ^ 31) : z.bmod (2 ^ 32) = z := Int.bmod_eq_of_le (by omega) (by omega)
theorem sub_i {x y : Int32} (hx : inB x.toInt64) (hy : inB y.toInt64) : (x - y).toInt = x.toInt - y.toInt := by
  have h1 := bd_i hx
  have h2 := bd_i hy
  rw [Int32.toInt_sub]
  exact bmod_i (by omega)
theorem sub_bd {x y : Int32} (hx : inB x.toInt64) (hy : inB y.toInt64) : bd (x - y).toInt64 2048 := by
  have h1 := bd_i hx
  have h2 := bd_i hy
  unfold bd
  rw [Int32.toInt_toInt64, sub_i hx hy]
  omega
theorem sub_0 {x y : Int32} (hx : inB x.toInt64) (hy : inB y.toInt64) (h : (x - y).toInt64.toInt = 0) : x = y := by
  rw [Int32.toInt_toInt64, sub_i hx hy] at h
  exact Int32.toInt_inj.mp (by omega)
theorem sq_0 {a : Int} (h : a * a = 0) : a = 0 := by
  rcases Int.mul_eq_zero.mp h with h | h <;> exact h
/-- two places that are not the same are apart -/
theorem far_ge {x y u v : Int32} (hx : inB x.toInt64) (hy : inB y.toInt64) (hu : inB u.toInt64) (hv : inB v.toInt64) (h : ¬ (x = u ∧ y = v)) : (1 : Int64) ≤ (x - u).toInt64 * (x - u).toInt64 + (y - v).toInt64 * (y - v).toInt64 := by
  have a := sub_bd hx hu
  have b := sub_bd hy hv
  refine gg_pos (bd_mono a (by decide)) (bd_mono b (by decide)) (fun z => h ?_)
  have h1 := bd_mulI a a (by decide)
  have h2 := bd_mulI b b (by decide)
  have h3 := bd_addI (bd_mul a a (by decide)) (bd_mul b b (by decide)) (by decide)
  rw [z, h1, h2, show (0 : Int64).toInt = 0 from rfl] at h3
  have s1 := sq_pos (a := (x - u).toInt64.toInt)
  have s2 := sq_pos (a := (y - v).toInt64.toInt)
  exact ⟨sub_0 hx hu (sq_0 (by omega)), sub_0 hy hv (sq_0 (by omega))⟩
def brA (s : Nat → Int32) (w b : Nat) : Int64 := (s (w + 6 + 4 * (b + 1) + 0) - s (w + 6 + 4 * b + 0)).toInt64
def brB (s : Nat → Int32) (w b : Nat) : Int64 := (s (w + 6 + 4 * (b + 1) + 1) - s (w + 6 + 4 * b + 1)).toInt64
/-- where the branch beside the crossing b + 1 is corrected to -/
def brC (s : Nat → Int32) (w b : Nat) (sd : Int32) : Option (Int64 × Int64 × Nat) :=
  gCor (tF s) (tP s) (tQ s) (tN s) (tM s) 0 ((s (w + 6 + 4 * (b + 1) + 0)).toInt64 - (s 2).toInt64 * sd.toInt64 * brB s w b / gRoot (brA s w b * brA s w b + brB s w b * brB s w b)) ((s (w + 6 + 4 * (b + 1) + 1)).toInt64 + (s 2).toInt64 * sd.toInt64 * brA s w b / gRoot (brA s w b * brA s w b + brB s w b * brB s w b))
theorem brR_ge {s : Nat → Int32} {w z b : Nat} (hv : vW s w z) (hb : b + 1 ≤ z) (h2 : s (w + 6 + 4 * (b + 1) + 3) = 2) : (1 : Int64) ≤ brA s w b * brA s w b + brB s w b * brB s w b := by
  obtain ⟨_, _, _, _, _, v6⟩ := hv
  obtain ⟨a1, a2, a3⟩ := v6 (b + 1) hb
  obtain ⟨a4, a5, _⟩ := v6 b (by omega)
  obtain ⟨e, he, hne⟩ := a3 h2
  obtain rfl : b = e := by omega
  exact far_ge a1 a2 a4 a5 hne
/-- the sign that a branch gets -/
def brS (s : Nat → Int32) (w b : Nat) (sd : Int32) (c : Int64 × Int64 × Nat) : Int32 := if (gSum (tF s) (tP s) (tQ s) c.1 c.2.1 1 (tN s) * brA s w b + gSum (tF s) (tP s) (tQ s) c.1 c.2.1 2 (tN s) * brB s w b) * sd.toInt64 < 0 then -1 else 1
/-- a walk begins at c -/
def oF (s : Nat → Int32) (k : Nat) (sg p f : Int32) (c : Int64 × Int64 × Nat) : Nat → Int32 := jnF (opF s k sg p f) (23 + 166 * k) 0 c.1.toInt32 c.2.1.toInt32 (nI c.2.2) 0
