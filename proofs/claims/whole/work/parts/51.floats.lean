/-! the float of n parts of 256 -/
theorem b32_t : Jvm.FP.Core.b32.tails = 8388608 := by decide +kernel
theorem b32_e : Jvm.FP.Core.b32.exps = 256 := by decide +kernel
theorem b32_p : Jvm.FP.Core.b32.p = 24 := rfl
theorem b32_q : Jvm.FP.Core.b32.qmin = -149 := by decide +kernel
theorem b32_m : Jvm.FP.Core.b32.qmax = 104 := by decide +kernel
theorem fl_dec {E t : Nat} (h1 : 1 ≤ E) (h2 : E ≤ 254) (ht : t < 8388608) : Jvm.FP.Core.decode Jvm.FP.Core.b32 (E * 8388608 + t) = .fin false (8388608 + t) (-150 + (E : Int)) := by
  have e1 : Jvm.FP.Core.fieldE Jvm.FP.Core.b32 (E * 8388608 + t) = E := by
    unfold Jvm.FP.Core.fieldE; rw [b32_t, b32_e]; omega
  have e2 : Jvm.FP.Core.fieldT Jvm.FP.Core.b32 (E * 8388608 + t) = t := by
    unfold Jvm.FP.Core.fieldT; rw [b32_t]; omega
  have e3 : Jvm.FP.Core.fieldS Jvm.FP.Core.b32 (E * 8388608 + t) = false := by
    unfold Jvm.FP.Core.fieldS; rw [b32_t, b32_e, show (E * 8388608 + t) / 8388608 / 256 % 2 = 0 by omega]; rfl
  unfold Jvm.FP.Core.decode
  rw [e1, e2, e3, b32_e, b32_t, b32_q, if_neg (by omega), if_neg (by omega)]
  congr 1
  omega
theorem fl_enc {E t : Nat} (h1 : 1 ≤ E) (ht : t < 8388608) : Jvm.FP.Core.encode Jvm.FP.Core.b32 (.fin false (8388608 + t) (-150 + (E : Int))) = E * 8388608 + t := by
  unfold Jvm.FP.Core.encode Jvm.FP.Core.assemble
  dsimp only
  rw [b32_t, b32_q, b32_e, if_neg (by omega), Nat.add_sub_cancel_left, show (-150 + (E : Int) - -149).toNat + 1 = E by omega]
  show (0 * 256 + E) * 8388608 + t = _
  omega
/-- a magnitude that the format holds is not rounded -/
theorem fl_rr {num den c : Nat} {e L q : Int} (hn : num ≠ 0) (hL : Jvm.FP.Core.leading num den = L) (hq : max (-149) (L + e - 23) = q) (hu : Jvm.FP.Core.unitsNum num e q = c * Jvm.FP.Core.unitsDen den e q) (hd : 0 < Jvm.FP.Core.unitsDen den e q) (hc : c < 16777216) (hm : q ≤ 104) : Jvm.FP.Core.roundRatio Jvm.FP.Core.b32 false num den e = .fin false c q := by
  have hQ : Jvm.FP.Core.quantum Jvm.FP.Core.b32 num den e = q := by
    unfold Jvm.FP.Core.quantum
    rw [b32_q, hL, b32_p]
    exact hq
  unfold Jvm.FP.Core.roundRatio
  rw [if_neg hn, hQ]
  unfold Jvm.FP.Core.roundAt
  have hN : Jvm.FP.Core.nearest (Jvm.FP.Core.unitsNum num e q) (Jvm.FP.Core.unitsDen den e q) = c := by
    unfold Jvm.FP.Core.nearest
    rw [hu, Nat.mul_mod_left, if_pos (by omega), Nat.mul_div_cancel _ hd]
  rw [hN]
  unfold Jvm.FP.Core.settle Jvm.FP.Core.bound
  rw [b32_p, if_pos (by exact hc), b32_m, if_pos hm]
theorem fl_c {n h : Nat} (h1 : 2 ^ h ≤ n) (h2 : n < 2 ^ (h + 1)) (h3 : h ≤ 23) : 8388608 ≤ n * 2 ^ (23 - h) ∧ n * 2 ^ (23 - h) < 16777216 := by
  have hp : 0 < 2 ^ (23 - h) := Nat.two_pow_pos _
  constructor
  · have := Nat.mul_le_mul_right (2 ^ (23 - h)) h1
    rw [← Nat.pow_add, show h + (23 - h) = 23 by omega] at this
    exact this
  · have := Nat.mul_lt_mul_of_pos_right h2 hp
    rw [← Nat.pow_add, show h + 1 + (23 - h) = 24 by omega] at this
    exact this
theorem fl_i2f {n h : Nat} (h1 : 2 ^ h ≤ n) (h2 : n < 2 ^ (h + 1)) (h3 : h ≤ 23) : (FP.i2f (nI n)).toNat = (127 + h) * 8388608 + (n * 2 ^ (23 - h) - 8388608) := by
  obtain ⟨c1, c2⟩ := fl_c h1 h2 h3
  have hn : n ≠ 0 := by have := Nat.two_pow_pos h; omega
  have hn24 : n < 2 ^ 24 := Nat.lt_of_lt_of_le h2 (Nat.pow_le_pow_right (by decide) (by omega))
  have hlog : n.log2 = h := (Nat.log2_eq_iff hn).mpr ⟨h1, h2⟩
  have hlead : Jvm.FP.Core.leading n 1 = (h : Int) := by
    unfold Jvm.FP.Core.leading
    rw [hlog, show Nat.log2 1 = 0 by decide]
    dsimp only
    rw [show ((h : Int) - ((0 : Nat) : Int)) = h by omega, Int.toNat_natCast, show (-(h : Int)).toNat = 0 by omega, Nat.pow_zero, Nat.mul_one, Nat.one_mul, if_pos h1]
  have hr : Jvm.FP.Core.round Jvm.FP.Core.b32 (Jvm.FP.Core.ofInt (n : Int)) = .fin false (n * 2 ^ (23 - h)) ((h : Int) - 23) := by
    show Jvm.FP.Core.roundRatio Jvm.FP.Core.b32 (decide ((n : Int) < 0)) (n : Int).natAbs 1 0 = _
    rw [show decide ((n : Int) < 0) = false by simp, Int.natAbs_natCast]
    refine fl_rr hn hlead (by omega) ?_ ?_ c2 (by omega)
    · unfold Jvm.FP.Core.unitsNum Jvm.FP.Core.unitsDen
      rw [show (0 - ((h : Int) - 23)).toNat = 23 - h by omega, show ((h : Int) - 23 - 0).toNat = 0 by omega]
      omega
    · unfold Jvm.FP.Core.unitsDen
      rw [show ((h : Int) - 23 - 0).toNat = 0 by omega]
      decide
  show (UInt32.ofNat (Jvm.FP.Core.encode Jvm.FP.Core.b32 (Jvm.FP.Core.round Jvm.FP.Core.b32 (Jvm.FP.Core.ofInt (nI n).toInt)))).toNat = _
  rw [nI_toInt (by omega), hr]
  have he := fl_enc (E := 127 + h) (t := n * 2 ^ (23 - h) - 8388608) (by omega) (by omega)
  rw [show 8388608 + (n * 2 ^ (23 - h) - 8388608) = n * 2 ^ (23 - h) by omega, show (-150 + ((127 + h : Nat) : Int)) = (h : Int) - 23 by omega] at he
  rw [he, UInt32.toNat_ofNat']
  omega
theorem fl_div {n h : Nat} (h1 : 2 ^ h ≤ n) (h2 : n < 2 ^ (h + 1)) (h3 : h ≤ 23) : (FP.fdiv (FP.i2f (nI n)) 1132462080).toNat = (119 + h) * 8388608 + (n * 2 ^ (23 - h) - 8388608) := by
  obtain ⟨c1, c2⟩ := fl_c h1 h2 h3
  generalize hc : n * 2 ^ (23 - h) = c at c1 c2
  have hd : Jvm.FP.Core.decode Jvm.FP.Core.b32 (FP.i2f (nI n)).toNat = .fin false c ((h : Int) - 23) := by
    rw [fl_i2f h1 h2 h3, hc, fl_dec (by omega) (by omega) (by omega), show 8388608 + (c - 8388608) = c by omega, show (-150 + ((127 + h : Nat) : Int)) = (h : Int) - 23 by omega]
  have h256 : Jvm.FP.Core.decode Jvm.FP.Core.b32 (1132462080 : UInt32).toNat = .fin false 8388608 (-15) := by decide +kernel
  have hlead : Jvm.FP.Core.leading c 8388608 = 0 := by
    have hl : c.log2 = 23 := (Nat.log2_eq_iff (by omega)).mpr ⟨c1, c2⟩
    unfold Jvm.FP.Core.leading
    rw [hl, show Nat.log2 8388608 = 23 by decide +kernel]
    dsimp only
    rw [show (((23 : Nat) : Int) - ((23 : Nat) : Int)) = 0 by omega, show (0 : Int).toNat = 0 from rfl, show (-(0 : Int)).toNat = 0 from rfl, Nat.pow_zero, Nat.mul_one, Nat.mul_one, if_pos c1]
  have hr : Jvm.FP.Core.roundRatio Jvm.FP.Core.b32 false c 8388608 ((h : Int) - 23 - -15) = .fin false c ((h : Int) - 31) := by
    refine fl_rr (by omega) hlead (by omega) ?_ ?_ c2 (by omega)
    · unfold Jvm.FP.Core.unitsNum Jvm.FP.Core.unitsDen
      rw [show ((h : Int) - 23 - -15 - ((h : Int) - 31)).toNat = 23 by omega, show ((h : Int) - 31 - ((h : Int) - 23 - -15)).toNat = 0 by omega]
    · unfold Jvm.FP.Core.unitsDen
      rw [show ((h : Int) - 31 - ((h : Int) - 23 - -15)).toNat = 0 by omega]
      decide
  show (UInt32.ofNat (Jvm.FP.Core.encode Jvm.FP.Core.b32 (Jvm.FP.Core.quotient Jvm.FP.Core.b32 (Jvm.FP.Core.decode Jvm.FP.Core.b32 (FP.i2f (nI n)).toNat) (Jvm.FP.Core.decode Jvm.FP.Core.b32 (1132462080 : UInt32).toNat)))).toNat = _
  rw [hd, h256]
  have hquo : Jvm.FP.Core.quotient Jvm.FP.Core.b32 (.fin false c ((h : Int) - 23)) (.fin false 8388608 (-15)) = .fin false c ((h : Int) - 31) := by
    unfold Jvm.FP.Core.quotient
    dsimp only
    rw [if_neg (by decide)]
    exact hr
  rw [hquo]
  have he := fl_enc (E := 119 + h) (t := c - 8388608) (by omega) (by omega)
  rw [show 8388608 + (c - 8388608) = c by omega, show (-150 + ((119 + h : Nat) : Int)) = (h : Int) - 31 by omega] at he
  rw [he, UInt32.toNat_ofNat']
  omega
