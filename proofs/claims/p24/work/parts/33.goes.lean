/-! the reference goes -/
/-- what a walk at (x, y) with sign s tries at pace k, by the reference -/
def gTrR (f : Nat → Int32) (p q : Nat → Nat) (n m : Nat) (x y s : Int32) (k : Int32) : Option (Int64 × Int64 × Nat) :=
  if gGG f p q n x.toInt64 y.toInt64 = 0 then none else match gCor f p q n m 0 (x.toInt64 - k.toInt64 * s.toInt64 * gSum f p q x.toInt64 y.toInt64 2 n / gRoot (gGG f p q n x.toInt64 y.toInt64)) (y.toInt64 + k.toInt64 * s.toInt64 * gSum f p q x.toInt64 y.toInt64 1 n / gRoot (gGG f p q n x.toInt64 y.toInt64)) with
  | none => none
  | some c => if c.1.toInt32 = x ∧ c.2.1.toInt32 = y then none else some c
/-- no steep place has the root 0 -/
def gRk (f : Nat → Int32) (p q : Nat → Nat) (n : Nat) : Prop := ∀ x y : Int64, inB x → inB y → ¬ gGG f p q n x y = 0 → ¬ gRoot (gGG f p q n x y) = 0
theorem jnF_o {s : Nat → Int32} {w n j : Nat} {x y q v : Int32} (h : j ≠ w) (h2 : j < w + 6) : jnF s w n x y q v j = s j := by
  unfold jnF; rw [upd_o h, upd_o (by omega), upd_o (by omega), upd_o (by omega), upd_o (by omega)]
def gPr (rd pc gl : Int32) : Int32 := if 2 < rd then (if rd < 5 then pc else if 1 ≤ pc / 2 then pc / 2 else 1) else if 2 * pc ≤ gl then 2 * pc else gl
/-- a walk at w, of n places, has gone to (x, y) in q rounds -/
def arF (s : Nat → Int32) (w n : Nat) (sg x y q kd : Int32) : Nat → Int32 := upd (jnF (upd s (w + 1) sg) w n x y q kd) (w + 2) (gPr q (s (w + 2)) (s 3))
def gKr (w y0 y1 : Int64) : Int32 := if w < 0 then 2 else if (y0 < 0 ∧ 0 < y1) ∨ (0 < y0 ∧ y1 < 0) then 1 else 0
theorem upd_u {f : Nat → Int32} {k : Nat} {x y : Int32} : upd (upd f k x) k y = upd f k y := by funext j; by_cases h : j = k <;> simp [upd, h]
theorem upd_id {f : Nat → Int32} {k : Nat} {x : Int32} (h : f k = x) : upd f k x = f := by
  funext j
  by_cases e : j = k
  · rw [e, upd_s, h]
  · rw [upd_o e]
abbrev gWr (f : Nat → Int32) (p q : Nat → Nat) (n : Nat) (x y s : Int32) (c : Int64 × Int64 × Nat) : Int64 := gWay (gSum f p q c.1.toInt32.toInt64 c.2.1.toInt32.toInt64 1 n) (gSum f p q c.1.toInt32.toInt64 c.2.1.toInt32.toInt64 2 n) (c.1.toInt32 - x).toInt64 (c.2.1.toInt32 - y).toInt64 s
/-- the flat state after a walk at w has gone from (x, y) to c, tried at pace k -/
def goF (f : Nat → Int32) (p q : Nat → Nat) (n1 : Nat) (s : Nat → Int32) (w n : Nat) (x y : Int32) (k : Nat) (c : Int64 × Int64 × Nat) : Nat → Int32 :=
  arF (upd s (w + 2) (nI k)) w n (if gWr f p q n1 x y (s (w + 1)) c < 0 then -(s (w + 1)) else s (w + 1)) c.1.toInt32 c.2.1.toInt32 (nI c.2.2) (gKr (gWr f p q n1 x y (s (w + 1)) c) (gSum f p q x.toInt64 y.toInt64 2 n1) (gSum f p q c.1.toInt32.toInt64 c.2.1.toInt32.toInt64 2 n1))
