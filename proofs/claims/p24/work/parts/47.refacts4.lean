/-! drop, undo, fault, type, clearText -/
/-- F is what is left of s without walk a and its family -/
def drS (s F : Nat → Int32) (a : Nat) : Prop := F 1 = nI (kc (gPr4 s) a (nW s)) ∧ (∀ j, j < 23 → j ≠ 1 → F j = s j) ∧ ∀ j, j < nW s → ¬ fam (gPr4 s) a j = true → ∀ c, c < 166 → F (23 + 166 * kc (gPr4 s) a j + c) = if c = 4 then npR (gPr4 s) a j else s (23 + 166 * j + c)
def aFault (tx : Nat → Int32) (ln : Nat) (S : Nat → Int32) (x : Int32) : Int32 := if inI x 0 1 then (if (rfAll tx ln S).1 = true then -1000004 else if x = 0 then nI (rfAll tx ln S).2.1 else (rfAll tx ln S).2.2.1) else -1000001
