def gRt (v : Option Value) (rest : List Value) : List Value := match v with
  | none => rest
  | some x => x :: rest
theorem gRt_eq (v : Option Value) (rest : List Value) : gRt v rest = v.toList ++ rest := by cases v <;> rfl
/-- a truth value as an int -/
def gB (c : Prop) [Decidable c] : Int32 := if c then 1 else 0
theorem gB_t {c : Prop} [Decidable c] (h : c) : gB c = 1 := if_pos h
theorem gB_f {c : Prop} [Decidable c] (h : ¬ c) : gB c = 0 := if_neg h
theorem gB_eq {c : Prop} [Decidable c] : gB c = 0 ↔ ¬ c := by by_cases h : c <;> simp [gB, h]
theorem gB_ne {c : Prop} [Decidable c] : ¬ gB c = 0 ↔ c := by by_cases h : c <;> simp [gB, h]
theorem gB_nar {c : Prop} [Decidable c] : narrow .boolean (.int (gB c)) = .int (gB c) := by by_cases h : c <;> simp [gB, h] <;> rfl
theorem gB_c {c d : Prop} [Decidable c] [Decidable d] (h : c ↔ d) : gB c = gB d := by by_cases hc : c <;> simp [gB, hc, ← h]
section GM
variable {Γ : gG} {M N : gM} {k n pc : Nat} {L : List (Nat × Value)} {st : List Value} {T : gTy} {r : gR} {l : gLg} {i : gI} {Q : gQ}
theorem G_tldLJ {j : Nat} {x : Int32} (hd : decode M.2.1 pc = .ok (.iaload, 1)) (hx : x = nI j) (hj : j < 3) (hnn : 3 < 2 ^ 31) (kk : G Γ M k n (pc + 1) L (.int (gLo j) :: st) T r l i Q) : G Γ M k n pc L (.int x :: .ref (gaL Γ) :: st) T r l i Q := by
  subst hx
  refine G_tldL hd (vp_in_nI hj hnn) ?_
  rw [nI_clamp (Nat.lt_trans hj hnn)]
  exact kk
theorem G_tldGJ {j : Nat} {x : Int32} (hd : decode M.2.1 pc = .ok (.iaload, 1)) (hx : x = nI j) (hj : j < 3) (hnn : 3 < 2 ^ 31) (kk : G Γ M k n (pc + 1) L (.int (gHi j) :: st) T r l i Q) : G Γ M k n pc L (.int x :: .ref (gaG Γ) :: st) T r l i Q := by
  subst hx
  refine G_tldG hd (vp_in_nI hj hnn) ?_
  rw [nI_clamp (Nat.lt_trans hj hnn)]
  exact kk
theorem G_tldXJ {j : Nat} {x : Int32} (hd : decode M.2.1 pc = .ok (.iaload, 1)) (hx : x = nI j) (hj : j < (gsL Γ)) (hnn : (gsL Γ) < 2 ^ 31) (kk : G Γ M k n (pc + 1) L (.int (gsx Γ j) :: st) T r l i Q) : G Γ M k n pc L (.int x :: .ref (gsb Γ) :: st) T r l i Q := by
  subst hx
  refine G_tldX hd (vp_in_nI hj hnn) ?_
  rw [nI_clamp (Nat.lt_trans hj hnn)]
  exact kk
theorem G_ialdJ {a nn j : Nat} {x : Int32} (hd : decode M.2.1 pc = .ok (.iaload, 1)) (hk : T.2 a = (13, nn)) (hx : x = nI j) (hj : j < nn) (hnn : nn < 2 ^ 31) (kk : G Γ M k n (pc + 1) L (.int (i a j) :: st) T r l i Q) : G Γ M k n pc L (.int x :: .ref a :: st) T r l i Q := by
  subst hx
  refine G_iald hd hk (vp_in_nI hj hnn) ?_
  rw [nI_clamp (Nat.lt_trans hj hnn)]
  exact kk
theorem G_zaldJ {a nn j : Nat} {x : Int32} (hd : decode M.2.1 pc = .ok (.baload, 1)) (hk : T.2 a = (14, nn)) (hx : x = nI j) (hj : j < nn) (hnn : nn < 2 ^ 31) (kk : G Γ M k n (pc + 1) L (.int (i a j) :: st) T r l i Q) : G Γ M k n pc L (.int x :: .ref a :: st) T r l i Q := by
  subst hx
  refine G_zald hd hk (vp_in_nI hj hnn) ?_
  rw [nI_clamp (Nat.lt_trans hj hnn)]
  exact kk
theorem G_aaldWJ {a nn b j : Nat} {x : Int32} (hd : decode M.2.1 pc = .ok (.aaload, 1)) (hk : T.2 a = (16, nn)) (hx : x = nI j) (hj : j < nn) (hnn : nn < 2 ^ 31) (hr : r a j = some b) (kk : G Γ M k n (pc + 1) L (.ref b :: st) T r l i Q) : G Γ M k n pc L (.int x :: .ref a :: st) T r l i Q := by
  subst hx
  exact G_aaldW hd hk (vp_in_nI hj hnn) (by rw [nI_clamp (Nat.lt_trans hj hnn)]; exact hr) kk
theorem G_aaldSJ {a nn b j : Nat} {x : Int32} (hd : decode M.2.1 pc = .ok (.aaload, 1)) (hk : T.2 a = (15, nn)) (hx : x = nI j) (hj : j < nn) (hnn : nn < 2 ^ 31) (hr : r a j = some b) (kk : G Γ M k n (pc + 1) L (.ref b :: st) T r l i Q) : G Γ M k n pc L (.int x :: .ref a :: st) T r l i Q := by
  subst hx
  exact G_aaldS hd hk (vp_in_nI hj hnn) (by rw [nI_clamp (Nat.lt_trans hj hnn)]; exact hr) kk
theorem G_iastJ {a nn j : Nat} {x y : Int32} (hd : decode M.2.1 pc = .ok (.iastore, 1)) (hk : T.2 a = (13, nn)) (hx : x = nI j) (hj : j < nn) (hnn : nn < 2 ^ 31) (hA : gN Γ ≤ a) (kk : G Γ M k n (pc + 1) L st T r l (up2 i a j y) Q) : G Γ M k n pc L (.int y :: .int x :: .ref a :: st) T r l i Q := by
  subst hx
  refine G_iast hd hk (vp_in_nI hj hnn) hA ?_
  rw [nI_clamp (Nat.lt_trans hj hnn)]
  exact kk
theorem G_zastJ {a nn j : Nat} {x y : Int32} (hd : decode M.2.1 pc = .ok (.bastore, 1)) (hk : T.2 a = (14, nn)) (hx : x = nI j) (hj : j < nn) (hnn : nn < 2 ^ 31) (hy : narrow .boolean (.int y) = .int y) (hA : gN Γ ≤ a) (kk : G Γ M k n (pc + 1) L st T r l (up2 i a j y) Q) : G Γ M k n pc L (.int y :: .int x :: .ref a :: st) T r l i Q := by
  subst hx
  refine G_zast hd hk (vp_in_nI hj hnn) hy hA ?_
  rw [nI_clamp (Nat.lt_trans hj hnn)]
  exact kk
theorem G_aastWJ {a nn b j : Nat} {x : Int32} (hd : decode M.2.1 pc = .ok (.aastore, 1)) (hk : T.2 a = (16, nn)) (hx : x = nI j) (hj : j < nn) (hnn : nn < 2 ^ 31) (hb : (T.2 b).1 = 9) (hA : gN Γ ≤ a) (kk : G Γ M k n (pc + 1) L st T (up2 r a j (some b)) l i Q) : G Γ M k n pc L (.ref b :: .int x :: .ref a :: st) T r l i Q := by
  subst hx
  refine G_aastW hd hk hb (vp_in_nI hj hnn) hA ?_
  rw [nI_clamp (Nat.lt_trans hj hnn)]
  exact kk
theorem G_aastSJ {a nn b j : Nat} {x : Int32} (hd : decode M.2.1 pc = .ok (.aastore, 1)) (hk : T.2 a = (15, nn)) (hx : x = nI j) (hj : j < nn) (hnn : nn < 2 ^ 31) (hb : (T.2 b).1 = 6) (hA : gN Γ ≤ a) (kk : G Γ M k n (pc + 1) L st T (up2 r a j (some b)) l i Q) : G Γ M k n pc L (.ref b :: .int x :: .ref a :: st) T r l i Q := by
  subst hx
  refine G_aastS hd hk hb (vp_in_nI hj hnn) hA ?_
  rw [nI_clamp (Nat.lt_trans hj hnn)]
  exact kk
theorem G_subL {L' : List (Nat × Value)} (h : ∀ y ∈ L', y ∈ L) (kk : G Γ M k n pc L' st T r l i Q) : G Γ M k n pc L st T r l i Q := fun p e s m args below meth c H locs ls X F hls hP hS hE => kk p e s m args below meth c H locs ls X F ⟨hls.1, hls.2.1, fun y hy => hls.2.2 y (h y hy)⟩ hP hS hE
theorem G_inc0 {q : Nat} {z : Int} {x v : Int32} {B : List (Nat × Value)} (hd : decode M.2.1 pc = .ok (.iinc q z, 3)) (hv : Int32.ofInt z = v) (hq : q < M.2.2.1) (hk : gKp q false ([] ++ B) = true) (kk : G Γ M k n (pc + 3) ((q, .int (x + v)) :: B) st T r l i Q) : G Γ M k n pc ((q, .int x) :: B) st T r l i Q := G_iinc0 hd hq hk (by rw [hv]; exact kk)
theorem G_drop0 {b0 : Nat × Value} {B : List (Nat × Value)} (kk : G Γ M k n pc (B) st T r l i Q) : G Γ M k n pc (b0 :: B) st T r l i Q := G_subL (fun y hy => by
  have h2 : y ∈ [] ++ B := hy
  show y ∈ [] ++ b0 :: B
  rcases List.mem_append.mp h2 with h | h
  · exact List.mem_append_left _ h
  · exact List.mem_append_right _ (List.mem_cons_of_mem _ h)) kk
theorem G_inc1 {q : Nat} {z : Int} {x v : Int32} {a0 : Nat × Value} {B : List (Nat × Value)} (hd : decode M.2.1 pc = .ok (.iinc q z, 3)) (hv : Int32.ofInt z = v) (hq : q < M.2.2.1) (hk : gKp q false ([a0] ++ B) = true) (kk : G Γ M k n (pc + 3) (a0 :: (q, .int (x + v)) :: B) st T r l i Q) : G Γ M k n pc (a0 :: (q, .int x) :: B) st T r l i Q := G_iinc1 hd hq hk (by rw [hv]; exact kk)
theorem G_drop1 {b0 : Nat × Value} {a0 : Nat × Value} {B : List (Nat × Value)} (kk : G Γ M k n pc (a0 :: B) st T r l i Q) : G Γ M k n pc (a0 :: b0 :: B) st T r l i Q := G_subL (fun y hy => by
  have h2 : y ∈ [a0] ++ B := hy
  show y ∈ [a0] ++ b0 :: B
  rcases List.mem_append.mp h2 with h | h
  · exact List.mem_append_left _ h
  · exact List.mem_append_right _ (List.mem_cons_of_mem _ h)) kk
theorem G_inc2 {q : Nat} {z : Int} {x v : Int32} {a0 a1 : Nat × Value} {B : List (Nat × Value)} (hd : decode M.2.1 pc = .ok (.iinc q z, 3)) (hv : Int32.ofInt z = v) (hq : q < M.2.2.1) (hk : gKp q false ([a0, a1] ++ B) = true) (kk : G Γ M k n (pc + 3) (a0 :: a1 :: (q, .int (x + v)) :: B) st T r l i Q) : G Γ M k n pc (a0 :: a1 :: (q, .int x) :: B) st T r l i Q := G_iinc2 hd hq hk (by rw [hv]; exact kk)
theorem G_drop2 {b0 : Nat × Value} {a0 a1 : Nat × Value} {B : List (Nat × Value)} (kk : G Γ M k n pc (a0 :: a1 :: B) st T r l i Q) : G Γ M k n pc (a0 :: a1 :: b0 :: B) st T r l i Q := G_subL (fun y hy => by
  have h2 : y ∈ [a0, a1] ++ B := hy
  show y ∈ [a0, a1] ++ b0 :: B
  rcases List.mem_append.mp h2 with h | h
  · exact List.mem_append_left _ h
  · exact List.mem_append_right _ (List.mem_cons_of_mem _ h)) kk
theorem G_inc3 {q : Nat} {z : Int} {x v : Int32} {a0 a1 a2 : Nat × Value} {B : List (Nat × Value)} (hd : decode M.2.1 pc = .ok (.iinc q z, 3)) (hv : Int32.ofInt z = v) (hq : q < M.2.2.1) (hk : gKp q false ([a0, a1, a2] ++ B) = true) (kk : G Γ M k n (pc + 3) (a0 :: a1 :: a2 :: (q, .int (x + v)) :: B) st T r l i Q) : G Γ M k n pc (a0 :: a1 :: a2 :: (q, .int x) :: B) st T r l i Q := G_iinc3 hd hq hk (by rw [hv]; exact kk)
theorem G_drop3 {b0 : Nat × Value} {a0 a1 a2 : Nat × Value} {B : List (Nat × Value)} (kk : G Γ M k n pc (a0 :: a1 :: a2 :: B) st T r l i Q) : G Γ M k n pc (a0 :: a1 :: a2 :: b0 :: B) st T r l i Q := G_subL (fun y hy => by
  have h2 : y ∈ [a0, a1, a2] ++ B := hy
  show y ∈ [a0, a1, a2] ++ b0 :: B
  rcases List.mem_append.mp h2 with h | h
  · exact List.mem_append_left _ h
  · exact List.mem_append_right _ (List.mem_cons_of_mem _ h)) kk
theorem G_inc4 {q : Nat} {z : Int} {x v : Int32} {a0 a1 a2 a3 : Nat × Value} {B : List (Nat × Value)} (hd : decode M.2.1 pc = .ok (.iinc q z, 3)) (hv : Int32.ofInt z = v) (hq : q < M.2.2.1) (hk : gKp q false ([a0, a1, a2, a3] ++ B) = true) (kk : G Γ M k n (pc + 3) (a0 :: a1 :: a2 :: a3 :: (q, .int (x + v)) :: B) st T r l i Q) : G Γ M k n pc (a0 :: a1 :: a2 :: a3 :: (q, .int x) :: B) st T r l i Q := G_iinc4 hd hq hk (by rw [hv]; exact kk)
theorem G_drop4 {b0 : Nat × Value} {a0 a1 a2 a3 : Nat × Value} {B : List (Nat × Value)} (kk : G Γ M k n pc (a0 :: a1 :: a2 :: a3 :: B) st T r l i Q) : G Γ M k n pc (a0 :: a1 :: a2 :: a3 :: b0 :: B) st T r l i Q := G_subL (fun y hy => by
  have h2 : y ∈ [a0, a1, a2, a3] ++ B := hy
  show y ∈ [a0, a1, a2, a3] ++ b0 :: B
  rcases List.mem_append.mp h2 with h | h
  · exact List.mem_append_left _ h
  · exact List.mem_append_right _ (List.mem_cons_of_mem _ h)) kk
theorem G_inc5 {q : Nat} {z : Int} {x v : Int32} {a0 a1 a2 a3 a4 : Nat × Value} {B : List (Nat × Value)} (hd : decode M.2.1 pc = .ok (.iinc q z, 3)) (hv : Int32.ofInt z = v) (hq : q < M.2.2.1) (hk : gKp q false ([a0, a1, a2, a3, a4] ++ B) = true) (kk : G Γ M k n (pc + 3) (a0 :: a1 :: a2 :: a3 :: a4 :: (q, .int (x + v)) :: B) st T r l i Q) : G Γ M k n pc (a0 :: a1 :: a2 :: a3 :: a4 :: (q, .int x) :: B) st T r l i Q := G_iinc5 hd hq hk (by rw [hv]; exact kk)
theorem G_drop5 {b0 : Nat × Value} {a0 a1 a2 a3 a4 : Nat × Value} {B : List (Nat × Value)} (kk : G Γ M k n pc (a0 :: a1 :: a2 :: a3 :: a4 :: B) st T r l i Q) : G Γ M k n pc (a0 :: a1 :: a2 :: a3 :: a4 :: b0 :: B) st T r l i Q := G_subL (fun y hy => by
  have h2 : y ∈ [a0, a1, a2, a3, a4] ++ B := hy
  show y ∈ [a0, a1, a2, a3, a4] ++ b0 :: B
  rcases List.mem_append.mp h2 with h | h
  · exact List.mem_append_left _ h
  · exact List.mem_append_right _ (List.mem_cons_of_mem _ h)) kk
theorem G_inc6 {q : Nat} {z : Int} {x v : Int32} {a0 a1 a2 a3 a4 a5 : Nat × Value} {B : List (Nat × Value)} (hd : decode M.2.1 pc = .ok (.iinc q z, 3)) (hv : Int32.ofInt z = v) (hq : q < M.2.2.1) (hk : gKp q false ([a0, a1, a2, a3, a4, a5] ++ B) = true) (kk : G Γ M k n (pc + 3) (a0 :: a1 :: a2 :: a3 :: a4 :: a5 :: (q, .int (x + v)) :: B) st T r l i Q) : G Γ M k n pc (a0 :: a1 :: a2 :: a3 :: a4 :: a5 :: (q, .int x) :: B) st T r l i Q := G_iinc6 hd hq hk (by rw [hv]; exact kk)
theorem G_drop6 {b0 : Nat × Value} {a0 a1 a2 a3 a4 a5 : Nat × Value} {B : List (Nat × Value)} (kk : G Γ M k n pc (a0 :: a1 :: a2 :: a3 :: a4 :: a5 :: B) st T r l i Q) : G Γ M k n pc (a0 :: a1 :: a2 :: a3 :: a4 :: a5 :: b0 :: B) st T r l i Q := G_subL (fun y hy => by
  have h2 : y ∈ [a0, a1, a2, a3, a4, a5] ++ B := hy
  show y ∈ [a0, a1, a2, a3, a4, a5] ++ b0 :: B
  rcases List.mem_append.mp h2 with h | h
  · exact List.mem_append_left _ h
  · exact List.mem_append_right _ (List.mem_cons_of_mem _ h)) kk
theorem G_inc7 {q : Nat} {z : Int} {x v : Int32} {a0 a1 a2 a3 a4 a5 a6 : Nat × Value} {B : List (Nat × Value)} (hd : decode M.2.1 pc = .ok (.iinc q z, 3)) (hv : Int32.ofInt z = v) (hq : q < M.2.2.1) (hk : gKp q false ([a0, a1, a2, a3, a4, a5, a6] ++ B) = true) (kk : G Γ M k n (pc + 3) (a0 :: a1 :: a2 :: a3 :: a4 :: a5 :: a6 :: (q, .int (x + v)) :: B) st T r l i Q) : G Γ M k n pc (a0 :: a1 :: a2 :: a3 :: a4 :: a5 :: a6 :: (q, .int x) :: B) st T r l i Q := G_iinc7 hd hq hk (by rw [hv]; exact kk)
theorem G_drop7 {b0 : Nat × Value} {a0 a1 a2 a3 a4 a5 a6 : Nat × Value} {B : List (Nat × Value)} (kk : G Γ M k n pc (a0 :: a1 :: a2 :: a3 :: a4 :: a5 :: a6 :: B) st T r l i Q) : G Γ M k n pc (a0 :: a1 :: a2 :: a3 :: a4 :: a5 :: a6 :: b0 :: B) st T r l i Q := G_subL (fun y hy => by
  have h2 : y ∈ [a0, a1, a2, a3, a4, a5, a6] ++ B := hy
  show y ∈ [a0, a1, a2, a3, a4, a5, a6] ++ b0 :: B
  rcases List.mem_append.mp h2 with h | h
  · exact List.mem_append_left _ h
  · exact List.mem_append_right _ (List.mem_cons_of_mem _ h)) kk
theorem G_inc8 {q : Nat} {z : Int} {x v : Int32} {a0 a1 a2 a3 a4 a5 a6 a7 : Nat × Value} {B : List (Nat × Value)} (hd : decode M.2.1 pc = .ok (.iinc q z, 3)) (hv : Int32.ofInt z = v) (hq : q < M.2.2.1) (hk : gKp q false ([a0, a1, a2, a3, a4, a5, a6, a7] ++ B) = true) (kk : G Γ M k n (pc + 3) (a0 :: a1 :: a2 :: a3 :: a4 :: a5 :: a6 :: a7 :: (q, .int (x + v)) :: B) st T r l i Q) : G Γ M k n pc (a0 :: a1 :: a2 :: a3 :: a4 :: a5 :: a6 :: a7 :: (q, .int x) :: B) st T r l i Q := G_iinc8 hd hq hk (by rw [hv]; exact kk)
theorem G_drop8 {b0 : Nat × Value} {a0 a1 a2 a3 a4 a5 a6 a7 : Nat × Value} {B : List (Nat × Value)} (kk : G Γ M k n pc (a0 :: a1 :: a2 :: a3 :: a4 :: a5 :: a6 :: a7 :: B) st T r l i Q) : G Γ M k n pc (a0 :: a1 :: a2 :: a3 :: a4 :: a5 :: a6 :: a7 :: b0 :: B) st T r l i Q := G_subL (fun y hy => by
  have h2 : y ∈ [a0, a1, a2, a3, a4, a5, a6, a7] ++ B := hy
  show y ∈ [a0, a1, a2, a3, a4, a5, a6, a7] ++ b0 :: B
  rcases List.mem_append.mp h2 with h | h
  · exact List.mem_append_left _ h
  · exact List.mem_append_right _ (List.mem_cons_of_mem _ h)) kk
theorem G_inc9 {q : Nat} {z : Int} {x v : Int32} {a0 a1 a2 a3 a4 a5 a6 a7 a8 : Nat × Value} {B : List (Nat × Value)} (hd : decode M.2.1 pc = .ok (.iinc q z, 3)) (hv : Int32.ofInt z = v) (hq : q < M.2.2.1) (hk : gKp q false ([a0, a1, a2, a3, a4, a5, a6, a7, a8] ++ B) = true) (kk : G Γ M k n (pc + 3) (a0 :: a1 :: a2 :: a3 :: a4 :: a5 :: a6 :: a7 :: a8 :: (q, .int (x + v)) :: B) st T r l i Q) : G Γ M k n pc (a0 :: a1 :: a2 :: a3 :: a4 :: a5 :: a6 :: a7 :: a8 :: (q, .int x) :: B) st T r l i Q := G_iinc9 hd hq hk (by rw [hv]; exact kk)
theorem G_drop9 {b0 : Nat × Value} {a0 a1 a2 a3 a4 a5 a6 a7 a8 : Nat × Value} {B : List (Nat × Value)} (kk : G Γ M k n pc (a0 :: a1 :: a2 :: a3 :: a4 :: a5 :: a6 :: a7 :: a8 :: B) st T r l i Q) : G Γ M k n pc (a0 :: a1 :: a2 :: a3 :: a4 :: a5 :: a6 :: a7 :: a8 :: b0 :: B) st T r l i Q := G_subL (fun y hy => by
  have h2 : y ∈ [a0, a1, a2, a3, a4, a5, a6, a7, a8] ++ B := hy
  show y ∈ [a0, a1, a2, a3, a4, a5, a6, a7, a8] ++ b0 :: B
  rcases List.mem_append.mp h2 with h | h
  · exact List.mem_append_left _ h
  · exact List.mem_append_right _ (List.mem_cons_of_mem _ h)) kk
theorem G_inc10 {q : Nat} {z : Int} {x v : Int32} {a0 a1 a2 a3 a4 a5 a6 a7 a8 a9 : Nat × Value} {B : List (Nat × Value)} (hd : decode M.2.1 pc = .ok (.iinc q z, 3)) (hv : Int32.ofInt z = v) (hq : q < M.2.2.1) (hk : gKp q false ([a0, a1, a2, a3, a4, a5, a6, a7, a8, a9] ++ B) = true) (kk : G Γ M k n (pc + 3) (a0 :: a1 :: a2 :: a3 :: a4 :: a5 :: a6 :: a7 :: a8 :: a9 :: (q, .int (x + v)) :: B) st T r l i Q) : G Γ M k n pc (a0 :: a1 :: a2 :: a3 :: a4 :: a5 :: a6 :: a7 :: a8 :: a9 :: (q, .int x) :: B) st T r l i Q := G_iinc10 hd hq hk (by rw [hv]; exact kk)
theorem G_drop10 {b0 : Nat × Value} {a0 a1 a2 a3 a4 a5 a6 a7 a8 a9 : Nat × Value} {B : List (Nat × Value)} (kk : G Γ M k n pc (a0 :: a1 :: a2 :: a3 :: a4 :: a5 :: a6 :: a7 :: a8 :: a9 :: B) st T r l i Q) : G Γ M k n pc (a0 :: a1 :: a2 :: a3 :: a4 :: a5 :: a6 :: a7 :: a8 :: a9 :: b0 :: B) st T r l i Q := G_subL (fun y hy => by
  have h2 : y ∈ [a0, a1, a2, a3, a4, a5, a6, a7, a8, a9] ++ B := hy
  show y ∈ [a0, a1, a2, a3, a4, a5, a6, a7, a8, a9] ++ b0 :: B
  rcases List.mem_append.mp h2 with h | h
  · exact List.mem_append_left _ h
  · exact List.mem_append_right _ (List.mem_cons_of_mem _ h)) kk
theorem G_inc11 {q : Nat} {z : Int} {x v : Int32} {a0 a1 a2 a3 a4 a5 a6 a7 a8 a9 a10 : Nat × Value} {B : List (Nat × Value)} (hd : decode M.2.1 pc = .ok (.iinc q z, 3)) (hv : Int32.ofInt z = v) (hq : q < M.2.2.1) (hk : gKp q false ([a0, a1, a2, a3, a4, a5, a6, a7, a8, a9, a10] ++ B) = true) (kk : G Γ M k n (pc + 3) (a0 :: a1 :: a2 :: a3 :: a4 :: a5 :: a6 :: a7 :: a8 :: a9 :: a10 :: (q, .int (x + v)) :: B) st T r l i Q) : G Γ M k n pc (a0 :: a1 :: a2 :: a3 :: a4 :: a5 :: a6 :: a7 :: a8 :: a9 :: a10 :: (q, .int x) :: B) st T r l i Q := G_iinc11 hd hq hk (by rw [hv]; exact kk)
theorem G_drop11 {b0 : Nat × Value} {a0 a1 a2 a3 a4 a5 a6 a7 a8 a9 a10 : Nat × Value} {B : List (Nat × Value)} (kk : G Γ M k n pc (a0 :: a1 :: a2 :: a3 :: a4 :: a5 :: a6 :: a7 :: a8 :: a9 :: a10 :: B) st T r l i Q) : G Γ M k n pc (a0 :: a1 :: a2 :: a3 :: a4 :: a5 :: a6 :: a7 :: a8 :: a9 :: a10 :: b0 :: B) st T r l i Q := G_subL (fun y hy => by
  have h2 : y ∈ [a0, a1, a2, a3, a4, a5, a6, a7, a8, a9, a10] ++ B := hy
  show y ∈ [a0, a1, a2, a3, a4, a5, a6, a7, a8, a9, a10] ++ b0 :: B
  rcases List.mem_append.mp h2 with h | h
  · exact List.mem_append_left _ h
  · exact List.mem_append_right _ (List.mem_cons_of_mem _ h)) kk
theorem G_inc12 {q : Nat} {z : Int} {x v : Int32} {a0 a1 a2 a3 a4 a5 a6 a7 a8 a9 a10 a11 : Nat × Value} {B : List (Nat × Value)} (hd : decode M.2.1 pc = .ok (.iinc q z, 3)) (hv : Int32.ofInt z = v) (hq : q < M.2.2.1) (hk : gKp q false ([a0, a1, a2, a3, a4, a5, a6, a7, a8, a9, a10, a11] ++ B) = true) (kk : G Γ M k n (pc + 3) (a0 :: a1 :: a2 :: a3 :: a4 :: a5 :: a6 :: a7 :: a8 :: a9 :: a10 :: a11 :: (q, .int (x + v)) :: B) st T r l i Q) : G Γ M k n pc (a0 :: a1 :: a2 :: a3 :: a4 :: a5 :: a6 :: a7 :: a8 :: a9 :: a10 :: a11 :: (q, .int x) :: B) st T r l i Q := G_iinc12 hd hq hk (by rw [hv]; exact kk)
theorem G_drop12 {b0 : Nat × Value} {a0 a1 a2 a3 a4 a5 a6 a7 a8 a9 a10 a11 : Nat × Value} {B : List (Nat × Value)} (kk : G Γ M k n pc (a0 :: a1 :: a2 :: a3 :: a4 :: a5 :: a6 :: a7 :: a8 :: a9 :: a10 :: a11 :: B) st T r l i Q) : G Γ M k n pc (a0 :: a1 :: a2 :: a3 :: a4 :: a5 :: a6 :: a7 :: a8 :: a9 :: a10 :: a11 :: b0 :: B) st T r l i Q := G_subL (fun y hy => by
  have h2 : y ∈ [a0, a1, a2, a3, a4, a5, a6, a7, a8, a9, a10, a11] ++ B := hy
  show y ∈ [a0, a1, a2, a3, a4, a5, a6, a7, a8, a9, a10, a11] ++ b0 :: B
  rcases List.mem_append.mp h2 with h | h
  · exact List.mem_append_left _ h
  · exact List.mem_append_right _ (List.mem_cons_of_mem _ h)) kk
theorem G_inc13 {q : Nat} {z : Int} {x v : Int32} {a0 a1 a2 a3 a4 a5 a6 a7 a8 a9 a10 a11 a12 : Nat × Value} {B : List (Nat × Value)} (hd : decode M.2.1 pc = .ok (.iinc q z, 3)) (hv : Int32.ofInt z = v) (hq : q < M.2.2.1) (hk : gKp q false ([a0, a1, a2, a3, a4, a5, a6, a7, a8, a9, a10, a11, a12] ++ B) = true) (kk : G Γ M k n (pc + 3) (a0 :: a1 :: a2 :: a3 :: a4 :: a5 :: a6 :: a7 :: a8 :: a9 :: a10 :: a11 :: a12 :: (q, .int (x + v)) :: B) st T r l i Q) : G Γ M k n pc (a0 :: a1 :: a2 :: a3 :: a4 :: a5 :: a6 :: a7 :: a8 :: a9 :: a10 :: a11 :: a12 :: (q, .int x) :: B) st T r l i Q := G_iinc13 hd hq hk (by rw [hv]; exact kk)
theorem G_drop13 {b0 : Nat × Value} {a0 a1 a2 a3 a4 a5 a6 a7 a8 a9 a10 a11 a12 : Nat × Value} {B : List (Nat × Value)} (kk : G Γ M k n pc (a0 :: a1 :: a2 :: a3 :: a4 :: a5 :: a6 :: a7 :: a8 :: a9 :: a10 :: a11 :: a12 :: B) st T r l i Q) : G Γ M k n pc (a0 :: a1 :: a2 :: a3 :: a4 :: a5 :: a6 :: a7 :: a8 :: a9 :: a10 :: a11 :: a12 :: b0 :: B) st T r l i Q := G_subL (fun y hy => by
  have h2 : y ∈ [a0, a1, a2, a3, a4, a5, a6, a7, a8, a9, a10, a11, a12] ++ B := hy
  show y ∈ [a0, a1, a2, a3, a4, a5, a6, a7, a8, a9, a10, a11, a12] ++ b0 :: B
  rcases List.mem_append.mp h2 with h | h
  · exact List.mem_append_left _ h
  · exact List.mem_append_right _ (List.mem_cons_of_mem _ h)) kk
theorem G_inc14 {q : Nat} {z : Int} {x v : Int32} {a0 a1 a2 a3 a4 a5 a6 a7 a8 a9 a10 a11 a12 a13 : Nat × Value} {B : List (Nat × Value)} (hd : decode M.2.1 pc = .ok (.iinc q z, 3)) (hv : Int32.ofInt z = v) (hq : q < M.2.2.1) (hk : gKp q false ([a0, a1, a2, a3, a4, a5, a6, a7, a8, a9, a10, a11, a12, a13] ++ B) = true) (kk : G Γ M k n (pc + 3) (a0 :: a1 :: a2 :: a3 :: a4 :: a5 :: a6 :: a7 :: a8 :: a9 :: a10 :: a11 :: a12 :: a13 :: (q, .int (x + v)) :: B) st T r l i Q) : G Γ M k n pc (a0 :: a1 :: a2 :: a3 :: a4 :: a5 :: a6 :: a7 :: a8 :: a9 :: a10 :: a11 :: a12 :: a13 :: (q, .int x) :: B) st T r l i Q := G_iinc14 hd hq hk (by rw [hv]; exact kk)
theorem G_drop14 {b0 : Nat × Value} {a0 a1 a2 a3 a4 a5 a6 a7 a8 a9 a10 a11 a12 a13 : Nat × Value} {B : List (Nat × Value)} (kk : G Γ M k n pc (a0 :: a1 :: a2 :: a3 :: a4 :: a5 :: a6 :: a7 :: a8 :: a9 :: a10 :: a11 :: a12 :: a13 :: B) st T r l i Q) : G Γ M k n pc (a0 :: a1 :: a2 :: a3 :: a4 :: a5 :: a6 :: a7 :: a8 :: a9 :: a10 :: a11 :: a12 :: a13 :: b0 :: B) st T r l i Q := G_subL (fun y hy => by
  have h2 : y ∈ [a0, a1, a2, a3, a4, a5, a6, a7, a8, a9, a10, a11, a12, a13] ++ B := hy
  show y ∈ [a0, a1, a2, a3, a4, a5, a6, a7, a8, a9, a10, a11, a12, a13] ++ b0 :: B
  rcases List.mem_append.mp h2 with h | h
  · exact List.mem_append_left _ h
  · exact List.mem_append_right _ (List.mem_cons_of_mem _ h)) kk
theorem G_inc15 {q : Nat} {z : Int} {x v : Int32} {a0 a1 a2 a3 a4 a5 a6 a7 a8 a9 a10 a11 a12 a13 a14 : Nat × Value} {B : List (Nat × Value)} (hd : decode M.2.1 pc = .ok (.iinc q z, 3)) (hv : Int32.ofInt z = v) (hq : q < M.2.2.1) (hk : gKp q false ([a0, a1, a2, a3, a4, a5, a6, a7, a8, a9, a10, a11, a12, a13, a14] ++ B) = true) (kk : G Γ M k n (pc + 3) (a0 :: a1 :: a2 :: a3 :: a4 :: a5 :: a6 :: a7 :: a8 :: a9 :: a10 :: a11 :: a12 :: a13 :: a14 :: (q, .int (x + v)) :: B) st T r l i Q) : G Γ M k n pc (a0 :: a1 :: a2 :: a3 :: a4 :: a5 :: a6 :: a7 :: a8 :: a9 :: a10 :: a11 :: a12 :: a13 :: a14 :: (q, .int x) :: B) st T r l i Q := G_iinc15 hd hq hk (by rw [hv]; exact kk)
theorem G_drop15 {b0 : Nat × Value} {a0 a1 a2 a3 a4 a5 a6 a7 a8 a9 a10 a11 a12 a13 a14 : Nat × Value} {B : List (Nat × Value)} (kk : G Γ M k n pc (a0 :: a1 :: a2 :: a3 :: a4 :: a5 :: a6 :: a7 :: a8 :: a9 :: a10 :: a11 :: a12 :: a13 :: a14 :: B) st T r l i Q) : G Γ M k n pc (a0 :: a1 :: a2 :: a3 :: a4 :: a5 :: a6 :: a7 :: a8 :: a9 :: a10 :: a11 :: a12 :: a13 :: a14 :: b0 :: B) st T r l i Q := G_subL (fun y hy => by
  have h2 : y ∈ [a0, a1, a2, a3, a4, a5, a6, a7, a8, a9, a10, a11, a12, a13, a14] ++ B := hy
  show y ∈ [a0, a1, a2, a3, a4, a5, a6, a7, a8, a9, a10, a11, a12, a13, a14] ++ b0 :: B
  rcases List.mem_append.mp h2 with h | h
  · exact List.mem_append_left _ h
  · exact List.mem_append_right _ (List.mem_cons_of_mem _ h)) kk
theorem gV0 {idx ci b k' n' : Nat} {rest : List Value} (hd : decode M.2.1 pc = .ok (.invokevirtual idx, 3)) (hl : gLkV M.1.cls idx N 0 ci) (hR : gFits M.2.2.2.2 N.2.2.2.2 N.2.2.1) (hc : gCat rest ≤ 8) (hk' : k + N.2.2.2.2.cells = k') (hn' : n + N.2.2.2.2.slots = n') (hf : k' ≤ M.2.2.2.2.cells ∧ n' ≤ M.2.2.2.2.slots) (hb : (T.2 b).1 = ci) (h : gC Γ N (.ref b :: []) T r l i (fun v T1 r1 l1 i1 => G Γ M k' n' (pc + 3) L (gRt v rest) T1 r1 l1 i1 Q)) : G Γ M k n pc L (.ref b :: rest) T r l i Q := G_callV0 hd hl hR hc (by subst hk'; subst hn'; exact hf) hb (h.mono (fun v T1 r1 l1 i1 hG => by subst hk'; subst hn'; rw [gRt_eq] at hG; exact hG))
theorem gI0 {idx b k' n' : Nat} {rest : List Value} (hd : decode M.2.1 pc = .ok (.invokespecial idx, 3)) (hl : gLkI M.1.cls idx N 0) (hR : gFits M.2.2.2.2 N.2.2.2.2 N.2.2.1) (hc : gCat rest ≤ 8) (hk' : k + N.2.2.2.2.cells = k') (hn' : n + N.2.2.2.2.slots = n') (hf : k' ≤ M.2.2.2.2.cells ∧ n' ≤ M.2.2.2.2.slots) (h : gC Γ N [.ref b] T r l i (fun v T1 r1 l1 i1 => G Γ M k' n' (pc + 3) L (gRt v rest) T1 r1 l1 i1 Q)) : G Γ M k n pc L (.ref b :: rest) T r l i Q := G_callI0 hd hl hR hc (by subst hk'; subst hn'; exact hf) (h.mono (fun v T1 r1 l1 i1 hG => by subst hk'; subst hn'; rw [gRt_eq] at hG; exact hG))
theorem gV1 {idx ci b k' n' : Nat} {v1 : Value} {rest : List Value} (hd : decode M.2.1 pc = .ok (.invokevirtual idx, 3)) (hl : gLkV M.1.cls idx N 1 ci) (hR : gFits M.2.2.2.2 N.2.2.2.2 N.2.2.1) (hc : gCat rest ≤ 8) (hk' : k + N.2.2.2.2.cells = k') (hn' : n + N.2.2.2.2.slots = n') (hf : k' ≤ M.2.2.2.2.cells ∧ n' ≤ M.2.2.2.2.slots) (hb : (T.2 b).1 = ci) (h : gC Γ N (.ref b :: [v1]) T r l i (fun v T1 r1 l1 i1 => G Γ M k' n' (pc + 3) L (gRt v rest) T1 r1 l1 i1 Q)) : G Γ M k n pc L (v1 :: .ref b :: rest) T r l i Q := G_callV1 hd hl hR hc (by subst hk'; subst hn'; exact hf) hb (h.mono (fun v T1 r1 l1 i1 hG => by subst hk'; subst hn'; rw [gRt_eq] at hG; exact hG))
theorem gS1 {idx k' n' : Nat} {v1 : Value} {rest : List Value} (hd : decode M.2.1 pc = .ok (.invokestatic idx, 3)) (hl : gLkS M.1.cls idx N 1) (hR : gFits M.2.2.2.2 N.2.2.2.2 N.2.2.1) (hc : gCat rest ≤ 8) (hk' : k + N.2.2.2.2.cells = k') (hn' : n + N.2.2.2.2.slots = n') (hf : k' ≤ M.2.2.2.2.cells ∧ n' ≤ M.2.2.2.2.slots) (h : gC Γ N [v1] T r l i (fun v T1 r1 l1 i1 => G Γ M k' n' (pc + 3) L (gRt v rest) T1 r1 l1 i1 Q)) : G Γ M k n pc L (v1 :: rest) T r l i Q := G_callS1 hd hl hR hc (by subst hk'; subst hn'; exact hf) (h.mono (fun v T1 r1 l1 i1 hG => by subst hk'; subst hn'; rw [gRt_eq] at hG; exact hG))
theorem gV2 {idx ci b k' n' : Nat} {v1 v2 : Value} {rest : List Value} (hd : decode M.2.1 pc = .ok (.invokevirtual idx, 3)) (hl : gLkV M.1.cls idx N 2 ci) (hR : gFits M.2.2.2.2 N.2.2.2.2 N.2.2.1) (hc : gCat rest ≤ 8) (hk' : k + N.2.2.2.2.cells = k') (hn' : n + N.2.2.2.2.slots = n') (hf : k' ≤ M.2.2.2.2.cells ∧ n' ≤ M.2.2.2.2.slots) (hb : (T.2 b).1 = ci) (h : gC Γ N (.ref b :: [v1, v2]) T r l i (fun v T1 r1 l1 i1 => G Γ M k' n' (pc + 3) L (gRt v rest) T1 r1 l1 i1 Q)) : G Γ M k n pc L (v2 :: v1 :: .ref b :: rest) T r l i Q := G_callV2 hd hl hR hc (by subst hk'; subst hn'; exact hf) hb (h.mono (fun v T1 r1 l1 i1 hG => by subst hk'; subst hn'; rw [gRt_eq] at hG; exact hG))
theorem gS2 {idx k' n' : Nat} {v1 v2 : Value} {rest : List Value} (hd : decode M.2.1 pc = .ok (.invokestatic idx, 3)) (hl : gLkS M.1.cls idx N 2) (hR : gFits M.2.2.2.2 N.2.2.2.2 N.2.2.1) (hc : gCat rest ≤ 8) (hk' : k + N.2.2.2.2.cells = k') (hn' : n + N.2.2.2.2.slots = n') (hf : k' ≤ M.2.2.2.2.cells ∧ n' ≤ M.2.2.2.2.slots) (h : gC Γ N [v1, v2] T r l i (fun v T1 r1 l1 i1 => G Γ M k' n' (pc + 3) L (gRt v rest) T1 r1 l1 i1 Q)) : G Γ M k n pc L (v2 :: v1 :: rest) T r l i Q := G_callS2 hd hl hR hc (by subst hk'; subst hn'; exact hf) (h.mono (fun v T1 r1 l1 i1 hG => by subst hk'; subst hn'; rw [gRt_eq] at hG; exact hG))
theorem gV3 {idx ci b k' n' : Nat} {v1 v2 v3 : Value} {rest : List Value} (hd : decode M.2.1 pc = .ok (.invokevirtual idx, 3)) (hl : gLkV M.1.cls idx N 3 ci) (hR : gFits M.2.2.2.2 N.2.2.2.2 N.2.2.1) (hc : gCat rest ≤ 8) (hk' : k + N.2.2.2.2.cells = k') (hn' : n + N.2.2.2.2.slots = n') (hf : k' ≤ M.2.2.2.2.cells ∧ n' ≤ M.2.2.2.2.slots) (hb : (T.2 b).1 = ci) (h : gC Γ N (.ref b :: [v1, v2, v3]) T r l i (fun v T1 r1 l1 i1 => G Γ M k' n' (pc + 3) L (gRt v rest) T1 r1 l1 i1 Q)) : G Γ M k n pc L (v3 :: v2 :: v1 :: .ref b :: rest) T r l i Q := G_callV3 hd hl hR hc (by subst hk'; subst hn'; exact hf) hb (h.mono (fun v T1 r1 l1 i1 hG => by subst hk'; subst hn'; rw [gRt_eq] at hG; exact hG))
theorem gS3 {idx k' n' : Nat} {v1 v2 v3 : Value} {rest : List Value} (hd : decode M.2.1 pc = .ok (.invokestatic idx, 3)) (hl : gLkS M.1.cls idx N 3) (hR : gFits M.2.2.2.2 N.2.2.2.2 N.2.2.1) (hc : gCat rest ≤ 8) (hk' : k + N.2.2.2.2.cells = k') (hn' : n + N.2.2.2.2.slots = n') (hf : k' ≤ M.2.2.2.2.cells ∧ n' ≤ M.2.2.2.2.slots) (h : gC Γ N [v1, v2, v3] T r l i (fun v T1 r1 l1 i1 => G Γ M k' n' (pc + 3) L (gRt v rest) T1 r1 l1 i1 Q)) : G Γ M k n pc L (v3 :: v2 :: v1 :: rest) T r l i Q := G_callS3 hd hl hR hc (by subst hk'; subst hn'; exact hf) (h.mono (fun v T1 r1 l1 i1 hG => by subst hk'; subst hn'; rw [gRt_eq] at hG; exact hG))
theorem gV4 {idx ci b k' n' : Nat} {v1 v2 v3 v4 : Value} {rest : List Value} (hd : decode M.2.1 pc = .ok (.invokevirtual idx, 3)) (hl : gLkV M.1.cls idx N 4 ci) (hR : gFits M.2.2.2.2 N.2.2.2.2 N.2.2.1) (hc : gCat rest ≤ 8) (hk' : k + N.2.2.2.2.cells = k') (hn' : n + N.2.2.2.2.slots = n') (hf : k' ≤ M.2.2.2.2.cells ∧ n' ≤ M.2.2.2.2.slots) (hb : (T.2 b).1 = ci) (h : gC Γ N (.ref b :: [v1, v2, v3, v4]) T r l i (fun v T1 r1 l1 i1 => G Γ M k' n' (pc + 3) L (gRt v rest) T1 r1 l1 i1 Q)) : G Γ M k n pc L (v4 :: v3 :: v2 :: v1 :: .ref b :: rest) T r l i Q := G_callV4 hd hl hR hc (by subst hk'; subst hn'; exact hf) hb (h.mono (fun v T1 r1 l1 i1 hG => by subst hk'; subst hn'; rw [gRt_eq] at hG; exact hG))
theorem gS4 {idx k' n' : Nat} {v1 v2 v3 v4 : Value} {rest : List Value} (hd : decode M.2.1 pc = .ok (.invokestatic idx, 3)) (hl : gLkS M.1.cls idx N 4) (hR : gFits M.2.2.2.2 N.2.2.2.2 N.2.2.1) (hc : gCat rest ≤ 8) (hk' : k + N.2.2.2.2.cells = k') (hn' : n + N.2.2.2.2.slots = n') (hf : k' ≤ M.2.2.2.2.cells ∧ n' ≤ M.2.2.2.2.slots) (h : gC Γ N [v1, v2, v3, v4] T r l i (fun v T1 r1 l1 i1 => G Γ M k' n' (pc + 3) L (gRt v rest) T1 r1 l1 i1 Q)) : G Γ M k n pc L (v4 :: v3 :: v2 :: v1 :: rest) T r l i Q := G_callS4 hd hl hR hc (by subst hk'; subst hn'; exact hf) (h.mono (fun v T1 r1 l1 i1 hG => by subst hk'; subst hn'; rw [gRt_eq] at hG; exact hG))
theorem gV5 {idx ci b k' n' : Nat} {v1 v2 v3 v4 v5 : Value} {rest : List Value} (hd : decode M.2.1 pc = .ok (.invokevirtual idx, 3)) (hl : gLkV M.1.cls idx N 5 ci) (hR : gFits M.2.2.2.2 N.2.2.2.2 N.2.2.1) (hc : gCat rest ≤ 8) (hk' : k + N.2.2.2.2.cells = k') (hn' : n + N.2.2.2.2.slots = n') (hf : k' ≤ M.2.2.2.2.cells ∧ n' ≤ M.2.2.2.2.slots) (hb : (T.2 b).1 = ci) (h : gC Γ N (.ref b :: [v1, v2, v3, v4, v5]) T r l i (fun v T1 r1 l1 i1 => G Γ M k' n' (pc + 3) L (gRt v rest) T1 r1 l1 i1 Q)) : G Γ M k n pc L (v5 :: v4 :: v3 :: v2 :: v1 :: .ref b :: rest) T r l i Q := G_callV5 hd hl hR hc (by subst hk'; subst hn'; exact hf) hb (h.mono (fun v T1 r1 l1 i1 hG => by subst hk'; subst hn'; rw [gRt_eq] at hG; exact hG))
theorem gS5 {idx k' n' : Nat} {v1 v2 v3 v4 v5 : Value} {rest : List Value} (hd : decode M.2.1 pc = .ok (.invokestatic idx, 3)) (hl : gLkS M.1.cls idx N 5) (hR : gFits M.2.2.2.2 N.2.2.2.2 N.2.2.1) (hc : gCat rest ≤ 8) (hk' : k + N.2.2.2.2.cells = k') (hn' : n + N.2.2.2.2.slots = n') (hf : k' ≤ M.2.2.2.2.cells ∧ n' ≤ M.2.2.2.2.slots) (h : gC Γ N [v1, v2, v3, v4, v5] T r l i (fun v T1 r1 l1 i1 => G Γ M k' n' (pc + 3) L (gRt v rest) T1 r1 l1 i1 Q)) : G Γ M k n pc L (v5 :: v4 :: v3 :: v2 :: v1 :: rest) T r l i Q := G_callS5 hd hl hR hc (by subst hk'; subst hn'; exact hf) (h.mono (fun v T1 r1 l1 i1 hG => by subst hk'; subst hn'; rw [gRt_eq] at hG; exact hG))
theorem gV6 {idx ci b k' n' : Nat} {v1 v2 v3 v4 v5 v6 : Value} {rest : List Value} (hd : decode M.2.1 pc = .ok (.invokevirtual idx, 3)) (hl : gLkV M.1.cls idx N 6 ci) (hR : gFits M.2.2.2.2 N.2.2.2.2 N.2.2.1) (hc : gCat rest ≤ 8) (hk' : k + N.2.2.2.2.cells = k') (hn' : n + N.2.2.2.2.slots = n') (hf : k' ≤ M.2.2.2.2.cells ∧ n' ≤ M.2.2.2.2.slots) (hb : (T.2 b).1 = ci) (h : gC Γ N (.ref b :: [v1, v2, v3, v4, v5, v6]) T r l i (fun v T1 r1 l1 i1 => G Γ M k' n' (pc + 3) L (gRt v rest) T1 r1 l1 i1 Q)) : G Γ M k n pc L (v6 :: v5 :: v4 :: v3 :: v2 :: v1 :: .ref b :: rest) T r l i Q := G_callV6 hd hl hR hc (by subst hk'; subst hn'; exact hf) hb (h.mono (fun v T1 r1 l1 i1 hG => by subst hk'; subst hn'; rw [gRt_eq] at hG; exact hG))
theorem gS6 {idx k' n' : Nat} {v1 v2 v3 v4 v5 v6 : Value} {rest : List Value} (hd : decode M.2.1 pc = .ok (.invokestatic idx, 3)) (hl : gLkS M.1.cls idx N 6) (hR : gFits M.2.2.2.2 N.2.2.2.2 N.2.2.1) (hc : gCat rest ≤ 8) (hk' : k + N.2.2.2.2.cells = k') (hn' : n + N.2.2.2.2.slots = n') (hf : k' ≤ M.2.2.2.2.cells ∧ n' ≤ M.2.2.2.2.slots) (h : gC Γ N [v1, v2, v3, v4, v5, v6] T r l i (fun v T1 r1 l1 i1 => G Γ M k' n' (pc + 3) L (gRt v rest) T1 r1 l1 i1 Q)) : G Γ M k n pc L (v6 :: v5 :: v4 :: v3 :: v2 :: v1 :: rest) T r l i Q := G_callS6 hd hl hR hc (by subst hk'; subst hn'; exact hf) (h.mono (fun v T1 r1 l1 i1 hG => by subst hk'; subst hn'; rw [gRt_eq] at hG; exact hG))
end GM
