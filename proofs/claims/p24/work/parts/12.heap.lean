/-- what getfield and putfield need of the tables: field j of class ci, of kind t (0 ref, 1 int, 2 long), of type ty -/
def gFl (own : String) (idx ci j t : Nat) (ty : FieldType) (fin : Bool) : Prop := ∃ (C : String) (Tb : u_T) (N : Nat) (ty0 : Nat → FieldType), vwCl[ci]? = some (C, Tb, N) ∧ j < N ∧ (gT ci)[j]? = some t ∧ ci < 13 ∧ (∀ w ∈ u_ws C Tb N, w ∈ gw) ∧ (∀ k, k < N → parseFieldDescriptor (Tb k).2.2.1 = some (ty0 k)) ∧ (∀ a, a < N → ∀ b, b < N → a ≠ b → (Tb a).2.1 ≠ (Tb b).2.1) ∧ ty0 j = ty ∧ (Tb j).2.2.2 = fin ∧ (gT ci).length = N ∧ (Cond.fieldLink own idx (Tb j).1 (Tb j).2.1 (Tb j).2.2.1 ∈ gw ∨ ∃ host, Cond.fieldLinkNest own idx (Tb j).1 (Tb j).2.1 (Tb j).2.2.1 host ∈ gnw)
/-- .. and a final one in its constructor -/
def gFf (own : String) (idx ci j : Nat) (ty : FieldType) : Prop := ∃ (Tb : u_T) (N : Nat) (ty0 : Nat → FieldType), vwCl[ci]? = some (own, Tb, N) ∧ j < N ∧ (gT ci)[j]? = some 0 ∧ ci < 13 ∧ (∀ w ∈ u_ws own Tb N, w ∈ gw) ∧ (∀ k, k < N → parseFieldDescriptor (Tb k).2.2.1 = some (ty0 k)) ∧ (∀ a, a < N → ∀ b, b < N → a ≠ b → (Tb a).2.1 ≠ (Tb b).2.1) ∧ ty0 j = ty ∧ (Tb j).2.2.2 = true ∧ (gT ci).length = N ∧ (Tb j).1 = own ∧ Cond.fieldLink own idx (Tb j).1 (Tb j).2.1 (Tb j).2.2.1 ∈ gw
theorem gF_kind {ci j t : Nat} (h : (gT ci)[j]? = some t) (r : Nat → Option Nat) (l : Nat → Int64) (i : Nat → Int32) : (gF (gT ci) 0 r l i)[j]? = some (gV t (r j) (l j) (i j)) := by rw [gF_get, h, Nat.zero_add]; rfl
def up2 {α : Type} (f : Nat → Nat → α) (a j : Nat) (x : α) : Nat → Nat → α := va_up f a (fun q => if q = j then x else f a q)
theorem up2_ne {α : Type} {f : Nat → Nat → α} {a j : Nat} {x : α} {b : Nat} (h : b ≠ a) : up2 f a j x b = f b := by unfold up2 va_up; rw [if_neg h]
theorem up2_at {α : Type} (f : Nat → Nat → α) (a j : Nat) (x : α) : up2 f a j x a = fun q => if q = j then x else f a q := by unfold up2 va_up; rw [if_pos rfl]
theorem up2_self {α : Type} (f : Nat → Nat → α) (a j : Nat) (x : α) : up2 f a j x a j = x := by rw [up2_at]; simp
theorem up2_row {α : Type} {f : Nat → Nat → α} {a j q : Nat} {x : α} (h : q ≠ j) : up2 f a j x a q = f a q := by rw [up2_at]; simp [h]
theorem up2_def {α : Type} (f : Nat → Nat → α) (a j : Nat) (x : α) (b q : Nat) : up2 f a j x b q = if b = a then (if q = j then x else f a q) else f b q := by
  unfold up2 va_up
  by_cases h : b = a
  · simp [h]
  · simp [h]
section GH
variable {Γ : gG} {M N : gM} {k n pc : Nat} {L : List (Nat × Value)} {st : List Value} {T : gTy} {r : gR} {l : gLg} {i : gI} {Q : gQ}
theorem gGet {idx ci j a t : Nat} {ty : FieldType} {fin : Bool} (hd : decode M.2.1 pc = .ok (.getfield idx, 3)) (hf : gFl M.1.cls idx ci j t ty fin) (hk : (T.2 a).1 = ci) (kk : G Γ M k n (pc + 3) L (gV t (r a j) (l a j) (i a j) :: st) T r l i Q) : G Γ M k n pc L (.ref a :: st) T r l i Q := by
  intro p e s m args below meth c H locs ls X F hls hP hS hE
  obtain ⟨C, Tb, N, ty0, hcl, hj, ht, hci, hin, hty, hnm, -, -, -, hl⟩ := hf
  have hv := gF_kind ht (r a) (l a) (i a)
  rcases hl with hl | ⟨host, hl⟩
  · exact va_get (own := M.1.cls) (ref := (Tb j).1) F.1 F.2.1 F.2.2.2.2.1 hin F.2.2.2.1 F.2.2.2.2.2.1.2.1 (gP1 (hP.obj hk hci)) 0 rfl hcl j hj (F.2.2.2.2.1 _ hl) (fun _ h => h) hv hd (kk p e s m args below meth c H locs ls X F hls hP hS hE)
  · exact va_getN (own := M.1.cls) (ref := (Tb j).1) (host := host) F.1 F.2.1 F.2.2.2.2.1 hin F.2.2.2.1 F.2.2.2.2.2.1.2.1 (gP1 (hP.obj hk hci)) 0 rfl hcl j hj (va_Nw.use rfl (F.2.2.2.2.2.1.1 _ hl)) (fun _ h => h) hv hd (kk p e s m args below meth c H locs ls X F hls hP hS hE)
theorem G_getI {idx ci j a : Nat} {ty : FieldType} {fin : Bool} (hd : decode M.2.1 pc = .ok (.getfield idx, 3)) (hf : gFl M.1.cls idx ci j 1 ty fin) (hk : (T.2 a).1 = ci) (kk : G Γ M k n (pc + 3) L (.int (i a j) :: st) T r l i Q) : G Γ M k n pc L (.ref a :: st) T r l i Q := gGet hd hf hk kk
theorem G_getL {idx ci j a : Nat} {ty : FieldType} {fin : Bool} (hd : decode M.2.1 pc = .ok (.getfield idx, 3)) (hf : gFl M.1.cls idx ci j 2 ty fin) (hk : (T.2 a).1 = ci) (kk : G Γ M k n (pc + 3) L (.long (l a j) :: st) T r l i Q) : G Γ M k n pc L (.ref a :: st) T r l i Q := gGet hd hf hk kk
theorem G_getR {idx ci j a b : Nat} {ty : FieldType} {fin : Bool} (hd : decode M.2.1 pc = .ok (.getfield idx, 3)) (hf : gFl M.1.cls idx ci j 0 ty fin) (hk : (T.2 a).1 = ci) (hr : r a j = some b) (kk : G Γ M k n (pc + 3) L (.ref b :: st) T r l i Q) : G Γ M k n pc L (.ref a :: st) T r l i Q := gGet hd hf hk (by rw [hr]; exact kk)
/-- the put, over the heap: the object's cell with its new field, all others as they were -/
theorem gPut {idx ci j a t : Nat} {ty : FieldType} {v : Value} (hd : decode M.2.1 pc = .ok (.putfield idx, 3)) (hf : gFl M.1.cls idx ci j t ty false) (hk : (T.2 a).1 = ci) (hn : narrow ty v = v) (hfit : fits ty v = true) (hA : gN Γ ≤ a) {l' : gLg} {i' : gI} (hl' : ∀ b, b ≠ a → l' b = l b) (hi' : ∀ b, b ≠ a → i' b = i b) (hv : ∀ q t', (gT ci)[q]? = some t' → gV t' (r a q) (l' a q) (i' a q) = if q = j then v else gV t' (r a q) (l a q) (i a q)) (kk : G Γ M k n (pc + 3) L st T r l' i' Q) : G Γ M k n pc L (v :: .ref a :: st) T r l i Q := by
  intro p e s m args below meth c H locs ls X F hls hP hS hE
  obtain ⟨C, Tb, N, ty0, hcl, hj, ht, hci, hin, hty, hnm, htyj, hfin, hN, hl⟩ := hf
  subst htyj
  have hts := F.2.2.2.2.1
  have hK := F.2.2.2.2.2.1.2.1
  have hap := va_apart (own := M.1.cls) hts hin ty0 hty hnm hK hcl
  obtain ⟨rr, h1, cell, q1, q2, q3, q4⟩ := hP.obj hk hci
  have hr : rr = (C, Tb, N) := Option.some.inj (h1.symm.trans hcl)
  subst hr
  obtain ⟨hSl, hfc, kC, hkC, hkind⟩ := hK.1 ci _ hcl
  obtain ⟨cf, kf, fi, f, hi, hsl⟩ := hSl j hj
  have hlay := hts _ (hin _ (u_in_lay hj))
  unfold u_lay at hlay
  rw [if_neg (by rw [hfin]; decide)] at hlay
  have hst := (u_facts hfc hkC (u_lays hts hin hj) hi).1
  have h6 := u_store hfc hkC hkind hlay hi (hty j hj) hn hfit
  have fin : ∀ H' : Heap, H'[a]? = some (cell.setSlot f.slot v) → H'.size = H.size → (∀ q, q ≠ a → H'[q]? = H[q]?) → W p Γ.1 e M.2.2.2.2 s m args below meth c H' (locs ++ [⟨a, f.slot⟩]) k n X (F0 m (pc + 3) ls st) := by
    intro H' e1 e2 e3
    rw [hsl] at e1 ⊢
    refine kk p e s m args below meth c H' _ ls X F hls ?_ (hS.put e2 e3 hA) hE
    have hmid : gPW Γ T r l' i' H' := by
      refine ⟨e2.trans hP.1, hP.2.1, fun b e hb => ?_⟩
      by_cases hba : b = a
      · subst hba
        unfold gE at hb
        rw [hk, if_pos hci] at hb
        cases hb
        refine ⟨_, hcl, t_OB.to (V := updV (vp_V (gF (gT ci) 0 (r b) (l b) (i b))) j v) ⟨_, e1, q2, q3, t_set q4 hap hj v⟩ (fun q hq => ?_)⟩
        rw [gF_at]
        unfold updV
        rw [gF_at]
        have hq2 : q < (gT ci).length := by rw [hN]; exact hq
        rw [List.getElem?_eq_getElem hq2, Option.map_some, Option.map_some, Option.getD_some, Option.getD_some, hv q _ (List.getElem?_eq_getElem hq2)]
      · rw [hl' b hba, hi' b hba] at hb
        exact (hP.2.2 b e hb).kept (e3 b hba)
    exact hmid
  rcases hl with hl | ⟨host, hl⟩
  · exact W.putK F.1 F.2.1 (f := f) ⟨F.2.2.2.1, hts _ hl, ⟨_, _, _, hi⟩, hst⟩ (by rw [q2]; exact h6) q1 q3 (by rw [hsl]; exact k2_hasslot (q4 j hj)) rfl rfl hd fin
  · exact va_WputK F.1 F.2.1 (f := f) F.2.2.2.1 (va_Nw.use rfl (F.2.2.2.2.2.1.1 _ hl)) hi hst (by rw [q2]; exact h6) q1 q3 (by rw [hsl]; exact k2_hasslot (q4 j hj)) rfl rfl hd fin
theorem G_putI {idx ci j a : Nat} {ty : FieldType} {x : Int32} (hd : decode M.2.1 pc = .ok (.putfield idx, 3)) (hf : gFl M.1.cls idx ci j 1 ty false) (hk : (T.2 a).1 = ci) (hn : narrow ty (.int x) = .int x) (hfit : fits ty (.int x) = true) (hA : gN Γ ≤ a) (kk : G Γ M k n (pc + 3) L st T r l (up2 i a j x) Q) : G Γ M k n pc L (.int x :: .ref a :: st) T r l i Q := by
  refine gPut hd hf hk hn hfit hA (fun _ _ => rfl) (fun b hb => up2_ne hb) (fun q t' ht' => ?_) kk
  obtain ⟨C, Tb, N, ty0, hcl, hj, ht, -⟩ := hf
  rw [up2_at]
  by_cases hq : q = j
  · subst hq
    rw [ht] at ht'
    cases ht'
    simp [gV]
  · simp [hq]
theorem G_putL {idx ci j a : Nat} {x : Int64} (hd : decode M.2.1 pc = .ok (.putfield idx, 3)) (hf : gFl M.1.cls idx ci j 2 .long false) (hk : (T.2 a).1 = ci) (hA : gN Γ ≤ a) (kk : G Γ M k n (pc + 3) L st T r (up2 l a j x) i Q) : G Γ M k n pc L (.long x :: .ref a :: st) T r l i Q := by
  refine gPut hd hf hk rfl rfl hA (fun b hb => up2_ne hb) (fun _ _ => rfl) (fun q t' ht' => ?_) kk
  obtain ⟨C, Tb, N, ty0, hcl, hj, ht, -⟩ := hf
  rw [up2_at]
  by_cases hq : q = j
  · subst hq
    rw [ht] at ht'
    cases ht'
    simp [gV]
  · simp [hq]
/-- a final reference in its constructor -/
theorem G_putF {idx ci j a b : Nat} {ty : FieldType} (hd : decode M.2.1 pc = .ok (.putfield idx, 3)) (hf : gFf M.1.cls idx ci j ty) (hinit : M.1.name = "<init>") (hk : (T.2 a).1 = ci) (hn : narrow ty (.ref b) = .ref b) (hfit : fits ty (.ref b) = true) (hA : gN Γ ≤ a) (kk : G Γ M k n (pc + 3) L st T (up2 r a j (some b)) l i Q) : G Γ M k n pc L (.ref b :: .ref a :: st) T r l i Q := by
  intro p e s m args below meth c H locs ls X F hls hP hS hE
  obtain ⟨Tb, N, ty0, hcl, hj, ht, hci, hin, hty, hnm, htyj, hfin, hN, hdecl, hl⟩ := hf
  subst htyj
  have hts := F.2.2.2.2.1
  have hK := F.2.2.2.2.2.1.2.1
  have hap := va_apart (own := M.1.cls) hts hin ty0 hty hnm hK hcl
  obtain ⟨rr, h1, cell, q1, q2, q3, q4⟩ := hP.obj hk hci
  have hr : rr = (M.1.cls, Tb, N) := Option.some.inj (h1.symm.trans hcl)
  subst hr
  obtain ⟨hSl, hfc, kC, hkC, hkind⟩ := hK.1 ci _ hcl
  obtain ⟨cf, kf, fi, f, hi, hsl⟩ := hSl j hj
  have hlay := hts _ (hin _ (u_in_lay hj))
  unfold u_lay at hlay
  rw [if_pos hfin] at hlay
  have hst := (u_facts hfc hkC (u_lays hts hin hj) hi).1
  have h6 := u_fits hfc hkC hkind (u_lays hts hin hj) hi (hty j hj) hn hfit
  have hown : s.vm.findClass (Tb j).1 = some m.cls := by rw [hdecl]; exact F.2.2.2.1
  have hcf : m.cls = cf := by
    have hlay2 : (Cond.laysFinal M.1.cls (Tb j).1 (Tb j).2.1 (Tb j).2.2.1).before args s = true := hlay
    rw [hdecl] at hlay2 hi
    exact laid_decl F.2.2.2.1 hlay2 hi
  refine W.putFinK F.1 F.2.1 F.2.2.2.1 (hts _ hl) hi hst hcf (F.2.2.2.2.2.2.2 hinit) (by rw [q2]; exact h6) q1 q3 (by rw [hsl]; exact k2_hasslot (q4 j hj)) rfl rfl hd fun H' e1 e2 e3 => ?_
  rw [hsl] at e1 ⊢
  refine kk p e s m args below meth c H' _ ls X F hls ?_ (hS.put e2 e3 hA) hE
  refine hP.put e2 e3 (fun b hb => up2_ne hb) (fun _ _ => rfl) (fun e he => ?_)
  unfold gE at he
  rw [hk, if_pos hci] at he
  cases he
  refine ⟨_, hcl, t_OB.to (V := updV (vp_V (gF (gT ci) 0 (r a) (l a) (i a))) j (.ref b)) ⟨_, e1, q2, q3, t_set q4 hap hj _⟩ (fun q hq => ?_)⟩
  rw [gF_at]
  unfold updV
  rw [gF_at]
  have hq2 : q < (gT ci).length := by rw [hN]; exact hq
  rw [List.getElem?_eq_getElem hq2, Option.map_some, Option.map_some, Option.getD_some, Option.getD_some, up2_at]
  by_cases hqj : q = j
  · subst hqj
    rw [List.getElem?_eq_getElem hq2] at ht
    rw [Option.some.inj ht]
    simp [gV, va_rf]
  · simp [hqj]
theorem G_iald {a nn : Nat} {x : Int32} (hd : decode M.2.1 pc = .ok (.iaload, 1)) (hk : T.2 a = (13, nn)) (hin : vp_in x nn) (kk : G Γ M k n (pc + 1) L (.int (i a x.toNatClampNeg) :: st) T r l i Q) : G Γ M k n pc L (.int x :: .ref a :: st) T r l i Q := fun p e s m args below meth c H locs ls X F hls hP hS hE => va_iald F.1 F.2.1 F.2.2.2.2.2.1.2.1 (gP1 (hP.ints hk)) 0 0 rfl rfl hin hd (kk p e s m args below meth c H locs ls X F hls hP hS hE)
theorem G_zald {a nn : Nat} {x : Int32} (hd : decode M.2.1 pc = .ok (.baload, 1)) (hk : T.2 a = (14, nn)) (hin : vp_in x nn) (kk : G Γ M k n (pc + 1) L (.int (i a x.toNatClampNeg) :: st) T r l i Q) : G Γ M k n pc L (.int x :: .ref a :: st) T r l i Q := fun p e s m args below meth c H locs ls X F hls hP hS hE => va_zald F.1 F.2.1 F.2.2.2.2.2.1.2.1 (gP1 (hP.bools hk)) 0 1 rfl rfl hin hd (kk p e s m args below meth c H locs ls X F hls hP hS hE)
theorem G_aaldS {a nn b : Nat} {x : Int32} (hd : decode M.2.1 pc = .ok (.aaload, 1)) (hk : T.2 a = (15, nn)) (hin : vp_in x nn) (hr : r a x.toNatClampNeg = some b) (kk : G Γ M k n (pc + 1) L (.ref b :: st) T r l i Q) : G Γ M k n pc L (.int x :: .ref a :: st) T r l i Q := fun p e s m args below meth c H locs ls X F hls hP hS hE => va_aldq (C := RX6) F.1 F.2.1 F.2.2.2.2.2.1.2.1 (gP1 (hP.refs (Or.inl rfl) hk)) 0 2 rfl rfl hin hd (by rw [hr]; exact kk p e s m args below meth c H locs ls X F hls hP hS hE)
theorem G_aaldW {a nn b : Nat} {x : Int32} (hd : decode M.2.1 pc = .ok (.aaload, 1)) (hk : T.2 a = (16, nn)) (hin : vp_in x nn) (hr : r a x.toNatClampNeg = some b) (kk : G Γ M k n (pc + 1) L (.ref b :: st) T r l i Q) : G Γ M k n pc L (.int x :: .ref a :: st) T r l i Q := fun p e s m args below meth c H locs ls X F hls hP hS hE => va_aldq (C := RX9) F.1 F.2.1 F.2.2.2.2.2.1.2.1 (gP1 (hP.refs (Or.inr rfl) hk)) 0 3 rfl rfl hin hd (by rw [hr]; exact kk p e s m args below meth c H locs ls X F hls hP hS hE)
theorem G_alen {a z nn : Nat} {v : Int32} (hd : decode M.2.1 pc = .ok (.arraylength, 1)) (hz : z = 13 ∨ z = 14) (hk : T.2 a = (z, nn)) (hv : Int32.ofNat nn = v) (kk : G Γ M k n (pc + 1) L (.int v :: st) T r l i Q) : G Γ M k n pc L (.ref a :: st) T r l i Q := fun p e s m args below meth c H locs ls X F hls hP hS hE => by
  rcases hz with rfl | rfl
  · exact va_alen (x := (nn, .inl (i a))) F.1 F.2.1 F.2.2.2.2.2.1.2.1 (gP1 (hP.ints hk)) 0 rfl (ty := .int) (t0 := 0) rfl hv hd (kk p e s m args below meth c H locs ls X F hls hP hS hE)
  · exact va_alen (x := (nn, .inl (i a))) F.1 F.2.1 F.2.2.2.2.2.1.2.1 (gP1 (hP.bools hk)) 0 rfl (ty := .boolean) (t0 := 1) rfl hv hd (kk p e s m args below meth c H locs ls X F hls hP hS hE)
theorem G_iast {a nn : Nat} {x y : Int32} (hd : decode M.2.1 pc = .ok (.iastore, 1)) (hk : T.2 a = (13, nn)) (hin : vp_in x nn) (hA : gN Γ ≤ a) (kk : G Γ M k n (pc + 1) L st T r l (up2 i a x.toNatClampNeg y) Q) : G Γ M k n pc L (.int y :: .int x :: .ref a :: st) T r l i Q := by
  intro p e s m args below meth c H locs ls X F hls hP hS hE
  refine W.iast F.1 F.2.1 (hP.ints hk) ((F.2.2.2.2.2.1.2.1.2 0 _ rfl).1 nn (fun j => .int (i a j))) (fun q => by cases q) (by show ¬ (x < 0 ∨ (arrV _ _ _).slots.size ≤ _); rw [arrV_size]; exact hin) rfl rfl hd fun H1 e1 z oq => ?_
  refine kk p e s m args below meth c H1 _ ls X F hls ?_ (hS.put z oq hA) hE
  refine hP.put z oq (fun _ _ => rfl) (fun b hb => up2_ne hb) (fun e he => ?_)
  unfold gE at he
  rw [hk] at he
  cases he
  show H1[a]? = some (vp_cell _ _)
  rw [e1, vp_cell_i, vp_cell_i, arrV_store]
  congr 2
  funext q
  rw [up2_at]
  unfold updV
  by_cases hq : q = x.toNatClampNeg <;> simp [hq]
theorem G_zast {a nn : Nat} {x y : Int32} (hd : decode M.2.1 pc = .ok (.bastore, 1)) (hk : T.2 a = (14, nn)) (hin : vp_in x nn) (hy : narrow .boolean (.int y) = .int y) (hA : gN Γ ≤ a) (kk : G Γ M k n (pc + 1) L st T r l (up2 i a x.toNatClampNeg y) Q) : G Γ M k n pc L (.int y :: .int x :: .ref a :: st) T r l i Q := by
  intro p e s m args below meth c H locs ls X F hls hP hS hE
  refine W.zast F.1 F.2.1 (hP.bools hk) ((F.2.2.2.2.2.1.2.1.2 1 _ rfl).1 nn (fun j => .int (i a j))) (fun q => by cases q) (by show ¬ (x < 0 ∨ (arrV _ _ _).slots.size ≤ _); rw [arrV_size]; exact hin) rfl rfl hd fun H1 e1 z oq => ?_
  refine kk p e s m args below meth c H1 _ ls X F hls ?_ (hS.put z oq hA) hE
  refine hP.put z oq (fun _ _ => rfl) (fun b hb => up2_ne hb) (fun e he => ?_)
  unfold gE at he
  rw [hk] at he
  cases he
  show H1[a]? = some (vp_cell _ _)
  rw [e1, hy, vp_cell_i, vp_cell_i, arrV_store]
  congr 2
  funext q
  rw [up2_at]
  unfold updV
  by_cases hq : q = x.toNatClampNeg <;> simp [hq]
theorem gAast {a nn b z ci : Nat} {x : Int32} {cA : ClassId} {rr : vw_C} {t0 : Nat} (hd : decode M.2.1 pc = .ok (.aastore, 1)) (hz : z = 15 ∨ z = 16) (hk : T.2 a = (z, nn)) (hcA : cA = if z = 15 then gcS Γ else gcW Γ) (ht : (gtys Γ)[t0]? = some (cA, .object rr.1)) (hb : (T.2 b).1 = ci) (hci : ci < 13) (hc : vwCl[ci]? = some rr) (hin : vp_in x nn) (hA : gN Γ ≤ a) (kk : G Γ M k n (pc + 1) L st T (up2 r a x.toNatClampNeg (some b)) l i Q) : G Γ M k n pc L (.ref b :: .int x :: .ref a :: st) T r l i Q := by
  intro p e s m args below meth c H locs ls X F hls hP hS hE
  have hlt : x.toNatClampNeg < nn := Nat.not_le.mp fun q => hin (Or.inr q)
  have h0 : ¬ x < 0 := fun q => hin (Or.inl q)
  have hK := F.2.2.2.2.2.1.2.1
  obtain ⟨r', hr', cellV, g1, g2, g3, -⟩ := hP.obj hb hci
  have hcls := (hK.1 ci rr hc).2
  obtain ⟨kA, comp, k1, k2, k3, -⟩ := (hK.2 t0 _ ht).2
  have hcomp : comp = (gD Γ).1 ci := Option.some.inj (k3.symm.trans hcls.1)
  subst hcomp
  obtain ⟨kC, hkC, -⟩ := hcls.2
  have hcell : H[a]? = some (vp_cell cA (nn, .inr (.inr (.inr (.inr (r a)))))) := by rw [hcA]; exact hP.refs hz hk
  refine W.aast F.1 F.2.1 hcell (fun q h => by cases h) (fun h => by cases h) k1 k2 rfl hkC ⟨h0, by show _ < (arrV _ _ _).slots.size; rw [arrV_size]; exact hlt⟩ g1 (fun q h => by rw [g3] at h; cases h) (by rw [g2]; exact hkC) (by rw [g2]; exact va_assign hcls) rfl rfl hd fun H1 e1 z1 oq => ?_
  refine kk p e s m args below meth c H1 _ ls X F hls ?_ (hS.put z1 oq hA) hE
  refine hP.put z1 oq (fun b hb => up2_ne hb) (fun _ _ => rfl) (fun e he => ?_)
  have hcell2 : H1[a]? = some (vp_cell cA (nn, .inr (.inr (.inr (.inr (up2 r a x.toNatClampNeg (some b) a)))))) := by
    rw [e1, vp_cell_q, vp_cell_q, arrV_store]
    congr 2
    funext q
    rw [up2_at]
    unfold updV
    by_cases hq : q = x.toNatClampNeg <;> simp [hq, va_rf]
  unfold gE at he
  rw [hk] at he
  rw [hcA] at hcell2
  rcases hz with rfl | rfl <;> (cases he; exact hcell2)
theorem G_aastS {a nn b : Nat} {x : Int32} (hd : decode M.2.1 pc = .ok (.aastore, 1)) (hk : T.2 a = (15, nn)) (hb : (T.2 b).1 = 6) (hin : vp_in x nn) (hA : gN Γ ≤ a) (kk : G Γ M k n (pc + 1) L st T (up2 r a x.toNatClampNeg (some b)) l i Q) : G Γ M k n pc L (.ref b :: .int x :: .ref a :: st) T r l i Q := gAast (t0 := 2) (rr := (RX6, TX6, 3)) hd (Or.inl rfl) hk rfl rfl hb (by decide) rfl hin hA kk
theorem G_aastW {a nn b : Nat} {x : Int32} (hd : decode M.2.1 pc = .ok (.aastore, 1)) (hk : T.2 a = (16, nn)) (hb : (T.2 b).1 = 9) (hin : vp_in x nn) (hA : gN Γ ≤ a) (kk : G Γ M k n (pc + 1) L st T (up2 r a x.toNatClampNeg (some b)) l i Q) : G Γ M k n pc L (.ref b :: .int x :: .ref a :: st) T r l i Q := gAast (t0 := 3) (rr := (RX9, TX9, 10)) hd (Or.inr rfl) hk rfl rfl hb (by decide) rfl hin hA kk
theorem gS_new {A : Nat → Prop} {H0 H H1 : Heap} {locs : List Loc} (hS : va_S A H0 H locs) (z : H1.size = H.size + 1) (oq : ∀ q : Nat, q < H.size → H1[q]? = H[q]?) : va_S A H0 H1 locs := ⟨Nat.le_trans hS.1 (by omega), fun x h1 h2 => (oq x (Nat.lt_of_lt_of_le h1 hS.1)).trans (hS.2.1 x h1 h2), hS.2.2⟩
abbrev gT1 (T : gTy) (kn : Nat × Nat) : gTy := (T.1 + 1, va_up T.2 T.1 kn)
abbrev gR1 (T : gTy) (r : gR) : gR := va_up r T.1 (fun _ => none)
abbrev gL1 (T : gTy) (l : gLg) : gLg := va_up l T.1 (fun _ => 0)
abbrev gI1 (T : gTy) (i : gI) : gI := va_up i T.1 (fun _ => 0)
theorem G_new {idx ci nn : Nat} {C : String} {Tb : u_T} {ty0 : Nat → FieldType} (hd : decode M.2.1 pc = .ok (.new idx, 3)) (hcl : vwCl[ci]? = some (C, Tb, nn)) (hci : ci < 13) (hN : (gT ci).length = nn) (hin : ∀ w ∈ u_ws C Tb nn, w ∈ gw) (hty : ∀ k, k < nn → parseFieldDescriptor (Tb k).2.2.1 = some (ty0 k)) (hfs : ∀ j, j < nn → defaultValue (ty0 j) = vp_V (gF (gT ci) 0 (fun _ => none) (fun _ => 0) (fun _ => 0)) j) (h1 : Cond.classLink M.1.cls idx C ∈ gw) (h2 : Cond.instantiable C nn ∈ gw) (h3 : Cond.initialized C ∈ gw) (hc : k + 1 ≤ M.2.2.2.2.cells) (hs : n + nn ≤ M.2.2.2.2.slots) (kk : G Γ M (k + 1) (n + nn) (pc + 3) L (.ref T.1 :: st) (gT1 T (ci, 0)) (gR1 T r) (gL1 T l) (gI1 T i) Q) : G Γ M k n pc L st T r l i Q := by
  intro p e s m args below meth c H locs ls X F hls hP hS hE
  have hts := F.2.2.2.2.1
  have hK := F.2.2.2.2.2.1.2.1
  have hKn := hK.1 ci _ hcl
  refine W.newcK F.1 F.2.1 F.2.2.2.1 (hts _ h1) (hts _ h2) (hts _ h3) rfl hd hc hs hKn.2.1 hP.1 fun H1 kC hkC e1 z1 o1 => ?_
  have z2 : H1.size = H.size + 1 := by rw [z1, hP.1]
  have o2 : ∀ q : Nat, q < H.size → H1[q]? = H[q]? := fun q hq => o1 q (by rw [← hP.1]; exact hq)
  refine kk p e s m args below meth c H1 locs ls X F hls (hP.new z2 o2 (fun e he => ?_)) (gS_new hS z2 o2) hE
  unfold gE at he
  rw [if_pos hci] at he
  cases he
  rw [hP.1]
  exact ⟨_, hcl, (u_born ty0 hts hin hKn hkC e1 hty).to hfs⟩
theorem gNewP {x : Int32} {nn z : Nat} {at0 : ArrayType} {cA0 : ClassId} {t0 : Nat} (hd : decode M.2.1 pc = .ok (.newarray at0, 2)) (hz : (z = 13 ∧ cA0 = gcI Γ ∧ newarray.typeOf at0 = .int) ∨ (z = 14 ∧ cA0 = gcZ Γ ∧ newarray.typeOf at0 = .boolean)) (ht : (gtys Γ)[t0]? = some (cA0, newarray.typeOf at0)) (hw : Cond.arrayClass (newarray.typeOf at0) ∈ gw) (hx : ¬ x < 0) (hN : x.toNatClampNeg = nn) (hb : nn * componentBytes (newarray.typeOf at0) ≤ 536870912) (hc : k + 1 ≤ M.2.2.2.2.cells) (hs : n + nn ≤ M.2.2.2.2.slots) (kk : G Γ M (k + 1) (n + nn) (pc + 2) L (.ref T.1 :: st) (gT1 T (z, nn)) (gR1 T r) (gL1 T l) (gI1 T i) Q) : G Γ M k n pc L (.int x :: st) T r l i Q := by
  intro p e s m args below meth c H locs ls X F hls hP hS hE
  have hK := F.2.2.2.2.2.1.2.1
  refine va_newaK F.1 F.2.1 (F.2.2.2.2.1 _ hw) rfl hd rfl hx hN hb hc hs hP.1 fun H1 cA e1 z1 o1 hAr hNm => ?_
  have z2 : H1.size = H.size + 1 := by rw [z1, hP.1]
  have o2 : ∀ q : Nat, q < H.size → H1[q]? = H[q]? := fun q hq => o1 q (by rw [← hP.1]; exact hq)
  have hcA : cA = cA0 := by
    have h9 := (hK.2 t0 _ ht).2
    rcases hz with ⟨-, -, ez⟩ | ⟨-, -, ez⟩ <;> (rw [ez] at h9 hNm; exact Option.some.inj (hNm.symm.trans h9))
  subst hcA
  refine kk p e s m args below meth c H1 locs ls X F hls (hP.new z2 o2 (fun e he => ?_)) (gS_new hS z2 o2) hE
  rw [hP.1]
  rcases hz with ⟨rfl, ec, ez⟩ | ⟨rfl, ec, ez⟩ <;> (unfold gE at he; cases he; show H1[T.1]? = some (vp_cell _ _); rw [e1, ez, ec]; rfl)
theorem G_newI {x : Int32} {nn : Nat} (hd : decode M.2.1 pc = .ok (.newarray .int, 2)) (hw : Cond.arrayClass .int ∈ gw) (hx : ¬ x < 0) (hN : x.toNatClampNeg = nn) (hb : nn * 4 ≤ 536870912) (hc : k + 1 ≤ M.2.2.2.2.cells) (hs : n + nn ≤ M.2.2.2.2.slots) (kk : G Γ M (k + 1) (n + nn) (pc + 2) L (.ref T.1 :: st) (gT1 T (13, nn)) (gR1 T r) (gL1 T l) (gI1 T i) Q) : G Γ M k n pc L (.int x :: st) T r l i Q := gNewP (t0 := 0) hd (Or.inl ⟨rfl, rfl, rfl⟩) rfl hw hx hN hb hc hs kk
theorem G_newZ {x : Int32} {nn : Nat} (hd : decode M.2.1 pc = .ok (.newarray .boolean, 2)) (hw : Cond.arrayClass .boolean ∈ gw) (hx : ¬ x < 0) (hN : x.toNatClampNeg = nn) (hb : nn * 1 ≤ 536870912) (hc : k + 1 ≤ M.2.2.2.2.cells) (hs : n + nn ≤ M.2.2.2.2.slots) (kk : G Γ M (k + 1) (n + nn) (pc + 2) L (.ref T.1 :: st) (gT1 T (14, nn)) (gR1 T r) (gL1 T l) (gI1 T i) Q) : G Γ M k n pc L (.int x :: st) T r l i Q := gNewP (t0 := 1) hd (Or.inr ⟨rfl, rfl, rfl⟩) rfl hw hx hN hb hc hs kk
theorem gNewQ {x : Int32} {nn z idx : Nat} {C : String} {cA0 : ClassId} {t0 : Nat} (hd : decode M.2.1 pc = .ok (.anewarray idx, 3)) (hz : (z = 15 ∧ cA0 = gcS Γ) ∨ (z = 16 ∧ cA0 = gcW Γ)) (ht : (gtys Γ)[t0]? = some (cA0, .object C)) (hcl : Cond.classLink M.1.cls idx C ∈ gw) (hov : ∀ U : State, gTT Γ U → va_AO C U) (hx : ¬ x < 0) (hN : x.toNatClampNeg = nn) (hb : nn * 4 ≤ 536870912) (hc : k + 1 ≤ M.2.2.2.2.cells) (hs : n + nn ≤ M.2.2.2.2.slots) (kk : G Γ M (k + 1) (n + nn) (pc + 3) L (.ref T.1 :: st) (gT1 T (z, nn)) (gR1 T r) (gL1 T l) (gI1 T i) Q) : G Γ M k n pc L (.int x :: st) T r l i Q := by
  intro p e s m args below meth c H locs ls X F hls hP hS hE
  have hK := F.2.2.2.2.2.1.2.1
  subst hN
  refine W.anew F.1 F.2.1 F.2.2.2.1 (F.2.2.2.2.1 _ hcl) (va_AO.use (hov s F.2.2.2.2.2.1)) rfl hd rfl hx hb hc hs fun cA kA comp f1 f2 f3 f4 => ?_
  generalize hH1 : H.push ({ cls := cA, slots := Array.replicate x.toNatClampNeg .null, vm := .none } : Cell) = H1
  have z1 : H1.size = H.size + 1 := by rw [← hH1, Array.size_push]
  have e1 : H1[H.size]? = some (arrV cA x.toNatClampNeg (fun _ => .null)) := by rw [← hH1, Array.getElem?_push_size, ← arrV_new]
  have o1 : ∀ q : Nat, q < H.size → H1[q]? = H[q]? := fun q hq => by rw [← hH1, Array.getElem?_push, if_neg (Nat.ne_of_lt hq)]
  have hcA : cA = cA0 := by
    obtain ⟨kB, comp2, k1, k2, k3, k4⟩ := (hK.2 t0 _ ht).2
    exact Option.some.inj (f1.symm.trans k4)
  subst hcA
  have hsz : H.size = T.1 := hP.1
  refine W.eq (g2 := F0 m (pc + 3) ls (.ref T.1 :: st)) (by rw [← hsz]) ?_
  refine kk p e s m args below meth c H1 locs ls X F hls (hP.new z1 o1 (fun e he => ?_)) (gS_new hS z1 o1) hE
  rcases hz with ⟨rfl, ec⟩ | ⟨rfl, ec⟩ <;> (unfold gE at he; cases he; show H1[H.size]? = some (vp_cell _ _); rw [e1, ec]; rfl)
theorem G_newS {x : Int32} {nn idx : Nat} (hd : decode M.2.1 pc = .ok (.anewarray idx, 3)) (hcl : Cond.classLink M.1.cls idx RX6 ∈ gw) (hx : ¬ x < 0) (hN : x.toNatClampNeg = nn) (hb : nn * 4 ≤ 536870912) (hc : k + 1 ≤ M.2.2.2.2.cells) (hs : n + nn ≤ M.2.2.2.2.slots) (kk : G Γ M (k + 1) (n + nn) (pc + 3) L (.ref T.1 :: st) (gT1 T (15, nn)) (gR1 T r) (gL1 T l) (gI1 T i) Q) : G Γ M k n pc L (.int x :: st) T r l i Q := gNewQ (t0 := 2) hd (Or.inl ⟨rfl, rfl⟩) rfl hcl (fun _ h => h.2.2.1) hx hN hb hc hs kk
theorem G_newW {x : Int32} {nn idx : Nat} (hd : decode M.2.1 pc = .ok (.anewarray idx, 3)) (hcl : Cond.classLink M.1.cls idx RX9 ∈ gw) (hx : ¬ x < 0) (hN : x.toNatClampNeg = nn) (hb : nn * 4 ≤ 536870912) (hc : k + 1 ≤ M.2.2.2.2.cells) (hs : n + nn ≤ M.2.2.2.2.slots) (kk : G Γ M (k + 1) (n + nn) (pc + 3) L (.ref T.1 :: st) (gT1 T (16, nn)) (gR1 T r) (gL1 T l) (gI1 T i) Q) : G Γ M k n pc L (.int x :: st) T r l i Q := gNewQ (t0 := 3) hd (Or.inr ⟨rfl, rfl⟩) rfl hcl (fun _ h => h.2.2.2) hx hN hb hc hs kk
theorem G_objInit {idx a : Nat} (hd : decode M.2.1 pc = .ok (.invokespecial idx, 3)) (h1 : Cond.methodLink M.1.cls idx objectInit ∈ gw) (h2 : Cond.instanceMethod objectInit ∈ gw) (h3 : Cond.code objectInit ⟨#[0xb1]⟩ 1 none ∈ gw) (hfr : 1 ≤ M.2.2.2.2.frames) (hlo : gCat st + 12 ≤ M.2.2.2.2.locals) (kk : G Γ M k n (pc + 3) L st T r l i Q) : G Γ M k n pc L (.ref a :: st) T r l i Q := fun p e s m args below meth c H locs ls X F hls hP hS hE => W.objInit F.1 F.2.1 F.2.2.2.1 (F.2.2.2.2.1 _ h1) (F.2.2.2.2.1 _ h2) (F.2.2.2.2.1 _ h3) rfl (by rw [F.2.2.1]; exact hls.1) rfl hd hfr (by have h9 : (List.map (fun v => v.category) st).sum + 12 ≤ M.2.2.2.2.locals := hlo; show 2 * 0 + _ + 12 ≤ _; omega) (kk p e s m args below meth c H locs ls X F hls hP hS hE)
theorem G_f2i {idx : Nat} {x : UInt32} (hd : decode M.2.1 pc = .ok (.invokestatic idx, 3)) (h1 : Cond.methodLink M.1.cls idx ⟨"java/lang/Float", "floatToRawIntBits", "(F)I"⟩ ∈ gw) (h2 : Cond.native ⟨"java/lang/Float", "floatToRawIntBits", "(F)I"⟩ ∈ gw) (h3 : Cond.static ⟨"java/lang/Float", "floatToRawIntBits", "(F)I"⟩ ∈ gw) (h4 : Cond.initialized "java/lang/Float" ∈ gw) (hfr : 1 ≤ M.2.2.2.2.frames) (hlo : gCat st + 15 ≤ M.2.2.2.2.locals) (kk : G Γ M k n (pc + 3) L (.int x.toInt32 :: st) T r l i Q) : G Γ M k n pc L (.float x :: st) T r l i Q := fun p e s m args below meth c H locs ls X F hls hP hS hE => vn_f2i F.1 F.2.1 (by rw [F.2.2.1]; exact hls.1.symm) F.2.2.2.1 (F.2.2.2.2.1 _ h1) (F.2.2.2.2.1 _ h2) (F.2.2.2.2.1 _ h3) (F.2.2.2.2.1 _ h4) hfr hlo hd (kk p e s m args below meth c H locs ls X F hls hP hS hE)
theorem G_getsL {idx : Nat} (hd : decode M.2.1 pc = .ok (.getstatic idx, 3)) (hl : Cond.fieldLink M.1.cls idx RX4 "LEAST" "[I" ∈ gw) (kk : G Γ M k n (pc + 3) L (.ref (gaL Γ) :: st) T r l i Q) : G Γ M k n pc L st T r l i Q := fun p e s m args below meth c H locs ls X F hls hP hS hE => va_gets F.1 F.2.1 F.2.2.2.2.2.2.1.1 hS F.2.2.2.1 (F.2.2.2.2.1 _ hl) (fun _ h => h) hd (kk p e s m args below meth c H locs ls X F hls hP hS hE)
theorem G_getsG {idx : Nat} (hd : decode M.2.1 pc = .ok (.getstatic idx, 3)) (hl : Cond.fieldLink M.1.cls idx RX4 "GREATEST" "[I" ∈ gw) (kk : G Γ M k n (pc + 3) L (.ref (gaG Γ) :: st) T r l i Q) : G Γ M k n pc L st T r l i Q := fun p e s m args below meth c H locs ls X F hls hP hS hE => va_gets F.1 F.2.1 F.2.2.2.2.2.2.1.2.1 hS F.2.2.2.1 (F.2.2.2.2.1 _ hl) (fun _ h => h) hd (kk p e s m args below meth c H locs ls X F hls hP hS hE)
theorem G_tldL {x : Int32} (hd : decode M.2.1 pc = .ok (.iaload, 1)) (hin : vp_in x 3) (kk : G Γ M k n (pc + 1) L (.int (gLo x.toNatClampNeg) :: st) T r l i Q) : G Γ M k n pc L (.int x :: .ref (gaL Γ) :: st) T r l i Q := fun p e s m args below meth c H locs ls X F hls hP hS hE => va_ti F.1 F.2.1 F.2.2.2.2.2.2.1.2.2.1 hS hin rfl hd (kk p e s m args below meth c H locs ls X F hls hP hS hE)
theorem G_tlenL {v : Int32} (hd : decode M.2.1 pc = .ok (.arraylength, 1)) (hv : Int32.ofNat 3 = v) (kk : G Γ M k n (pc + 1) L (.int v :: st) T r l i Q) : G Γ M k n pc L (.ref (gaL Γ) :: st) T r l i Q := fun p e s m args below meth c H locs ls X F hls hP hS hE => va_tlen F.1 F.2.1 F.2.2.2.2.2.2.1.2.2.1 hS hv hd (kk p e s m args below meth c H locs ls X F hls hP hS hE)
theorem G_tldG {x : Int32} (hd : decode M.2.1 pc = .ok (.iaload, 1)) (hin : vp_in x 3) (kk : G Γ M k n (pc + 1) L (.int (gHi x.toNatClampNeg) :: st) T r l i Q) : G Γ M k n pc L (.int x :: .ref (gaG Γ) :: st) T r l i Q := fun p e s m args below meth c H locs ls X F hls hP hS hE => va_ti F.1 F.2.1 F.2.2.2.2.2.2.1.2.2.2.1 hS hin rfl hd (kk p e s m args below meth c H locs ls X F hls hP hS hE)
theorem G_tlenG {v : Int32} (hd : decode M.2.1 pc = .ok (.arraylength, 1)) (hv : Int32.ofNat 3 = v) (kk : G Γ M k n (pc + 1) L (.int v :: st) T r l i Q) : G Γ M k n pc L (.ref (gaG Γ) :: st) T r l i Q := fun p e s m args below meth c H locs ls X F hls hP hS hE => va_tlen F.1 F.2.1 F.2.2.2.2.2.2.1.2.2.2.1 hS hv hd (kk p e s m args below meth c H locs ls X F hls hP hS hE)
theorem G_tldX {x : Int32} (hd : decode M.2.1 pc = .ok (.iaload, 1)) (hin : vp_in x (gsL Γ)) (kk : G Γ M k n (pc + 1) L (.int (gsx Γ x.toNatClampNeg) :: st) T r l i Q) : G Γ M k n pc L (.int x :: .ref (gsb Γ) :: st) T r l i Q := fun p e s m args below meth c H locs ls X F hls hP hS hE => va_ti F.1 F.2.1 F.2.2.2.2.2.2.1.2.2.2.2 hS hin rfl hd (kk p e s m args below meth c H locs ls X F hls hP hS hE)
theorem G_tlenX {v : Int32} (hd : decode M.2.1 pc = .ok (.arraylength, 1)) (hv : Int32.ofNat (gsL Γ) = v) (kk : G Γ M k n (pc + 1) L (.int v :: st) T r l i Q) : G Γ M k n pc L (.ref (gsb Γ) :: st) T r l i Q := fun p e s m args below meth c H locs ls X F hls hP hS hE => va_tlen F.1 F.2.1 F.2.2.2.2.2.2.1.2.2.2.2 hS hv hd (kk p e s m args below meth c H locs ls X F hls hP hS hE)
theorem G_ret {v : Option Value} (hd : decode M.2.1 pc = .ok (gRi v, 1)) (hR : gRet M.2.2.2.1 v) (hk : k ≤ M.2.2.2.2.cells ∧ n ≤ M.2.2.2.2.slots) (hQ : Q v T r l i) : G Γ M k n pc L v.toList T r l i Q := fun p e s m args below meth c H locs ls X F hls hP hS hE => hE v T r l i H locs k n pc ls hQ hk.1 hk.2 hP hS hR hd
theorem G_iret {x : Int32} (hd : decode M.2.1 pc = .ok (.ireturn, 1)) (hR : gRet M.2.2.2.1 (some (.int x))) (hk : k ≤ M.2.2.2.2.cells ∧ n ≤ M.2.2.2.2.slots) (hQ : Q (some (.int x)) T r l i) : G Γ M k n pc L [.int x] T r l i Q := G_ret (v := some (.int x)) hd hR hk hQ
theorem G_lret {x : Int64} (hd : decode M.2.1 pc = .ok (.lreturn, 1)) (hR : gRet M.2.2.2.1 (some (.long x))) (hk : k ≤ M.2.2.2.2.cells ∧ n ≤ M.2.2.2.2.slots) (hQ : Q (some (.long x)) T r l i) : G Γ M k n pc L [.long x] T r l i Q := G_ret (v := some (.long x)) hd hR hk hQ
theorem G_aret {x : Nat} (hd : decode M.2.1 pc = .ok (.areturn, 1)) (hR : gRet M.2.2.2.1 (some (.ref x))) (hk : k ≤ M.2.2.2.2.cells ∧ n ≤ M.2.2.2.2.slots) (hQ : Q (some (.ref x)) T r l i) : G Γ M k n pc L [.ref x] T r l i Q := G_ret (v := some (.ref x)) hd hR hk hQ
theorem G_aretN (hd : decode M.2.1 pc = .ok (.areturn, 1)) (hR : gRet M.2.2.2.1 (some .null)) (hk : k ≤ M.2.2.2.2.cells ∧ n ≤ M.2.2.2.2.slots) (hQ : Q (some .null) T r l i) : G Γ M k n pc L [.null] T r l i Q := G_ret (v := some .null) hd hR hk hQ
theorem G_vret (hd : decode M.2.1 pc = .ok (.return_, 1)) (hR : M.2.2.2.1 = none) (hk : k ≤ M.2.2.2.2.cells ∧ n ≤ M.2.2.2.2.slots) (hQ : Q none T r l i) : G Γ M k n pc L [] T r l i Q := G_ret (v := none) hd hR hk hQ
/-- what is called comes back: the goals behind a call, by the number of arguments -/
theorem G_callV0 {idx ci b : Nat} {rest : List Value} (hd : decode M.2.1 pc = .ok (.invokevirtual idx, 3)) (hl : gLkV M.1.cls idx N 0 ci) (hR : gFits M.2.2.2.2 N.2.2.2.2 N.2.2.1) (hc : gCat rest ≤ 8) (hf : k + N.2.2.2.2.cells ≤ M.2.2.2.2.cells ∧ n + N.2.2.2.2.slots ≤ M.2.2.2.2.slots) (hb : (T.2 b).1 = ci) (h : gC Γ N [.ref b] T r l i (fun v T1 r1 l1 i1 => G Γ M (k + N.2.2.2.2.cells) (n + N.2.2.2.2.slots) (pc + 3) L (v.toList ++ rest) T1 r1 l1 i1 Q)) : G Γ M k n pc L (.ref b :: rest) T r l i Q := G_callV (As := []) hd hl rfl hR hc hf hb h
theorem G_callI0 {idx b : Nat} {rest : List Value} (hd : decode M.2.1 pc = .ok (.invokespecial idx, 3)) (hl : gLkI M.1.cls idx N 0) (hR : gFits M.2.2.2.2 N.2.2.2.2 N.2.2.1) (hc : gCat rest ≤ 8) (hf : k + N.2.2.2.2.cells ≤ M.2.2.2.2.cells ∧ n + N.2.2.2.2.slots ≤ M.2.2.2.2.slots) (h : gC Γ N [.ref b] T r l i (fun v T1 r1 l1 i1 => G Γ M (k + N.2.2.2.2.cells) (n + N.2.2.2.2.slots) (pc + 3) L (v.toList ++ rest) T1 r1 l1 i1 Q)) : G Γ M k n pc L (.ref b :: rest) T r l i Q := G_callI (As := []) hd hl rfl hR hc hf h
theorem G_callV1 {idx ci b : Nat} {v1 : Value} {rest : List Value} (hd : decode M.2.1 pc = .ok (.invokevirtual idx, 3)) (hl : gLkV M.1.cls idx N 1 ci) (hR : gFits M.2.2.2.2 N.2.2.2.2 N.2.2.1) (hc : gCat rest ≤ 8) (hf : k + N.2.2.2.2.cells ≤ M.2.2.2.2.cells ∧ n + N.2.2.2.2.slots ≤ M.2.2.2.2.slots) (hb : (T.2 b).1 = ci) (h : gC Γ N (.ref b :: [v1]) T r l i (fun v T1 r1 l1 i1 => G Γ M (k + N.2.2.2.2.cells) (n + N.2.2.2.2.slots) (pc + 3) L (v.toList ++ rest) T1 r1 l1 i1 Q)) : G Γ M k n pc L (v1 :: .ref b :: rest) T r l i Q := G_callV (As := [v1]) hd hl rfl hR hc hf hb h
theorem G_callS1 {idx : Nat} {v1 : Value} {rest : List Value} (hd : decode M.2.1 pc = .ok (.invokestatic idx, 3)) (hl : gLkS M.1.cls idx N 1) (hR : gFits M.2.2.2.2 N.2.2.2.2 N.2.2.1) (hc : gCat rest ≤ 8) (hf : k + N.2.2.2.2.cells ≤ M.2.2.2.2.cells ∧ n + N.2.2.2.2.slots ≤ M.2.2.2.2.slots) (h : gC Γ N [v1] T r l i (fun v T1 r1 l1 i1 => G Γ M (k + N.2.2.2.2.cells) (n + N.2.2.2.2.slots) (pc + 3) L (v.toList ++ rest) T1 r1 l1 i1 Q)) : G Γ M k n pc L (v1 :: rest) T r l i Q := G_callS (As := [v1]) hd hl rfl hR hc hf h
theorem G_callV2 {idx ci b : Nat} {v1 v2 : Value} {rest : List Value} (hd : decode M.2.1 pc = .ok (.invokevirtual idx, 3)) (hl : gLkV M.1.cls idx N 2 ci) (hR : gFits M.2.2.2.2 N.2.2.2.2 N.2.2.1) (hc : gCat rest ≤ 8) (hf : k + N.2.2.2.2.cells ≤ M.2.2.2.2.cells ∧ n + N.2.2.2.2.slots ≤ M.2.2.2.2.slots) (hb : (T.2 b).1 = ci) (h : gC Γ N (.ref b :: [v1, v2]) T r l i (fun v T1 r1 l1 i1 => G Γ M (k + N.2.2.2.2.cells) (n + N.2.2.2.2.slots) (pc + 3) L (v.toList ++ rest) T1 r1 l1 i1 Q)) : G Γ M k n pc L (v2 :: v1 :: .ref b :: rest) T r l i Q := G_callV (As := [v1, v2]) hd hl rfl hR hc hf hb h
theorem G_callS2 {idx : Nat} {v1 v2 : Value} {rest : List Value} (hd : decode M.2.1 pc = .ok (.invokestatic idx, 3)) (hl : gLkS M.1.cls idx N 2) (hR : gFits M.2.2.2.2 N.2.2.2.2 N.2.2.1) (hc : gCat rest ≤ 8) (hf : k + N.2.2.2.2.cells ≤ M.2.2.2.2.cells ∧ n + N.2.2.2.2.slots ≤ M.2.2.2.2.slots) (h : gC Γ N [v1, v2] T r l i (fun v T1 r1 l1 i1 => G Γ M (k + N.2.2.2.2.cells) (n + N.2.2.2.2.slots) (pc + 3) L (v.toList ++ rest) T1 r1 l1 i1 Q)) : G Γ M k n pc L (v2 :: v1 :: rest) T r l i Q := G_callS (As := [v1, v2]) hd hl rfl hR hc hf h
theorem G_callV3 {idx ci b : Nat} {v1 v2 v3 : Value} {rest : List Value} (hd : decode M.2.1 pc = .ok (.invokevirtual idx, 3)) (hl : gLkV M.1.cls idx N 3 ci) (hR : gFits M.2.2.2.2 N.2.2.2.2 N.2.2.1) (hc : gCat rest ≤ 8) (hf : k + N.2.2.2.2.cells ≤ M.2.2.2.2.cells ∧ n + N.2.2.2.2.slots ≤ M.2.2.2.2.slots) (hb : (T.2 b).1 = ci) (h : gC Γ N (.ref b :: [v1, v2, v3]) T r l i (fun v T1 r1 l1 i1 => G Γ M (k + N.2.2.2.2.cells) (n + N.2.2.2.2.slots) (pc + 3) L (v.toList ++ rest) T1 r1 l1 i1 Q)) : G Γ M k n pc L (v3 :: v2 :: v1 :: .ref b :: rest) T r l i Q := G_callV (As := [v1, v2, v3]) hd hl rfl hR hc hf hb h
theorem G_callS3 {idx : Nat} {v1 v2 v3 : Value} {rest : List Value} (hd : decode M.2.1 pc = .ok (.invokestatic idx, 3)) (hl : gLkS M.1.cls idx N 3) (hR : gFits M.2.2.2.2 N.2.2.2.2 N.2.2.1) (hc : gCat rest ≤ 8) (hf : k + N.2.2.2.2.cells ≤ M.2.2.2.2.cells ∧ n + N.2.2.2.2.slots ≤ M.2.2.2.2.slots) (h : gC Γ N [v1, v2, v3] T r l i (fun v T1 r1 l1 i1 => G Γ M (k + N.2.2.2.2.cells) (n + N.2.2.2.2.slots) (pc + 3) L (v.toList ++ rest) T1 r1 l1 i1 Q)) : G Γ M k n pc L (v3 :: v2 :: v1 :: rest) T r l i Q := G_callS (As := [v1, v2, v3]) hd hl rfl hR hc hf h
theorem G_callV4 {idx ci b : Nat} {v1 v2 v3 v4 : Value} {rest : List Value} (hd : decode M.2.1 pc = .ok (.invokevirtual idx, 3)) (hl : gLkV M.1.cls idx N 4 ci) (hR : gFits M.2.2.2.2 N.2.2.2.2 N.2.2.1) (hc : gCat rest ≤ 8) (hf : k + N.2.2.2.2.cells ≤ M.2.2.2.2.cells ∧ n + N.2.2.2.2.slots ≤ M.2.2.2.2.slots) (hb : (T.2 b).1 = ci) (h : gC Γ N (.ref b :: [v1, v2, v3, v4]) T r l i (fun v T1 r1 l1 i1 => G Γ M (k + N.2.2.2.2.cells) (n + N.2.2.2.2.slots) (pc + 3) L (v.toList ++ rest) T1 r1 l1 i1 Q)) : G Γ M k n pc L (v4 :: v3 :: v2 :: v1 :: .ref b :: rest) T r l i Q := G_callV (As := [v1, v2, v3, v4]) hd hl rfl hR hc hf hb h
theorem G_callS4 {idx : Nat} {v1 v2 v3 v4 : Value} {rest : List Value} (hd : decode M.2.1 pc = .ok (.invokestatic idx, 3)) (hl : gLkS M.1.cls idx N 4) (hR : gFits M.2.2.2.2 N.2.2.2.2 N.2.2.1) (hc : gCat rest ≤ 8) (hf : k + N.2.2.2.2.cells ≤ M.2.2.2.2.cells ∧ n + N.2.2.2.2.slots ≤ M.2.2.2.2.slots) (h : gC Γ N [v1, v2, v3, v4] T r l i (fun v T1 r1 l1 i1 => G Γ M (k + N.2.2.2.2.cells) (n + N.2.2.2.2.slots) (pc + 3) L (v.toList ++ rest) T1 r1 l1 i1 Q)) : G Γ M k n pc L (v4 :: v3 :: v2 :: v1 :: rest) T r l i Q := G_callS (As := [v1, v2, v3, v4]) hd hl rfl hR hc hf h
theorem G_callV5 {idx ci b : Nat} {v1 v2 v3 v4 v5 : Value} {rest : List Value} (hd : decode M.2.1 pc = .ok (.invokevirtual idx, 3)) (hl : gLkV M.1.cls idx N 5 ci) (hR : gFits M.2.2.2.2 N.2.2.2.2 N.2.2.1) (hc : gCat rest ≤ 8) (hf : k + N.2.2.2.2.cells ≤ M.2.2.2.2.cells ∧ n + N.2.2.2.2.slots ≤ M.2.2.2.2.slots) (hb : (T.2 b).1 = ci) (h : gC Γ N (.ref b :: [v1, v2, v3, v4, v5]) T r l i (fun v T1 r1 l1 i1 => G Γ M (k + N.2.2.2.2.cells) (n + N.2.2.2.2.slots) (pc + 3) L (v.toList ++ rest) T1 r1 l1 i1 Q)) : G Γ M k n pc L (v5 :: v4 :: v3 :: v2 :: v1 :: .ref b :: rest) T r l i Q := G_callV (As := [v1, v2, v3, v4, v5]) hd hl rfl hR hc hf hb h
theorem G_callS5 {idx : Nat} {v1 v2 v3 v4 v5 : Value} {rest : List Value} (hd : decode M.2.1 pc = .ok (.invokestatic idx, 3)) (hl : gLkS M.1.cls idx N 5) (hR : gFits M.2.2.2.2 N.2.2.2.2 N.2.2.1) (hc : gCat rest ≤ 8) (hf : k + N.2.2.2.2.cells ≤ M.2.2.2.2.cells ∧ n + N.2.2.2.2.slots ≤ M.2.2.2.2.slots) (h : gC Γ N [v1, v2, v3, v4, v5] T r l i (fun v T1 r1 l1 i1 => G Γ M (k + N.2.2.2.2.cells) (n + N.2.2.2.2.slots) (pc + 3) L (v.toList ++ rest) T1 r1 l1 i1 Q)) : G Γ M k n pc L (v5 :: v4 :: v3 :: v2 :: v1 :: rest) T r l i Q := G_callS (As := [v1, v2, v3, v4, v5]) hd hl rfl hR hc hf h
theorem G_callV6 {idx ci b : Nat} {v1 v2 v3 v4 v5 v6 : Value} {rest : List Value} (hd : decode M.2.1 pc = .ok (.invokevirtual idx, 3)) (hl : gLkV M.1.cls idx N 6 ci) (hR : gFits M.2.2.2.2 N.2.2.2.2 N.2.2.1) (hc : gCat rest ≤ 8) (hf : k + N.2.2.2.2.cells ≤ M.2.2.2.2.cells ∧ n + N.2.2.2.2.slots ≤ M.2.2.2.2.slots) (hb : (T.2 b).1 = ci) (h : gC Γ N (.ref b :: [v1, v2, v3, v4, v5, v6]) T r l i (fun v T1 r1 l1 i1 => G Γ M (k + N.2.2.2.2.cells) (n + N.2.2.2.2.slots) (pc + 3) L (v.toList ++ rest) T1 r1 l1 i1 Q)) : G Γ M k n pc L (v6 :: v5 :: v4 :: v3 :: v2 :: v1 :: .ref b :: rest) T r l i Q := G_callV (As := [v1, v2, v3, v4, v5, v6]) hd hl rfl hR hc hf hb h
theorem G_callS6 {idx : Nat} {v1 v2 v3 v4 v5 v6 : Value} {rest : List Value} (hd : decode M.2.1 pc = .ok (.invokestatic idx, 3)) (hl : gLkS M.1.cls idx N 6) (hR : gFits M.2.2.2.2 N.2.2.2.2 N.2.2.1) (hc : gCat rest ≤ 8) (hf : k + N.2.2.2.2.cells ≤ M.2.2.2.2.cells ∧ n + N.2.2.2.2.slots ≤ M.2.2.2.2.slots) (h : gC Γ N [v1, v2, v3, v4, v5, v6] T r l i (fun v T1 r1 l1 i1 => G Γ M (k + N.2.2.2.2.cells) (n + N.2.2.2.2.slots) (pc + 3) L (v.toList ++ rest) T1 r1 l1 i1 Q)) : G Γ M k n pc L (v6 :: v5 :: v4 :: v3 :: v2 :: v1 :: rest) T r l i Q := G_callS (As := [v1, v2, v3, v4, v5, v6]) hd hl rfl hR hc hf h
end GH
