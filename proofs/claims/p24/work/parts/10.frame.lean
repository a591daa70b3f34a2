/-! THE PURE WORLD: every method is walked over tables of what each cell holds: kinds and lengths T, references r, longs l, ints i, by address and place. -/
def gnest : Cond → Bool
  | .fieldLinkNest .. => true
  | .methodLinkNest .. => true
  | _ => false
def gw : List Cond := lw_tbl.filter goodWord
def gnw : List Cond := tables_1.filter gnest
theorem gw_in {w : Cond} (i : Nat) (h : lw_tbl[i]? = some w) (hg : goodWord w = true) : w ∈ gw := List.mem_filter.mpr ⟨List.mem_of_getElem? h, hg⟩
theorem gnw_in {w : Cond} (i : Nat) (h : tables_1[i]? = some w) (hg : gnest w = true) : w ∈ gnw := List.mem_filter.mpr ⟨List.mem_of_getElem? h, hg⟩
theorem gw_good : GoodIn gw gw := fun _ h => ⟨h, good_of_word (List.mem_filter.mp h).2⟩
theorem gnw_warm {w : Cond} (hw : w ∈ gnw) {s U : State} (hW : s.WarmedH U.vm) (h : va_Nw w s) : va_Nw w U := by
  have hg := (List.mem_filter.mp hw).2
  cases w <;> first | exact va_Nw.warmF hW h | exact va_Nw.warmM hW h | (simp [gnest] at hg; done)
theorem gnw_same {w : Cond} (hw : w ∈ gnw) {u U : State} (e : u.vm = U.vm) (h : va_Nw w u) : va_Nw w U := by
  have hg := (List.mem_filter.mp hw).2
  cases w <;> first | exact va_Nw.same rfl e h | (simp [gnest] at hg; done)
abbrev gG : Type := Launch × va_G × (ClassId × ClassId × ClassId × ClassId) × Nat × Nat × Nat × (Nat × Nat × (Nat → Int32))
abbrev gD (Γ : gG) : va_G := Γ.2.1
abbrev gcI (Γ : gG) : ClassId := Γ.2.2.1.1
abbrev gcZ (Γ : gG) : ClassId := Γ.2.2.1.2.1
abbrev gcS (Γ : gG) : ClassId := Γ.2.2.1.2.2.1
abbrev gcW (Γ : gG) : ClassId := Γ.2.2.1.2.2.2
abbrev gN (Γ : gG) : Nat := Γ.2.2.2.1
abbrev gaL (Γ : gG) : Nat := Γ.2.2.2.2.1
abbrev gaG (Γ : gG) : Nat := Γ.2.2.2.2.2.1
/-- the script: its cell, its length, its ints -/
abbrev gsb (Γ : gG) : Nat := Γ.2.2.2.2.2.2.1
abbrev gsL (Γ : gG) : Nat := Γ.2.2.2.2.2.2.2.1
abbrev gsx (Γ : gG) : Nat → Int32 := Γ.2.2.2.2.2.2.2.2
/-- the settings' bounds, in two arrays that nobody writes -/
def gLo (j : Nat) : Int32 := if j = 2 then 2 else 1
def gHi (j : Nat) : Int32 := if j = 0 then 64 else if j = 1 then 128 else 20
def gA (Γ : gG) : Nat → Prop := fun q => gN Γ ≤ q
def gtys (Γ : gG) : List (ClassId × FieldType) := [(gcI Γ, .int), (gcZ Γ, .boolean), (gcS Γ, .object RX6), (gcW Γ, .object RX9)]
def gTT (Γ : gG) (U : State) : Prop := (∀ w ∈ gnw, va_Nw w U) ∧ va_K (gD Γ) vwCl (gtys Γ) U ∧ va_AO RX6 U ∧ va_AO RX9 U
def gZZ (Γ : gG) (U : State) (H : Heap) : Prop := va_Z RX4 "LEAST" "[I" (.ref (gaL Γ)) (gA Γ) U H ∧ va_Z RX4 "GREATEST" "[I" (.ref (gaG Γ)) (gA Γ) U H ∧ va_T .int (gaL Γ) 3 (fun j => .int (gLo j)) (gA Γ) U H ∧ va_T .int (gaG Γ) 3 (fun j => .int (gHi j)) (gA Γ) U H ∧ va_T .int (gsb Γ) (gsL Γ) (fun j => .int (gsx Γ j)) (gA Γ) U H
theorem gTT.warm {Γ : gG} {s U : State} (hW : s.WarmedH U.vm) (h : gTT Γ s) : gTT Γ U := ⟨fun w hw => gnw_warm hw hW (h.1 w hw), va_K.moved hW.alike h.2.1, h.2.2.1.moved hW.alike, h.2.2.2.moved hW.alike⟩
theorem gTT.same {Γ : gG} {u U : State} (e : u.vm = U.vm) (h : gTT Γ u) : gTT Γ U := by
  have ha : u.vm.Alike U.vm := by rw [e]; exact Vm.Alike.refl _
  exact ⟨fun w hw => gnw_same hw e (h.1 w hw), va_K.moved ha h.2.1, h.2.2.1.moved ha, h.2.2.2.moved ha⟩
theorem gZZ.moved {Γ : gG} {s U : State} {H H1 : Heap} (ha : s.vm.Alike U.vm) (hq : ∀ a : Nat, a < H.size → ¬ gA Γ a → H1[a]? = H[a]?) (h : gZZ Γ s H) : gZZ Γ U H1 := ⟨(h.1.moved ha).kept hq, (h.2.1.moved ha).kept hq, (h.2.2.1.moved ha).kept hq, (h.2.2.2.1.moved ha).kept hq, (h.2.2.2.2.moved ha).kept hq⟩
/-- the types of a class's fields: 0 a reference, 1 an int, 2 a long -/
def gT : Nat → List Nat
  | 0 => [0, 1, 1, 1]
  | 1 => [0, 1, 1]
  | 2 => [0, 0]
  | 3 => [0, 1, 1, 1, 1, 1, 1, 1]
  | 4 => [0]
  | 5 => [2, 2, 2]
  | 6 => [0, 0, 0]
  | 7 => [0, 0, 0, 1]
  | 8 => [0, 1]
  | 9 => [0, 0, 0, 0, 1, 1, 1, 1, 1, 1]
  | 10 => [0, 0, 0, 1]
  | 11 => [0, 0, 0, 0, 0]
  | 12 => [0, 0, 0, 1, 0, 1, 1, 1, 1, 0, 1, 1]
  | _ => []
def gV (t : Nat) (r : Option Nat) (l : Int64) (i : Int32) : Value := match t with
  | 0 => va_rf r
  | 1 => .int i
  | _ => .long l
def gF : List Nat → Nat → (Nat → Option Nat) → (Nat → Int64) → (Nat → Int32) → List Value
  | [], _, _, _, _ => []
  | t :: ts, j, r, l, i => gV t (r j) (l j) (i j) :: gF ts (j + 1) r l i
theorem gF_get : ∀ (ts : List Nat) (j : Nat) (r : Nat → Option Nat) (l : Nat → Int64) (i : Nat → Int32) (k : Nat), (gF ts j r l i)[k]? = (ts[k]?).map (fun t => gV t (r (j + k)) (l (j + k)) (i (j + k)))
  | [], _, _, _, _, _ => by simp [gF]
  | t :: ts, j, r, l, i, 0 => by simp [gF]
  | t :: ts, j, r, l, i, k + 1 => by
    rw [gF, List.getElem?_cons_succ, List.getElem?_cons_succ, gF_get ts (j + 1) r l i k, show j + 1 + k = j + (k + 1) by omega]
theorem gF_len : ∀ (ts : List Nat) (j : Nat) (r : Nat → Option Nat) (l : Nat → Int64) (i : Nat → Int32), (gF ts j r l i).length = ts.length
  | [], _, _, _, _ => rfl
  | _ :: ts, j, r, l, i => by rw [gF, List.length_cons, List.length_cons, gF_len ts]
theorem gF_at (ts : List Nat) (r : Nat → Option Nat) (l : Nat → Int64) (i : Nat → Int32) (k : Nat) : vp_V (gF ts 0 r l i) k = ((ts[k]?).map (fun t => gV t (r k) (l k) (i k))).getD .null := by
  unfold vp_V
  rw [List.getD_eq_getElem?_getD, gF_get, Nat.zero_add]
def gE (Γ : gG) (k n : Nat) (r : Nat → Option Nat) (l : Nat → Int64) (i : Nat → Int32) : Option va_E :=
  if k < 13 then some (.inr (k, gF (gT k) 0 r l i)) else if k = 13 then some (.inl (gcI Γ, n, .inl i)) else if k = 14 then some (.inl (gcZ Γ, n, .inl i)) else if k = 15 then some (.inl (gcS Γ, n, .inr (.inr (.inr (.inr r))))) else if k = 16 then some (.inl (gcW Γ, n, .inr (.inr (.inr (.inr r))))) else none
abbrev gTy : Type := Nat × (Nat → Nat × Nat)
abbrev gR : Type := Nat → Nat → Option Nat
abbrev gLg : Type := Nat → Nat → Int64
abbrev gI : Type := Nat → Nat → Int32
def gPW (Γ : gG) (T : gTy) (r : gR) (l : gLg) (i : gI) (H : Heap) : Prop := H.size = T.1 ∧ gN Γ ≤ T.1 ∧ ∀ (a : Nat) (e : va_E), gE Γ (T.2 a).1 (T.2 a).2 (r a) (l a) (i a) = some e → va_at (gD Γ) vwCl (a, e) H
theorem gPW.obj {Γ : gG} {T : gTy} {r : gR} {l : gLg} {i : gI} {H : Heap} (h : gPW Γ T r l i H) {a ci : Nat} (hk : (T.2 a).1 = ci) (hlt : ci < 13) : va_at (gD Γ) vwCl (a, .inr (ci, gF (gT ci) 0 (r a) (l a) (i a))) H := h.2.2 a _ (by unfold gE; rw [hk, if_pos hlt])
theorem gPW.ints {Γ : gG} {T : gTy} {r : gR} {l : gLg} {i : gI} {H : Heap} (h : gPW Γ T r l i H) {a n : Nat} (hk : T.2 a = (13, n)) : va_at (gD Γ) vwCl (a, .inl (gcI Γ, n, .inl (i a))) H := h.2.2 a _ (by unfold gE; rw [hk]; rfl)
theorem gPW.bools {Γ : gG} {T : gTy} {r : gR} {l : gLg} {i : gI} {H : Heap} (h : gPW Γ T r l i H) {a n : Nat} (hk : T.2 a = (14, n)) : va_at (gD Γ) vwCl (a, .inl (gcZ Γ, n, .inl (i a))) H := h.2.2 a _ (by unfold gE; rw [hk]; rfl)
theorem gPW.refs {Γ : gG} {T : gTy} {r : gR} {l : gLg} {i : gI} {H : Heap} (h : gPW Γ T r l i H) {a n z : Nat} (hz : z = 15 ∨ z = 16) (hk : T.2 a = (z, n)) : va_at (gD Γ) vwCl (a, .inl ((if z = 15 then gcS Γ else gcW Γ), n, .inr (.inr (.inr (.inr (r a)))))) H := h.2.2 a _ (by unfold gE; rw [hk]; rcases hz with rfl | rfl <;> rfl)
theorem gP1 {D : va_G} {cl : List vw_C} {q : Nat × va_E} {H : Heap} (h : va_at D cl q H) : va_P D cl [q] H := fun k x hk => by
  cases k with
  | zero => cases hk; exact h
  | succ k => simp at hk
/-- one cell is written: the others stay -/
theorem gPW.put {Γ : gG} {T : gTy} {r r' : gR} {l : gLg} {i i' : gI} {H H1 : Heap} {a : Nat} (h : gPW Γ T r l i H) (z : H1.size = H.size) (oq : ∀ q : Nat, q ≠ a → H1[q]? = H[q]?) (hr : ∀ b, b ≠ a → r' b = r b) (hi : ∀ b, b ≠ a → i' b = i b) (ha : ∀ e : va_E, gE Γ (T.2 a).1 (T.2 a).2 (r' a) (l a) (i' a) = some e → va_at (gD Γ) vwCl (a, e) H1) : gPW Γ T r' l i' H1 := by
  refine ⟨z.trans h.1, h.2.1, fun b e hb => ?_⟩
  by_cases hba : b = a
  · subst hba
    exact ha e hb
  · rw [hr b hba, hi b hba] at hb
    exact (h.2.2 b e hb).kept (oq b hba)
theorem gPW.putL {Γ : gG} {T : gTy} {r : gR} {l l' : gLg} {i : gI} {H H1 : Heap} {a : Nat} (h : gPW Γ T r l i H) (z : H1.size = H.size) (oq : ∀ q : Nat, q ≠ a → H1[q]? = H[q]?) (hl : ∀ b, b ≠ a → l' b = l b) (ha : ∀ e : va_E, gE Γ (T.2 a).1 (T.2 a).2 (r a) (l' a) (i a) = some e → va_at (gD Γ) vwCl (a, e) H1) : gPW Γ T r l' i H1 := by
  refine ⟨z.trans h.1, h.2.1, fun b e hb => ?_⟩
  by_cases hba : b = a
  · subst hba
    exact ha e hb
  · rw [hl b hba] at hb
    exact (h.2.2 b e hb).kept (oq b hba)
/-- one cell is made, behind the others -/
theorem gPW.new {Γ : gG} {T : gTy} {r : gR} {l : gLg} {i : gI} {H H1 : Heap} {kn : Nat × Nat} {r1 : Nat → Option Nat} {l1 : Nat → Int64} {i1 : Nat → Int32} (h : gPW Γ T r l i H) (z : H1.size = H.size + 1) (oq : ∀ q : Nat, q < H.size → H1[q]? = H[q]?) (ha : ∀ e : va_E, gE Γ kn.1 kn.2 r1 l1 i1 = some e → va_at (gD Γ) vwCl (H.size, e) H1) : gPW Γ (T.1 + 1, va_up T.2 T.1 kn) (va_up r T.1 r1) (va_up l T.1 l1) (va_up i T.1 i1) H1 := by
  refine ⟨by rw [z, h.1], Nat.le_succ_of_le h.2.1, fun b e hb => ?_⟩
  by_cases hba : b = T.1
  · subst hba
    simp only [va_up, if_pos rfl] at hb
    have := ha e hb
    rw [h.1] at this
    exact this
  · simp only [va_up, if_neg hba] at hb
    have h1 := h.2.2 b e hb
    exact h1.kept (oq b h1.lt)
abbrev gM : Type := MethodName × ByteArray × Nat × Option FieldType × Room
abbrev gMw (M : gM) : List Cond := .code M.1 M.2.1 M.2.2.1 M.2.2.2.1 :: gw
def gFix (Γ : gG) (M : gM) (p : Program) (s : State) (m : MethodId) (args : Array Value) (meth : Method) (c : Code) : Prop := p.tables.exec = Jvm.exec ∧ c.code = M.2.1 ∧ c.maxLocals = M.2.2.1 ∧ s.vm.findClass M.1.cls = some m.cls ∧ (∀ w ∈ gw, w.before args s = true) ∧ gTT Γ s ∧ gZZ Γ s s.heap ∧ (M.1.name = "<init>" → meth.name = "<init>")
def gRi : Option Value → Instr
  | none => .return_
  | some (.int _) => .ireturn
  | some (.long _) => .lreturn
  | _ => .areturn
def gRet (ret : Option FieldType) : Option Value → Prop
  | none => ret = none
  | some (.int a) => ∃ ty, ret = some ty ∧ narrow ty (.int a) = .int a
  | some (.long _) => ret = some .long
  | some (.ref _) => ∃ rt, ret = some rt ∧ ((∃ n, rt = .object n) ∨ ∃ t, rt = .array t)
  | some .null => ∃ rt, ret = some rt ∧ ((∃ n, rt = .object n) ∨ ∃ t, rt = .array t)
  | _ => False
abbrev gQ : Type := Option Value → gTy → gR → gLg → gI → Prop
def gEx (Γ : gG) (M : gM) (p : Program) (e : Env) (s : State) (m : MethodId) (args : Array Value) (below : List Frame) (meth : Method) (c : Code) (X : State → Prop) (Q : gQ) : Prop :=
  ∀ (v : Option Value) (T : gTy) (r : gR) (l : gLg) (i : gI) (H : Heap) (locs : List Loc) (k n pc : Nat) (ls : Array Slot), Q v T r l i → k ≤ M.2.2.2.2.cells → n ≤ M.2.2.2.2.slots → gPW Γ T r l i H → va_S (gA Γ) s.heap H locs → gRet M.2.2.2.1 v → decode M.2.1 pc = .ok (gRi v, 1) → W p Γ.1 e M.2.2.2.2 s m args below meth c H locs k n X (F0 m pc ls v.toList)
/-- from this point of method M the walk comes to its end, with Q of the answer and the world -/
def G (Γ : gG) (M : gM) (k n pc : Nat) (L : List (Nat × Value)) (st : List Value) (T : gTy) (r : gR) (l : gLg) (i : gI) (Q : gQ) : Prop :=
  ∀ (p : Program) (e : Env) (s : State) (m : MethodId) (args : Array Value) (below : List Frame) (meth : Method) (c : Code) (H : Heap) (locs : List Loc) (ls : Array Slot) (X : State → Prop), gFix Γ M p s m args meth c → lv_has ls M.2.2.1 L → gPW Γ T r l i H → va_S (gA Γ) s.heap H locs → gEx Γ M p e s m args below meth c X Q → W p Γ.1 e M.2.2.2.2 s m args below meth c H locs k n X (F0 m pc ls st)
def gQc (Γ : gG) (Q : gQ) : Array Value → State → Outcome → State → Prop := fun _ st o t => (∃ (v : Option Value) (T : gTy) (r : gR) (l : gLg) (i : gI), o = .returned v ∧ Q v T r l i ∧ gPW Γ T r l i t.heap) ∧ va_F (gA Γ) st t
def gPc (Γ : gG) (av : List Value) (T : gTy) (r : gR) (l : gLg) (i : gI) : Array Value → State → Prop := va_Pc av (fun U => gPW Γ T r l i U.heap ∧ gTT Γ U ∧ gZZ Γ U U.heap)
/-- a call of method M with av over this world comes back with Q -/
def gC (Γ : gG) (M : gM) (av : List Value) (T : gTy) (r : gR) (l : gLg) (i : gI) (Q : gQ) : Prop := Met Γ.1 M.1 (gMw M) M.2.2.2.2 (gPc Γ av T r l i) (gQc Γ Q) M.2.2.2.2.cells M.2.2.2.2.slots (gA Γ)
theorem gC_of {Γ : gG} {M : gM} {av : List Value} {T : gTy} {r : gR} {l : gLg} {i : gI} {Q : gQ} (hpl : plainName M.1.cls = true) (hlen : (lg_sl av).length ≤ M.2.2.1) {L : List (Nat × Value)} (hL : lv_args 0 av = L) (h : G Γ M 0 0 0 L [] T r l i Q) : gC Γ M av T r l i Q := by
  refine Met.ofW (cc := M.2.1) (maxL := M.2.2.1) (ret := M.2.2.2.1) hpl rfl ?_
  intro p e s m args below meth c s₁ B hml hv
  obtain ⟨rfl, hPW, hTT, hZZ⟩ := hv
  have hx := B.exec
  have hb := B.bytes
  have hr := B.returns
  have hts := atoms_spec (ws := gMw M) B.pre
  have hown : s.vm.findClass M.1.cls = some m.cls := findClass_of_methodNamed B.named
  have hlocks := B.notSynchronized
  have hl := lv_entry av (n := M.2.2.1) hlen
  rw [hL] at hl
  rw [lg_entry_eq]
  refine h p e s m _ below meth c s.heap [] _ _ ⟨hx, hb, hml, hown, fun w hw => hts w (List.mem_cons_of_mem _ hw), hTT, hZZ, fun hn => (name_of_methodNamed B.named B.method).1.trans hn⟩ hl hPW va_S.rf ?_
  intro v T r l i H locs k n pc ls hQ hk hn hP hS hR hd
  refine W.widen hk hn ?_
  match v, hR, hd, hQ with
  | none, hR, hd, hQ => exact W.vret hx hb (hr.trans hR) (fun t ht _ => ⟨⟨none, T, r, l, i, rfl, hQ, by rw [ht]; exact hP⟩, hS.F ht⟩) hS.2.2 hd
  | some (.int a), ⟨ty, h1, h2⟩, hd, hQ => exact W.zret hx hb (hr.trans h1) h2 (fun t ht _ => ⟨⟨some (.int a), T, r, l, i, rfl, hQ, by rw [ht]; exact hP⟩, hS.F ht⟩) hS.2.2 hd
  | some (.long a), hR, hd, hQ => exact W.lret hx hb (hr.trans hR) (fun t ht _ => ⟨⟨some (.long a), T, r, l, i, rfl, hQ, by rw [ht]; exact hP⟩, hS.F ht⟩) hS.2.2 hd
  | some (.ref a), ⟨rt, h1, h2⟩, hd, hQ => exact W.aret hx hb (hr.trans h1) h2 (Or.inr ⟨a, rfl⟩) (fun t ht _ => ⟨⟨some (.ref a), T, r, l, i, rfl, hQ, by rw [ht]; exact hP⟩, hS.F ht⟩) hS.2.2 hd
  | some .null, ⟨rt, h1, h2⟩, hd, hQ => exact W.aret hx hb (hr.trans h1) h2 (Or.inl rfl) (fun t ht _ => ⟨⟨some .null, T, r, l, i, rfl, hQ, by rw [ht]; exact hP⟩, hS.F ht⟩) hS.2.2 hd
theorem gC.mono {Γ : gG} {M : gM} {av : List Value} {T : gTy} {r : gR} {l : gLg} {i : gI} {Q Q' : gQ} (h : gC Γ M av T r l i Q) (hQ : ∀ v T r l i, Q v T r l i → Q' v T r l i) : gC Γ M av T r l i Q' := by
  unfold gC at h ⊢
  intro p e ha hc hk s m args below hf hsp hPc hK
  obtain ⟨k, o, h1, h2, h3, ⟨⟨⟨v, T1, r1, l1, i1, q1, q2, q3⟩, q4⟩, q5⟩⟩ := h p e ha hc hk s m args below hf hsp hPc hK
  exact ⟨k, o, h1, h2, h3, ⟨⟨⟨v, T1, r1, l1, i1, q1, hQ _ _ _ _ _ q2, q3⟩, q4⟩, q5⟩⟩
theorem gPc_blind {Γ : gG} {av : List Value} {T : gTy} {r : gR} {l : gLg} {i : gI} : FrameBlind (gPc Γ av T r l i) := fun a U g mk h => ⟨h.1, h.2.1, gTT.same (u := U) (U := U.calling g mk a) rfl h.2.2.1, gZZ.moved (s := U) (U := U.calling g mk a) (Vm.Alike.refl U.vm) (fun _ _ _ => rfl) h.2.2.2⟩
section GCALL
variable {Γ : gG} {M N : gM} {p : Program} {e : Env} {s : State} {m : MethodId} {args : Array Value} {below : List Frame} {meth : Method} {c : Code} {H : Heap} {locs : List Loc} {k n : Nat} {X : State → Prop} {T : gTy} {r : gR} {l : gLg} {i : gI}
theorem gPre {As : List Value} (F : gFix Γ M p s m args meth c) (hP : gPW Γ T r l i H) (hS : va_S (gA Γ) s.heap H locs) : PreS s H (gPc Γ As T r l i) As := ⟨gPc_blind, fun U hU hW => ⟨rfl, by rw [hU]; exact hP, gTT.warm hW F.2.2.2.2.2.1, gZZ.moved hW.alike (fun a h1 h2 => by rw [hU]; exact hS.2.1 a h1 h2) F.2.2.2.2.2.2.1⟩⟩
theorem gBack {Q : gQ} {a : Array Value} {pc : Nat} {ls : Array Slot} {rest st0 : List Value} {mc ms : Nat} (hr : va_Run p Γ.1 e M.2.2.2.2 s m args below meth c H locs k n mc ms (F0 m pc ls st0) rest (gQc Γ Q a) (gA Γ)) (hS : va_S (gA Γ) s.heap H locs)
    (kk : ∀ (v : Option Value) (T1 : gTy) (r1 : gR) (l1 : gLg) (i1 : gI) (H1 : Heap) (locs1 : List Loc), Q v T1 r1 l1 i1 → gPW Γ T1 r1 l1 i1 H1 → va_S (gA Γ) s.heap H1 locs1 → W p Γ.1 e M.2.2.2.2 s m args below meth c H1 locs1 (k + mc) (n + ms) X (F0 m (pc + 3) ls (v.toList ++ rest))) : W p Γ.1 e M.2.2.2.2 s m args below meth c H locs k n X (F0 m pc ls st0) := by
  intro U hU XX
  obtain ⟨v, st₀, t, U', L, h0, X', hL, e1, e2, ⟨⟨v', T1, r1, l1, i1, hv, hQ, hP⟩, hz, hk⟩, st⟩ := hr U hU XX
  cases hv
  rw [h0] at hz hk
  obtain ⟨t2, a1, b1⟩ := kk v T1 r1 l1 i1 U'.heap (locs ++ L) hQ (by rw [e1]; exact hP) ⟨Nat.le_trans hS.1 (by rw [e1]; exact hz), fun q h1 h2 => by rw [e1, hk q (Nat.lt_of_lt_of_le h1 hS.1) h2]; exact hS.2.1 q h1 h2, fun q hq => by
      rcases List.mem_append.mp hq with h | h
      · exact hS.2.2 q h
      · exact hL q h⟩ U' rfl X'
  exact ⟨t2, st t2 a1, b1⟩
end GCALL
/-- what a call needs of the tables: virtual (ci: the receiver's class), static, constructor; in the class itself or across the nest -/
def gLk (own : String) (idx : Nat) (N : gM) (np : Nat) : Prop := (Cond.code N.1 N.2.1 N.2.2.1 N.2.2.2.1 ∈ gw ∧ Cond.initialized N.1.cls ∈ gw ∧ (N.1.cls ≠ "java/lang/invoke/MethodHandle" ∧ N.1.cls ≠ "java/lang/invoke/VarHandle" ∧ (parseMethodDescriptor N.1.desc).map (fun d => d.parameters.length) = some np)) ∧ (Cond.methodLink own idx N.1 ∈ gw ∨ ∃ host, Cond.methodLinkNest own idx N.1 host ∈ gnw)
def gLkV (own : String) (idx : Nat) (N : gM) (np ci : Nat) : Prop := gLk own idx N np ∧ Cond.instanceMethod N.1 ∈ gw ∧ Cond.selects N.1.cls N.1 N.1 ∈ gw ∧ ci < 13 ∧ ∃ (Tb : u_T) (nn : Nat), vwCl[ci]? = some (N.1.cls, Tb, nn)
def gLkS (own : String) (idx : Nat) (N : gM) (np : Nat) : Prop := gLk own idx N np ∧ Cond.static N.1 ∈ gw
def gLkI (own : String) (idx : Nat) (N : gM) (np : Nat) : Prop := gLk own idx N np ∧ Cond.instanceMethod N.1 ∈ gw ∧ N.1.name = "<init>" ∧ N.2.2.2.1 = none
abbrev gFits (R rm : Room) (nL : Nat) : Prop := rm.frames + 1 ≤ R.frames ∧ 8 + (nL + 11) + rm.locals ≤ R.locals
section GCALL2
variable {Γ : gG} {M N : gM} {p : Program} {e : Env} {s : State} {m : MethodId} {args : Array Value} {below : List Frame} {meth : Method} {c : Code} {H : Heap} {locs : List Loc} {k n : Nat} {X : State → Prop} {T : gTy} {r : gR} {l : gLg} {i : gI}
theorem gMw_good : GoodIn gw (gMw N) ∨ True := Or.inr trivial
theorem gCallB (F : gFix Γ M p s m args meth c) {idx np : Nat} (hl : gLk M.1.cls idx N np) (hR : gFits M.2.2.2.2 N.2.2.2.2 N.2.2.1) :
    (∃ _ : True, Cond.methodLink M.1.cls idx N.1 ∈ gw ∧ CallB M.2.2.2.2 s args M.1.cls idx N.1 N.2.1 N.2.2.1 N.2.2.2.1 (gMw N) N.2.2.2.2 N.2.2.2.2.cells N.2.2.2.2.slots np) ∨ (∃ host, va_CN M.2.2.2.2 s args M.1.cls idx N.1 host N.2.1 N.2.2.1 N.2.2.2.1 (gMw N) N.2.2.2.2 N.2.2.2.2.cells N.2.2.2.2.slots np) := by
  obtain ⟨⟨hc, hi, hd⟩, hl⟩ := hl
  have hG : GoodIn gw (gMw N) := fun w hw => by
    rcases List.mem_cons.mp hw with rfl | h
    · exact gw_good _ hc
    · exact gw_good _ h
  rcases hl with hl | ⟨host, hl⟩
  · exact Or.inl ⟨trivial, hl, callB_of np F.2.2.2.2.1 hG rfl rfl rfl (F.2.2.2.2.1 _ hi) (F.2.2.2.2.1 _ hl) hd hR⟩
  · exact Or.inr ⟨host, va_cnB np F.2.2.2.2.1 hG rfl rfl rfl (F.2.2.2.2.2.1.1 _ hl) (F.2.2.2.2.1 _ hi) hd hR⟩
end GCALL2
abbrev gCat (st : List Value) : Nat := (st.map fun v => v.category).sum
section GRULE
variable {Γ : gG} {M N : gM} {k n pc : Nat} {L : List (Nat × Value)} {st : List Value} {T : gTy} {r : gR} {l : gLg} {i : gI} {Q : gQ}
theorem G_callV {idx np ci b : Nat} {As rest : List Value} (hd : decode M.2.1 pc = .ok (.invokevirtual idx, 3)) (hl : gLkV M.1.cls idx N np ci) (hn : As.length = np) (hR : gFits M.2.2.2.2 N.2.2.2.2 N.2.2.1) (hc : gCat rest ≤ 8) (hf : k + N.2.2.2.2.cells ≤ M.2.2.2.2.cells ∧ n + N.2.2.2.2.slots ≤ M.2.2.2.2.slots) (hb : (T.2 b).1 = ci)
    (h : gC Γ N (.ref b :: As) T r l i (fun v T1 r1 l1 i1 => G Γ M (k + N.2.2.2.2.cells) (n + N.2.2.2.2.slots) (pc + 3) L (v.toList ++ rest) T1 r1 l1 i1 Q)) : G Γ M k n pc L (As.reverse ++ .ref b :: rest) T r l i Q := by
  intro p e s m args below meth c H locs ls X F hls hP hS hE
  obtain ⟨hlk, hin, hsel, hci, Tb, nn, hcl⟩ := hl
  have hrecv := va_recv (q0 := 0) F.2.2.2.2.2.1.2.1 (gP1 (hP.obj hb hci)) hcl rfl
  have hpre := gPre (As := .ref b :: As) F hP hS
  rcases gCallB F hlk hR with ⟨-, -, cb⟩ | ⟨host, cb⟩
  · refine gBack (va_runV ⟨F.1, F.2.1, F.2.2.1, F.2.2.2.1, F.2.2.2.2.1⟩ h ⟨cb, F.2.2.2.2.1 _ hin, F.2.2.2.2.1 _ hsel⟩ ⟨hpre.1, hrecv, hpre.2⟩ rfl hn hls.1 rfl (lv_room hc) hd hf) hS ?_
    intro v T1 r1 l1 i1 H1 locs1 hG hP1 hS1
    exact hG p e s m args below meth c H1 locs1 ls X F hls hP1 hS1 hE
  · refine gBack (va_runVN ⟨F.1, F.2.1, F.2.2.1, F.2.2.2.1, F.2.2.2.2.1⟩ h ⟨cb, F.2.2.2.2.1 _ hin, F.2.2.2.2.1 _ hsel⟩ ⟨hpre.1, hrecv, hpre.2⟩ rfl hn hls.1 rfl (lv_room hc) hd hf) hS ?_
    intro v T1 r1 l1 i1 H1 locs1 hG hP1 hS1
    exact hG p e s m args below meth c H1 locs1 ls X F hls hP1 hS1 hE
theorem G_callS {idx np : Nat} {As rest : List Value} (hd : decode M.2.1 pc = .ok (.invokestatic idx, 3)) (hl : gLkS M.1.cls idx N np) (hn : As.length = np) (hR : gFits M.2.2.2.2 N.2.2.2.2 N.2.2.1) (hc : gCat rest ≤ 8) (hf : k + N.2.2.2.2.cells ≤ M.2.2.2.2.cells ∧ n + N.2.2.2.2.slots ≤ M.2.2.2.2.slots)
    (h : gC Γ N As T r l i (fun v T1 r1 l1 i1 => G Γ M (k + N.2.2.2.2.cells) (n + N.2.2.2.2.slots) (pc + 3) L (v.toList ++ rest) T1 r1 l1 i1 Q)) : G Γ M k n pc L (As.reverse ++ rest) T r l i Q := by
  intro p e s m args below meth c H locs ls X F hls hP hS hE
  obtain ⟨hlk, hst⟩ := hl
  have hpre := gPre (As := As) F hP hS
  rcases gCallB F hlk hR with ⟨-, -, cb⟩ | ⟨host, cb⟩
  · refine gBack (va_runS ⟨F.1, F.2.1, F.2.2.1, F.2.2.2.1, F.2.2.2.2.1⟩ h ⟨cb, F.2.2.2.2.1 _ hst⟩ hpre rfl hn hls.1 rfl (lv_room hc) hd hf) hS ?_
    intro v T1 r1 l1 i1 H1 locs1 hG hP1 hS1
    exact hG p e s m args below meth c H1 locs1 ls X F hls hP1 hS1 hE
  · refine gBack (va_runSN ⟨F.1, F.2.1, F.2.2.1, F.2.2.2.1, F.2.2.2.2.1⟩ h ⟨cb, F.2.2.2.2.1 _ hst, trivial⟩ hpre rfl hn hls.1 rfl (lv_room hc) hd hf) hS ?_
    intro v T1 r1 l1 i1 H1 locs1 hG hP1 hS1
    exact hG p e s m args below meth c H1 locs1 ls X F hls hP1 hS1 hE
theorem G_callI {idx np b : Nat} {As rest : List Value} (hd : decode M.2.1 pc = .ok (.invokespecial idx, 3)) (hl : gLkI M.1.cls idx N np) (hn : As.length = np) (hR : gFits M.2.2.2.2 N.2.2.2.2 N.2.2.1) (hc : gCat rest ≤ 8) (hf : k + N.2.2.2.2.cells ≤ M.2.2.2.2.cells ∧ n + N.2.2.2.2.slots ≤ M.2.2.2.2.slots)
    (h : gC Γ N (.ref b :: As) T r l i (fun v T1 r1 l1 i1 => G Γ M (k + N.2.2.2.2.cells) (n + N.2.2.2.2.slots) (pc + 3) L (v.toList ++ rest) T1 r1 l1 i1 Q)) : G Γ M k n pc L (As.reverse ++ .ref b :: rest) T r l i Q := by
  intro p e s m args below meth c H locs ls X F hls hP hS hE
  obtain ⟨hlk, hin, hnm, hrt⟩ := hl
  have hpre := gPre (As := .ref b :: As) F hP hS
  rcases gCallB F hlk hR with ⟨-, -, cb⟩ | ⟨host, cb⟩
  · rw [hrt] at cb
    have cb2 : CallB M.2.2.2.2 s args M.1.cls idx N.1 N.2.1 N.2.2.1 none (gMw N) N.2.2.2.2 N.2.2.2.2.cells N.2.2.2.2.slots np := cb
    refine gBack (va_runI ⟨F.1, F.2.1, F.2.2.1, F.2.2.2.1, F.2.2.2.2.1⟩ h ⟨cb2, hnm, F.2.2.2.2.1 _ hin⟩ hpre rfl hn hls.1 rfl (lv_room hc) hd hf) hS ?_
    intro v T1 r1 l1 i1 H1 locs1 hG hP1 hS1
    exact hG p e s m args below meth c H1 locs1 ls X F hls hP1 hS1 hE
  · rw [hrt] at cb
    refine gBack (va_runIN ⟨F.1, F.2.1, F.2.2.1, F.2.2.2.1, F.2.2.2.2.1⟩ h ⟨cb, hnm, F.2.2.2.2.1 _ hin⟩ hpre rfl hn hls.1 rfl (lv_room hc) hd hf) hS ?_
    intro v T1 r1 l1 i1 H1 locs1 hG hP1 hS1
    exact hG p e s m args below meth c H1 locs1 ls X F hls hP1 hS1 hE
end GRULE
