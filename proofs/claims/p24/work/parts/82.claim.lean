/-! THE CLAIM OUT OF ONE WALK OF THE LAW'S BODY. Your part is whole_start (and what it stands on); all else here is the same for every law, but numbers. -/
def R_law : String := "FoldWalksLaw"
def lw_P (b : Addr) (xs : List Int32) (args : Array Value) (s : State) : Prop := args = #[.ref b] ∧ s.IntsAt b xs ∧ xs.length ≤ 260 ∧ (Jvm.Cond.and given_1 narrow_1).before args s = true
def lw_Q (_ : Array Value) (s : State) (o : Outcome) (t : State) : Prop := o = .returned (some (.int 1)) ∧ Framed s o t [] 600000 7302250
def lw_Z (below : List Frame) (a : Array Value) (s : State) : State → Prop := fun t => ∃ o, t.status = .running ∧ Ended t below o ∧ lw_Q a s o t
/-- the law's own end, with 1 on the stack, nothing written that was there before, its room as the claim has it -/
theorem lw_ret {p : Program} {l : Launch} {e : Env} {s : State} {m : MethodId} {below : List Frame} {meth : Method} {c : Code} {b : Nat} (hx : p.tables.exec = Jvm.exec) (hb : c.code = code) (hr : meth.sig.returnType = ret) (hlocks : meth.locks = false) {pc : Nat} {H : Heap} {ls : Array Slot} (hdg : decode code pc = .ok (.ireturn, 1)) : W p l e room_1 s m #[Value.ref b] below meth c H [] 600000 7302250 (lw_Z below #[Value.ref b] s) (F0 m pc ls [.int 1]) := by
  intro T hT X
  obtain ⟨fs, hret, hrun, hended, hW, hframe⟩ := X.leave (v := some (.int 1)) (hlocks := hlocks) (fun h => by rw [hr] at h; cases h)
  have hmeth' : T.vm.method? m = some meth := X.method'
  refine ⟨T.setFrames fs, ?_, .returned (some (.int 1)), hrun, hended, rfl, ⟨_, rfl⟩, hW, hframe⟩
  jvm_step X.here [X.here.top, hx, hb, hdg, hmeth', hr, ret, narrow_b1]
  (try refine ⟨rfl, ?_⟩); (try refine ⟨rfl, ?_⟩)
  first | (intro acts; rw [hret _ acts rfl rfl rfl]) | rw [hret _ _ rfl rfl rfl]
  exact Steps.refl _
/-- what holds at the law's entry: the machine, the code, the tables' words (any of lw_tbl by 'hts w (by decide +kernel)'), the script of L ints xs at the cell b, what the Statement gives of the start (any of its parts by flat_of_before) -/
def lw_At (p : Program) (s : State) (m : MethodId) (meth : Method) (c : Code) (b L : Nat) (xs : Nat → Int32) : Prop :=
  p.tables.exec = Jvm.exec ∧ c.code = code ∧ meth.sig.returnType = ret ∧ c.maxLocals = 11 ∧ s.vm.findClass R_law = some m.cls ∧ (∀ w ∈ lw_tbl, w.before #[Value.ref b] s = true) ∧ va_X b L xs s s.heap ∧ b < s.heap.size ∧ meth.locks = false ∧ (Jvm.Cond.and given_1 narrow_1).before #[Value.ref b] s = true
/-- the array classes that the tables name -/
theorem lw_prim {A : Array Value} {s : State} {ty : FieldType} (h : (Cond.arrayClass ty).before A s = true) : ∃ cA : ClassId, ArrOfT s cA ty ∧ s.vm.findClass ("[" ++ ty.toString) = some cA := by
  obtain ⟨cA, kA, comp, h1, h2, h3⟩ := Cond.arrayClass_spec h
  exact ⟨cA, fun N z => ⟨(fun k h => by cases h), kA, h2, comp, h3⟩, h1⟩
theorem lw_objs {A : Array Value} {s : State} {C : String} (h : (Cond.arrayOver (.object C)).before A s = true) : ∃ cA : ClassId, ArrOfT s cA (.object C) ∧ va_RA s cA (.object C) := by
  obtain ⟨comp, cA, kA, h1, h2, h3, h4, h5⟩ := Cond.arrayOver_spec h
  exact ⟨cA, fun N z => ⟨(fun k h => by cases h), kA, h3, comp, h4⟩, kA, comp, h3, h4, h1, h5⟩
theorem lw_nest {w : Cond} (h : gnest w = true) {A : Array Value} {U : State} (hw : w.before A U = true) : va_Nw w U := by
  cases w <;> first | exact va_Nw.of rfl hw | (simp [gnest] at h; done)
theorem lw_elem {A : Array Value} {s : State} {tm : Term} {f : Nat → Int32} (h0 : (Cond.eq (Term.elem tm (.int 0)) (.int (f 0))).before A s = true) (h1 : (Cond.eq (Term.elem tm (.int 1)) (.int (f 1))).before A s = true) (h2 : (Cond.eq (Term.elem tm (.int 2)) (.int (f 2))).before A s = true) : ∀ j : Nat, j < 3 → (Term.elem tm (.int (Int32.ofNat j))).eval A s none [] s = some (.int (f j)) := by
  intro j hj
  rcases (show j = 0 ∨ j = 1 ∨ j = 2 by omega) with rfl | rfl | rfl
  · exact va_eqt h0
  · exact va_eqt h1
  · exact va_eqt h2
set_option maxHeartbeats 4000000 in
set_option maxRecDepth 100000 in
theorem whole_start {p : Program} {e : Env} {s : State} {m : MethodId} {below : List Frame} {meth : Method} {c : Code} (l : Launch) (hflags : l.flags = flags0) {b L : Nat} {xs : Nat → Int32} (hL : L ≤ 260) (C0 : lw_At p s m meth c b L xs) : W p l e room_1 s m #[Value.ref b] below meth c s.heap [] 0 0 (lw_Z below #[Value.ref b] s) (entryFrame m ([Value.ref b] : List Value).toArray 11) := by
  obtain ⟨hx, hb, hr, hml, hown, hts, hX, hbl, hlocks, hgv⟩ := id C0
  have hgw : ∀ w ∈ gw, w.before #[Value.ref b] s = true := fun w hw => hts w (List.mem_filter.mp hw).1
  have htb : ∀ w ∈ tables_1, w.before #[Value.ref b] s = true := fun w hw => hts w (List.mem_append_right _ hw)
  have hA : ∀ a : Nat, a < s.heap.size → ¬ (fun q : Nat => s.heap.size ≤ q) a := fun a ha => Nat.not_le.mpr ha
  obtain ⟨c0, i0, hK0⟩ := u_known hgw inGX0 (hgw _ insX0)
  obtain ⟨c1, i1, hK1⟩ := u_known hgw inGX1 (hgw _ insX1)
  obtain ⟨c2, i2, hK2⟩ := u_known hgw inGX2 (hgw _ insX2)
  obtain ⟨c3, i3, hK3⟩ := u_known hgw inGX3 (hgw _ insX3)
  obtain ⟨c4, i4, hK4⟩ := u_known hgw inGX4 (hgw _ insX4)
  obtain ⟨c5, i5, hK5⟩ := u_known hgw inGX5 (hgw _ insX5)
  obtain ⟨c6, i6, hK6⟩ := u_known hgw inGX6 (hgw _ insX6)
  obtain ⟨c7, i7, hK7⟩ := u_known hgw inGX7 (hgw _ insX7)
  obtain ⟨c8, i8, hK8⟩ := u_known hgw inGX8 (hgw _ insX8)
  obtain ⟨c9, i9, hK9⟩ := u_known hgw inGX9 (hgw _ insX9)
  obtain ⟨c10, i10, hK10⟩ := u_known hgw inGX10 (hgw _ insX10)
  obtain ⟨c11, i11, hK11⟩ := u_known hgw inGX11 (hgw _ insX11)
  obtain ⟨dC, dI, hKc⟩ : ∃ (dC : Nat → ClassId) (dI : Nat → Nat → Nat), ∀ (k : Nat) (q : vw_C), vwCl[k]? = some q → u_Kn s q.1 q.2.1 q.2.2 (dC k) (dI k) := by
    refine ⟨fun k => [c0, c1, c2, c3, c4, c5, c6, c7, c8, c9, c10, c11].getD k c0, fun k => [i0, i1, i2, i3, i4, i5, i6, i7, i8, i9, i10, i11].getD k i0, ?_⟩
    intro k q hq
    match k, hq with
    | 0, hq => cases hq; exact hK0
    | 1, hq => cases hq; exact hK1
    | 2, hq => cases hq; exact hK2
    | 3, hq => cases hq; exact hK3
    | 4, hq => cases hq; exact hK4
    | 5, hq => cases hq; exact hK5
    | 6, hq => cases hq; exact hK6
    | 7, hq => cases hq; exact hK7
    | 8, hq => cases hq; exact hK8
    | 9, hq => cases hq; exact hK9
    | 10, hq => cases hq; exact hK10
    | 11, hq => cases hq; exact hK11
    | k + 12, hq => simp [vwCl] at hq
  obtain ⟨cI, aI, rI⟩ := lw_prim (hgw _ aci)
  obtain ⟨cZ, aZ, rZ_⟩ := lw_prim (hgw _ acz)
  have oS : (Cond.arrayOver (.object RX6)).before #[Value.ref b] s = true := htb _ (List.mem_of_getElem? (i := 165) (by decide +kernel))
  have oW : (Cond.arrayOver (.object RX9)).before #[Value.ref b] s = true := htb _ (List.mem_of_getElem? (i := 63) (by decide +kernel))
  obtain ⟨cS, aS, rS_⟩ := lw_objs oS
  obtain ⟨cW, aW, rW_⟩ := lw_objs oW
  have hs := flat_of_before _ hgv
  have lL : (Cond.laysStatic RX4 "LEAST" "[I").before #[Value.ref b] s = true := htb _ (List.mem_of_getElem? (i := 677) (by decide +kernel))
  have lG : (Cond.laysStatic RX4 "GREATEST" "[I").before #[Value.ref b] s = true := htb _ (List.mem_of_getElem? (i := 679) (by decide +kernel))
  have nL : (Cond.arrayOf (Term.static RX4 "LEAST" "[I") .int).before #[Value.ref b] s = true := hs _ (by decide +kernel)
  have zL : (Cond.eq (Term.length (Term.static RX4 "LEAST" "[I")) (.int 3)).before #[Value.ref b] s = true := hs _ (by decide +kernel)
  have eL0 : (Cond.eq (Term.elem (Term.static RX4 "LEAST" "[I") (.int 0)) (.int 1)).before #[Value.ref b] s = true := hs _ (by decide +kernel)
  have eL1 : (Cond.eq (Term.elem (Term.static RX4 "LEAST" "[I") (.int 1)) (.int 1)).before #[Value.ref b] s = true := hs _ (by decide +kernel)
  have eL2 : (Cond.eq (Term.elem (Term.static RX4 "LEAST" "[I") (.int 2)) (.int 2)).before #[Value.ref b] s = true := hs _ (by decide +kernel)
  obtain ⟨aL, vL, TL⟩ := va_Tof (f := fun j => .int (gLo j)) (N := 3) (A := fun q : Nat => s.heap.size ≤ q) (by decide) nL (va_eqt zL) (lw_elem (f := gLo) eL0 eL1 eL2) hA
  have ZL := va_Zref (A := fun q : Nat => s.heap.size ≤ q) lL (hgw _ iniX4) vL hA
  have nG : (Cond.arrayOf (Term.static RX4 "GREATEST" "[I") .int).before #[Value.ref b] s = true := hs _ (by decide +kernel)
  have zG : (Cond.eq (Term.length (Term.static RX4 "GREATEST" "[I")) (.int 3)).before #[Value.ref b] s = true := hs _ (by decide +kernel)
  have eG0 : (Cond.eq (Term.elem (Term.static RX4 "GREATEST" "[I") (.int 0)) (.int 64)).before #[Value.ref b] s = true := hs _ (by decide +kernel)
  have eG1 : (Cond.eq (Term.elem (Term.static RX4 "GREATEST" "[I") (.int 1)) (.int 128)).before #[Value.ref b] s = true := hs _ (by decide +kernel)
  have eG2 : (Cond.eq (Term.elem (Term.static RX4 "GREATEST" "[I") (.int 2)) (.int 20)).before #[Value.ref b] s = true := hs _ (by decide +kernel)
  obtain ⟨aG, vG, TG⟩ := va_Tof (f := fun j => .int (gHi j)) (N := 3) (A := fun q : Nat => s.heap.size ≤ q) (by decide) nG (va_eqt zG) (lw_elem (f := gHi) eG0 eG1 eG2) hA
  have ZG := va_Zref (A := fun q : Nat => s.heap.size ≤ q) lG (hgw _ iniX4) vG hA
  have TX : va_T .int b L (fun j => .int (xs j)) (fun q : Nat => s.heap.size ≤ q) s s.heap := by
    obtain ⟨scr, h1, h2, h3, h4, h5⟩ := hX
    exact ⟨scr, h1, h2, h3, by omega, by rw [h4], h5, hA b hbl⟩
  generalize hΓ : ((l, (dC, dI), (cI, cZ, cS, cW), s.heap.size, aL, aG, b, L, xs) : gG) = Γ
  have hTT : gTT Γ s := by
    rw [← hΓ]
    refine ⟨fun w hw => lw_nest (List.mem_filter.mp hw).2 (htb w (List.mem_filter.mp hw).1), ⟨hKc, fun k q hq => ?_⟩, oS, oW⟩
    match k, hq with
    | 0, hq => cases hq; exact ⟨aI, rI⟩
    | 1, hq => cases hq; exact ⟨aZ, rZ_⟩
    | 2, hq => cases hq; exact ⟨aS, rS_⟩
    | 3, hq => cases hq; exact ⟨aW, rW_⟩
    | k + 4, hq => simp [gtys] at hq
  have hZZ : gZZ Γ s s.heap := by
    rw [← hΓ]
    exact ⟨ZL, ZG, TL, TG, TX⟩
  have eN : gN Γ = s.heap.size := by rw [← hΓ]
  have eb : gsb Γ = b := by rw [← hΓ]
  have eL : gsL Γ = L := by rw [← hΓ]
  have el : Γ.1 = l := by rw [← hΓ]
  have eA : gA Γ = fun q : Nat => s.heap.size ≤ q := by rw [← hΓ]; rfl
  have hP : gPW Γ (s.heap.size, fun _ => (99, 0)) (fun _ _ => none) (fun _ _ => 0) (fun _ _ => 0) s.heap := ⟨rfl, by rw [eN]; exact Nat.le_refl _, fun a e he => by simp [gE] at he⟩
  have hm := law_main (Γ := Γ) (Q := fun v _ _ _ _ => v = some (.int 1)) (x := s.heap.size) (by rw [eN]; exact Nat.le_refl _) (by rw [eL]; exact hL) (fun _ _ _ _ => rfl) (fun _ => (99, 0)) (fun _ _ => none) (fun _ _ => 0) (fun _ _ => 0)
  have hl := lv_entry ([.ref b]) (n := 11) (Nat.le_of_ble_eq_true rfl)
  rw [lg_entry_eq]
  generalize (lg_sl ([.ref b]) ++ List.replicate (11 - (lg_sl ([.ref b])).length) Slot.unset).toArray = ls at hl ⊢
  have hl : lv_has ls 11 [(0, .ref b)] := hl
  rw [eb] at hm
  have hw := hm p e s m #[Value.ref b] below meth c s.heap [] ls (lw_Z below #[Value.ref b] s) ⟨hx, hb, hml, hown, hgw, hTT, hZZ, fun h => absurd (show ("law" : String) = "<init>" from h) (by decide)⟩ hl hP va_S.rf ?_
  · rw [el] at hw
    exact hw
  · intro v T r l' i H locs k n pc ls hQ hk hn hP2 hS hR hd
    obtain rfl : v = some (.int 1) := hQ
    rw [eA] at hS
    rw [el]
    refine W.widen (k := 600000) (n := 7302250) hk hn ?_
    refine va_forget hS.2.2 ?_
    exact lw_ret hx hb hr hlocks hd
set_option maxHeartbeats 4000000 in
theorem lw_walk (l : Launch) (hflags : l.flags = flags0) (b : Addr) (xs : List Int32) : MetFree l x (headSpec (Jvm.Cond.code x code maxLocals ret :: tables_1) room_1) (lw_P b xs) (fun _ _ _ _ _ => True) lw_Q := by
  refine MetFree.of_bodyS (code := code) (maxLocals := maxLocals) (ret := ret) (by decide) ?_ ?_
  · intro args s m h hn
    obtain ⟨meth, c, h1, h2, h3, h4, h5, h6, -, -⟩ := Cond.code_spec hn (atoms_spec (ws := Jvm.Cond.code x code maxLocals ret :: tables_1) h _ List.mem_cons_self)
    exact ⟨meth, c, h1, h2, h3, h4, h5, h6⟩
  · intro p e s m args below meth c s₁ B hml0 hP _
    obtain ⟨rfl, hx, hbd, hgv⟩ := hP
    obtain ⟨scr, harrAt, hlist, hof, hsmall⟩ := hx
    obtain ⟨hcb, hkn, -, -⟩ := State.arrayAt?_spec harrAt
    have hown : s.vm.findClass R_law = some m.cls := findClass_of_methodNamed B.named
    have hts0 : ∀ c ∈ (Jvm.Cond.code x code maxLocals ret :: tables_1), c.before #[Value.ref b] s = true := atoms_spec (ws := Jvm.Cond.code x code maxLocals ret :: tables_1) B.pre
    have hts : ∀ w ∈ lw_tbl, w.before #[Value.ref b] s = true := k2_hts_sels lw_privs (fun w hw => hts0 w (List.mem_cons_of_mem _ hw)) lw_privs_ok
    have hml : c.maxLocals = 11 := B.maxLocals_eq (hts0 _ List.mem_cons_self)
    have X₀ : Stand p l e room_1 s m #[Value.ref b] below meth c s₁ [] 0 0 := Stand.of_body B
    have hh0 : s₁.heap = s.heap := by rw [B.state]; rfl
    have hsz : scr.slots.size = xs.length := by rw [← Array.length_toList, hlist, List.length_map]
    have hval : ∀ j : Nat, j < xs.length → scr.slots[j]? = some (.int (xs.getD j 0)) := fun j hj => by
      rw [← Array.getElem?_toList, hlist]
      simp [hj]
    have hbl : b < s.heap.size := (Array.getElem?_eq_some_iff.mp hcb).1
    have hX : va_X b xs.length (fun j => xs.getD j 0) s s.heap := ⟨scr, hcb, hof, hkn, hsz, hval⟩
    have K : W p l e room_1 s m #[Value.ref b] below meth c s₁.heap [] 0 0 (lw_Z below #[Value.ref b] s) (entryFrame m ([Value.ref b] : List Value).toArray 11) := by
      rw [hh0]
      exact whole_start l hflags hbd ⟨B.exec, B.bytes, B.returns, hml, hown, hts, hX, hbl, B.notSynchronized, hgv⟩
    obtain ⟨t, a1, o, b1, b2, b3⟩ := K s₁ rfl X₀
    exact ⟨t, o, a1, b1, b2, b3⟩
theorem lw_pre_spec {args : Array Value} {s : State} (h : (Jvm.Cond.and given_1 narrow_1).before args s = true) (hr : rest_1_c.before args s = true) : ∃ (b : Addr) (xs : List Int32), lw_P b xs args s := by
  have hs := flat_of_before _ h
  have hq := flat_of_before _ hr
  have hc : (Cond.count 1).before args s = true := hs _ (by decide +kernel)
  have harr : (Cond.arrayOf (.arg 0) .int).before args s = true := hs _ (by decide +kernel)
  have hle : (Cond.le (.length (.arg 0)) (.int 260)).before args s = true := hs _ (by decide +kernel)
  have hlen : (Cond.isInt (.length (.arg 0))).before args s = true := hq _ (by decide +kernel)
  have hall : (Cond.all (.arg 0) (.isInt (.elem (.arg 0) (.index 0)))).before args s = true := hq _ (by decide +kernel)
  obtain ⟨b, xs, hb, hx⟩ := State.ints_of_pre rfl harr hlen hall
  have hsm : xs.length < 2 ^ 31 := hx.choose_spec.2.2.2
  have hev : (Term.length (.arg 0)).eval args s none [] s = some (.int xs.length.toInt32) := hx.length_eval hb
  have hv := Cond.le_ints hev (show (Term.int 260).eval args s none [] s = some (.int 260) from rfl)
  have hd : xs.length.toInt32 ≤ 260 := by
    simpa [Cond.before, Cond.holds, hv] using hle
  have hN : xs.length ≤ 260 := (Int32.ofNat_le_ofNat hsm (by decide)).mp (show Int32.ofNat xs.length ≤ Int32.ofNat 260 from hd)
  exact ⟨b, xs, Cond.one_arg hc (show args[0]? = some (.ref b) from hb), hx, hN, h⟩
theorem lw_comes (l : Launch) (hflags : l.flags = flags0) : Comes l x (Jvm.Cond.code x code maxLocals ret :: tables_1) room_1 (fun tb e args s => Calls_1 tb e args s ∧ rest_1 tb e args s ∧ Pre_1 tb e args s)
    (fun _ _ args s o t => lw_Q args s o t) := by
  intro p e ha hc hk s m args below hf hfit hheap happ hpre
  obtain ⟨b, xs, hP⟩ := lw_pre_spec hpre.2.2 hpre.2.1
  obtain ⟨k, o, h1, h2, h3, hQ⟩ := lw_walk l hflags b xs p e ha hc hk s m args below hf ((Spec.applies_iff_loose hf).mp happ).1 hP trivial
  exact ⟨k, o, h1, h2, h3, hQ⟩
theorem lw_frame {s t : State} {o : Outcome} {args : Array Value} (h : Framed s o t [] 600000 7302250) :
    Framed s o t (fieldLocs frame_1_writes args s ++ arrayLocs frame_1_arrays args s ++ staticLocs frame_1_statics s) 600000 7302250 := h
theorem lw_limb (L : Cond) (hL : ∀ (args : Array Value) (s t : State), L.after args s (.returned (some (.int 1))) t = true) :
    ArmFor flags0 classFile x code maxLocals ret World_1 tables_1 room_1 Calls_1 rest_1 Pre_1
      (fun tb e a s o t => postC L tb e a s o t ∧ Framed s o t (fieldLocs frame_1_writes a s ++ arrayLocs frame_1_arrays a s ++ staticLocs frame_1_statics s) 600000 7302250) := by
  intro l hflags _ _ p e ha hc hk s m args below hf hfit hheap happ hpre
  obtain ⟨k, o, h1, h2, h3, rfl, hF⟩ := lw_comes l hflags p e ha hc hk s m args below hf hfit hheap happ hpre
  exact ⟨k, _, h1, h2, h3, hL args s _, lw_frame hF⟩
theorem i_vc : Claimed_1_1 ∧ Claimed_1_2 := ⟨lw_limb limb_1_1 (fun args s t => by simp [limb_1_1, Cond.after, Cond.holds, Cond.value]), lw_limb limb_1_2 (fun args s t => Cond.after_iff.mpr (by
  first | (rw [show limb_1_2 = Cond.eq .result (.int 1) from rfl, Cond.eq_ints (x := 1) (y := 1) rfl rfl]; simp; done) | (simp [limb_1_2, Cond.value, Term.eval]; done)))⟩
