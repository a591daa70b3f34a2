/-! contracts of the JDK's own methods in classes of which some members are run by entries: no entry for these -/
theorem Met_ofF {l : Launch} {y : MethodName} {ws ws' : List Cond} {rm : Room} {Pc : Array Value → State → Prop} {Qc : Array Value → State → Outcome → State → Prop} {mc ms : Nat} {free : Addr → Prop} {cc : ByteArray} {maxL : Nat} {ret : Option FieldType}
    (hy : plainFor y = true) (hw : ws = Cond.code y cc maxL ret :: ws')
    (body : ∀ p e s m args below meth c s₁, BodyLoose p l y (headSpec ws rm) cc maxL ret e s m args below meth c s₁ → c.maxLocals = maxL → Pc args s →
      W p l e (headSpec ws rm).room s m args below meth c s.heap [] 0 0 (MQ below Qc args s mc ms free) (entryFrame m args maxL)) : Met l y ws rm Pc Qc mc ms free := by
  refine MetFree.of_bodySF (code := cc) (maxLocals := maxL) (ret := ret) hy ?_ ?_
  · intro args s m h hn
    obtain ⟨meth, c, h1, h2, h3, h4, h5, h6, -, -⟩ := Cond.code_spec hn (atoms_spec (ws := ws) h _ (by rw [hw]; exact List.mem_cons_self))
    exact ⟨meth, c, h1, h2, h3, h4, h5, h6⟩
  · intro p e s m args below meth c s₁ B hml hP _
    have hh0 : s₁.heap = s.heap := by rw [B.state]; rfl
    obtain ⟨t, a1, o, b1, b2, b3⟩ := body p e s m args below meth c s₁ B hml hP s₁ hh0 (Stand.of_body B)
    exact ⟨t, o, a1, b1, b2, ⟨b3.1, b3.2⟩⟩
theorem gC_ofF {Γ : gG} {M : gM} {av : List Value} {T : gTy} {r : gR} {l : gLg} {i : gI} {Q : gQ} (hpl : plainFor M.1 = true) (hlen : (lg_sl av).length ≤ M.2.2.1) {L : List (Nat × Value)} (hL : lv_args 0 av = L) (h : G Γ M 0 0 0 L [] T r l i Q) : gC Γ M av T r l i Q := by
  refine Met_ofF (cc := M.2.1) (maxL := M.2.2.1) (ret := M.2.2.2.1) hpl rfl ?_
  intro p e s m args below meth c s₁ B hml hv
  obtain ⟨rfl, hPW, hTT, hZZ⟩ := hv
  have hx := B.exec
  have hb := B.bytes
  have hr := B.returns
  have hts := atoms_spec (ws := gMw M) B.pre
  have hown : s.vm.findClass M.1.cls = some m.cls := findClass_of_methodNamed B.named
  have hlocks := B.notSynchronized
  have hl := lv_entry av (n := M.2.2.1) hlen
  rw [hL] at hl
  rw [lg_entry_eq]
  refine h p e s m _ below meth c s.heap [] _ _ ⟨hx, hb, hml, hown, fun w hw => hts w (List.mem_cons_of_mem _ hw), hTT, hZZ, fun hn => (name_of_methodNamed B.named B.method).1.trans hn⟩ hl hPW va_S.rf ?_
  intro v T r l i H locs k n pc ls hQ hk hn hP hS hR hd
  refine W.widen hk hn ?_
  match v, hR, hd, hQ with
  | none, hR, hd, hQ => exact W.vret hx hb (hr.trans hR) (fun t ht _ => ⟨⟨none, T, r, l, i, rfl, hQ, by rw [ht]; exact hP⟩, hS.F ht⟩) hS.2.2 hd
  | some (.int a), ⟨ty, h1, h2⟩, hd, hQ => exact W.zret hx hb (hr.trans h1) h2 (fun t ht _ => ⟨⟨some (.int a), T, r, l, i, rfl, hQ, by rw [ht]; exact hP⟩, hS.F ht⟩) hS.2.2 hd
  | some (.long a), hR, hd, hQ => exact W.lret hx hb (hr.trans hR) (fun t ht _ => ⟨⟨some (.long a), T, r, l, i, rfl, hQ, by rw [ht]; exact hP⟩, hS.F ht⟩) hS.2.2 hd
  | some (.ref a), ⟨rt, h1, h2⟩, hd, hQ => exact W.aret hx hb (hr.trans h1) h2 (Or.inr ⟨a, rfl⟩) (fun t ht _ => ⟨⟨some (.ref a), T, r, l, i, rfl, hQ, by rw [ht]; exact hP⟩, hS.F ht⟩) hS.2.2 hd
  | some .null, ⟨rt, h1, h2⟩, hd, hQ => exact W.aret hx hb (hr.trans h1) h2 (Or.inl rfl) (fun t ht _ => ⟨⟨some .null, T, r, l, i, rfl, hQ, by rw [ht]; exact hP⟩, hS.F ht⟩) hS.2.2 hd
