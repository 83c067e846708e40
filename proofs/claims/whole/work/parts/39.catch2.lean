/-! A call that throws, caught by the caller's own table (one row, or the second of two); a static call of a method that has a table. -/
theorem om_tab1 {c : Code} {a : Nat × Nat × Nat × Nat} (h : c.exceptionTable.toList.map (fun h => (h.startPc, h.endPc, h.handlerPc, h.catchType)) = [a]) : ∃ x, c.exceptionTable.toList = [x] ∧ (x.startPc, x.endPc, x.handlerPc, x.catchType) = a := by
  match hl : c.exceptionTable.toList, h with
  | [], h => simp at h
  | [x], h => exact ⟨x, rfl, by simpa using h⟩
  | _ :: _ :: _, h => simp at h
theorem om_tab2 {c : Code} {a b : Nat × Nat × Nat × Nat} (h : c.exceptionTable.toList.map (fun h => (h.startPc, h.endPc, h.handlerPc, h.catchType)) = [a, b]) : ∃ x y, c.exceptionTable.toList = [x, y] ∧ (x.startPc, x.endPc, x.handlerPc, x.catchType) = a ∧ (y.startPc, y.endPc, y.handlerPc, y.catchType) = b := by
  match hl : c.exceptionTable.toList, h with
  | [], h => simp at h
  | [_], h => simp at h
  | [x, y], h =>
    simp only [List.map_cons, List.map_nil, List.cons.injEq, and_true] at h
    exact ⟨x, y, rfl, h.1, h.2⟩
  | _ :: _ :: _ :: _, h => simp at h
section OmCatch
variable {p : Program} {l : Launch} {e : Env} {R : Room} {s : State} {m : MethodId} {args : Array Value} {below : List Frame} {meth : Method} {c : Code} {T : State} {locs : List Loc} {cells slots : Nat}
/-- caught by the row x, behind rows that are passed: none, or one that covers the place and names a class that the exception hasn't -/
theorem om_handle (X : Stand p l e R s m args below meth c T locs cells slots) {own E nm : String} {q : Addr} {ce : Cell} {g : JFrame} (hown : s.vm.findClass own = some m.cls) (hg : g.method = m) (hcell : T.heap[q]? = some ce) (hv : ce.vm = .none) (hcl : s.vm.findClass E = some ce.cls)
    {x : ExceptionTableEntry} {suf : List ExceptionTableEntry}
    (hpre : c.exceptionTable.toList = x :: suf ∨ ∃ (y : ExceptionTableEntry) (nm0 : String), c.exceptionTable.toList = y :: x :: suf ∧ covers y g.pc = true ∧ y.catchType ≠ 0 ∧ (Cond.classLink own y.catchType nm0).before args s = true ∧ va_Nc E nm0 s)
    (hx : covers x g.pc = true) (h0 : x.catchType ≠ 0) (hlink : (Cond.classLink own x.catchType nm).before args s = true) (hcast : (Cond.castable E nm).before args s = true) :
    ∃ vm', Stand p l e R s m args below meth c (T.setVm vm') locs cells slots ∧ ∀ target, Steps p.tables e below ((T.setVm vm').setTop { g with pc := x.handlerPc, stack := [.ref q] }) target → Steps p.tables e below ((T.setTop g).pushFrame (.throwing q)) target := by
  subst hg
  have hpl : e.platform.magicAccessors = ({} : Platform).magicAccessors := by rw [X.admits.platform]
  have hobj : ∀ k, ce.vm ≠ .statics k := fun k h => by rw [hv] at h; cases h
  obtain ⟨k0, hk0⟩ := Vm.classAt_of_findClass hcl
  obtain ⟨c3, c4, hc3, hc4, hasg⟩ := Cond.castable_spec hcast
  cases Option.some.inj (hc3.symm.trans hcl)
  obtain ⟨c5, hc5, hl5⟩ := Cond.classLink_spec hown hlink e.platform hpl
  cases Option.some.inj (hc4.symm.trans hc5)
  have hm : ((T.setTop g).pushFrame (.throwing q)).vm.method? g.method = some meth := X.method'
  obtain ⟨dk, _, _, _, hd, _, _, _, _, _, _, hopen⟩ := hl5.here
  rcases hpre with ht | ⟨y, nm0, ht, hy, hy0, hylink, hno⟩
  · obtain ⟨k0', hk0', -⟩ := X.warmed.alike.2.2 _ _ hk0
    have hW' := X.warmed.noted hd hopen (State.rightAt_cls hl5)
    refine ⟨_, X.noted hW', fun target h => om_caught X.here (pc := x.handlerPc) (fun Q E9 d acts => ?_) h⟩
    rw [W.findHandler_eq hm X.code, ht, om_go (s := (T.setTop g).pushFrame (.throwing q)) (c := c4) (cell := ce) hx h0 (X.warmed.classLinks hl5) hcell hobj ⟨k0', hk0'⟩, if_pos (by show T.vm.assignable ce.cls c4 = true; rw [X.warmed.alike.assignable]; exact hasg)]
    exact Iff.rfl
  · obtain ⟨c6, hc6, hl6⟩ := Cond.classLink_spec hown hylink e.platform hpl
    obtain ⟨a8, b8, n1, n2, n3⟩ := hno
    cases Option.some.inj (n1.symm.trans hcl)
    cases Option.some.inj (n2.symm.trans hc6)
    obtain ⟨dk6, _, _, _, hd6, _, _, _, _, _, _, hopen6⟩ := hl6.here
    have hW6 := X.warmed.noted hd6 hopen6 (State.rightAt_cls hl6)
    have hW' := hW6.noted hd hopen (State.rightAt_cls hl5)
    obtain ⟨k0', hk0', -⟩ := X.warmed.alike.2.2 _ _ hk0
    obtain ⟨k1', hk1', -⟩ := hW6.alike.2.2 _ _ hk0
    refine ⟨_, X.noted hW', fun target h => om_caught X.here (pc := x.handlerPc) (fun Q E9 d acts => ?_) h⟩
    rw [W.findHandler_eq hm X.code, ht, om_go (s := (T.setTop g).pushFrame (.throwing q)) (c := c6) (cell := ce) hy hy0 (X.warmed.classLinks hl6) hcell hobj ⟨k0', hk0'⟩, if_neg (by show ¬ T.vm.assignable ce.cls c6 = true; rw [X.warmed.alike.assignable, n3]; decide),
      om_go (s := ((T.setTop g).pushFrame (.throwing q)).setVm (((T.setTop g).pushFrame (.throwing q)).vm.noted g.method.cls y.catchType (.cls c6))) (c := c4) (cell := ce) hx h0 (hW6.classLinks hl5) hcell hobj ⟨k1', hk1'⟩, if_pos (by show (T.vm.noted g.method.cls y.catchType (.cls c6)).assignable ce.cls c4 = true; rw [hW6.alike.assignable]; exact hasg)]
    exact Iff.rfl
end OmCatch
section OmCatchW
variable {p : Program} {l : Launch} {e : Env} {R : Room} {s : State} {m : MethodId} {args : Array Value} {below : List Frame} {meth : Method} {c : Code} {H : Heap} {cells slots : Nat} {cc : ByteArray} {pc nL : Nat} {ls : Array Slot} {st0 rest : List Value} {Q : State → Prop}
  {own C : String} {index : Nat} {y : MethodName} {ws Ts : List Cond} {rm : Room} {Pc : Array Value → State → Prop} {E nm : String} {mc ms n : Nat} {free : Addr → Prop} {bytes : ByteArray} {maxL : Nat} {ret : Option FieldType}
theorem om_catchV (S : CallFix p m c cc nL s args Ts own) (hM : om_T l y ws rm Pc E om_K mc ms free) (cw : CallW R s args own C index y bytes maxL ret ws rm mc ms n) {b : Addr} {As : List Value} (hp : PreV s H C b Pc As)
    (hn : As.length = n) (hsize : ls.size = nL) (hstack : st0 = As.reverse ++ .ref b :: rest) (hW : 2 * (F0 m pc ls rest).monitorRoom + (rest.map fun v => v.category).sum ≤ 8) (hdg : decode cc pc = .ok (.invokevirtual index, 3)) (hf : cells + mc ≤ R.cells ∧ slots + ms ≤ R.slots)
    (hfree : ∀ q, free q → s.heap.size ≤ q) {x : ExceptionTableEntry} {suf : List ExceptionTableEntry}
    (hpre : c.exceptionTable.toList = x :: suf ∨ ∃ (y : ExceptionTableEntry) (nm0 : String), c.exceptionTable.toList = y :: x :: suf ∧ covers y pc = true ∧ y.catchType ≠ 0 ∧ (Cond.classLink own y.catchType nm0).before args s = true ∧ va_Nc E nm0 s)
    (hx : covers x pc = true) (h0 : x.catchType ≠ 0) (hlink : (Cond.classLink own x.catchType nm).before args s = true) (hcast : (Cond.castable E nm).before args s = true) {hpc : Nat} (hpc0 : x.handlerPc = hpc)
    (kk : ∀ (q : Nat) (H1 : Heap), om_H H H1 → W p l e R s m args below meth c H1 [] (cells + mc) (slots + ms) Q (F0 m hpc ls [.ref q])) : W p l e R s m args below meth c H [] cells slots Q (F0 m pc ls st0) := by
  obtain ⟨hx9, hb, hml, ho, -⟩ := S
  obtain ⟨hbl, ⟨cellB, hcB, hoB, hclB⟩, hPc⟩ := hp
  intro T hT X
  obtain ⟨q, ce, L, T', st, X', hce, hv, hcl, hL, hst, hxc, hsteps⟩ := om_callV X hx9 ho hM cw hbl (by rw [hT]; exact hcB) hoB hclB (g := F0 m pc ls st0) rfl (hsize.trans hml.symm) (argsL := As) (rest := rest) hn hstack hW (by rw [hb]; exact hdg) hf.1 hf.2 (fun vm₁ hW₁ => hPc (T.setVm vm₁) hT hW₁)
  have X9 : Stand p l e R s m args below meth c T' [] (cells + mc) (slots + ms) := Stand.forget (extra := L) X' (fun z hz => hfree _ (hL z hz))
  obtain ⟨vm', XV, hgo⟩ := om_handle X9 ho (g := F0 m pc ls rest) rfl hce hv hcl hpre hx h0 hlink hcast
  have hHH : om_H H T'.heap := by
    obtain ⟨a1, a2⟩ := hxc
    rw [hst, hT] at a1 a2
    exact ⟨a1, a2⟩
  obtain ⟨t, b1, b2⟩ := kk q T'.heap hHH (T'.setVm vm') rfl XV
  subst hpc0
  exact ⟨t, hsteps.trans (hgo t b1), b2⟩
/-- 'invokestatic' of a method that has a table -/
theorem om_runSW {Qc : Array Value → State → Outcome → State → Prop} {locs : List Loc} {g : JFrame} {hh : List (Nat × Nat × Nat × Nat)} {As : List Value} (S : CallFix p m c cc nL s args Ts own) (hM : Met l y ws rm Pc Qc mc ms free)
    (hrc : rm.cells = mc) (hrs : rm.slots = ms) (hfr : rm.frames + 1 ≤ R.frames) (hlo : 8 + (maxL + 11) + rm.locals ≤ R.locals) (hws : ∀ w ∈ ws, ∀ (a' : Array Value) (U : State), s.WarmedH U.vm → w.before a' U = true) (hcw : Cond.codeWith y bytes maxL ret hh ∈ ws)
    (hini : (Cond.initialized y.cls).before args s = true) (hstat : (Cond.static y).before args s = true) (hlk : (Cond.methodLink own index y).before args s = true)
    (hd : y.cls ≠ "java/lang/invoke/MethodHandle" ∧ y.cls ≠ "java/lang/invoke/VarHandle" ∧ (parseMethodDescriptor y.desc).map (fun d => d.parameters.length) = some n) (hp : PreS s H Pc As)
    (hg : g.method = m) (hn : As.length = n) (hsize : g.locals.size = nL) (hstack : g.stack = As.reverse ++ rest) (hW : 2 * g.monitorRoom + (rest.map fun v => v.category).sum ≤ 8) (hdg : decode cc g.pc = .ok (.invokestatic index, 3)) (hf : cells + mc ≤ R.cells ∧ slots + ms ≤ R.slots) :
    va_Run p l e R s m args below meth c H locs cells slots mc ms g rest (Qc As.toArray) free := by
  obtain ⟨hx, hb, hml, ho, -⟩ := S
  obtain ⟨hbl, hPc⟩ := hp
  intro T hT X
  have hcode : (Cond.codeWith y bytes maxL ret hh).before args s = true := hws _ hcw args s (State.WarmedH.refl s)
  obtain ⟨mk, methM, cM, hnamed, hmethM, -, -, -, -, -, -, hsigM⟩ := Cond.codeWith_spec hcode
  have hstatic : methM.isStatic = true := Cond.static_spec hnamed hmethM hstat
  obtain ⟨kP, hkP, -⟩ := className_of_methodNamed hnamed
  have hinitP : kP.init = .initialized := Cond.initialized_spec (findClass_of_methodNamed hnamed) hkP hini
  have hlen : As.length = methM.sig.parameters.length := by
    have h2 := hd.2.2
    rw [hsigM] at h2
    rw [hn]
    exact (Option.some.inj h2).symm
  have hK : Back l R p e below s args y 3 8 (PreOf R mc ms Pc) (PostOf Qc mc ms free) := va_backW hM hbl hrc hrs hfr hlo hws hcw (fun a' U hU => word_at hU (Or.inl (by first | rfl | simp [Cond.onTables, Cond.keeps, Cond.steady])) hini)
  obtain ⟨vm₁, X₁, hstep₁⟩ := X.invokestatic hx ho hlk hnamed hmethM hstatic hkP hinitP ⟨hd.1, hd.2.1⟩ (g := g) hg (argsL := As) (rest := rest) hlen hstack (by rw [hb]; exact hdg)
  obtain ⟨v, ⟨U', l2, c2, s2⟩, X', ⟨g', mk', t, L, e1, e2, hq, h1, hL, h2, h3⟩, hsteps⟩ := hK m meth c ⟨T.setVm vm₁, [] ++ locs, cells, slots⟩ { g with stack := rest } (.invokestatic index) mk As.toArray X₁ hg (hsize.trans hml.symm) (by rw [hb]; exact hdg) hW (X₁.named hnamed) ⟨hf.1, hf.2, hPc (T.setVm vm₁) hT X₁.warmed⟩
  dsimp only [Pt.U, Pt.locs, Pt.cells, Pt.slots] at X' e1 e2 h1 h2 h3 hsteps
  subst h1; subst h2; subst h3
  exact ⟨v, (T.setVm vm₁).calling g' mk' As.toArray, t, U', L, hT, X', hL, e1, e2, hq, fun target h => hstep₁ _ fun acts => by rw [doInvoke_state]; exact hsteps.trans h⟩
end OmCatchW
