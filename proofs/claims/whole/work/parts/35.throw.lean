/-! Exceptions: a method that ends by a throw; where its exception goes. -/
def om_E (k : Nat) : String := if k = 1 then "java/lang/IllegalArgumentException" else if k = 2 then "java/lang/IllegalStateException" else "java/lang/IndexOutOfBoundsException"
/-- a static that holds a reference or null; its cell lies outside A -/
def om_S (C n d : String) (A : Nat → Prop) (U : State) : Prop := ∃ (c i a : Nat) (k : Class) (f : Field) (cell : Cell) (v : Value), U.vm.findClass C = some c ∧ U.fieldFound? C n d = some (c, k, i, f) ∧ f.isStatic = true ∧ k.statics = some a ∧ U.heap[a]? = some cell ∧ cell.vm.isStatics = true ∧ cell.cls = c ∧ f.slot < cell.slots.size ∧ k.staticTypes[f.slot]? = some f.type ∧ cell.slots[f.slot]? = some v ∧ v.isRef = true ∧ ¬ A a
theorem om_S.lays {C n d : String} {A : Nat → Prop} {U : State} {args : Array Value} (h : om_S C n d A U) : (Cond.laysStatic C n d).before args U = true := by
  obtain ⟨c, i, a, k, f, cell, v, h1, h2, h3, h4, h5, h6, h7, h8, h9, -, -, -⟩ := h
  exact Cond.laysStatic_of h1 h2 h3 h4 h5 h6 h7 h8 h9
theorem om_S.isRef {C n d : String} {A : Nat → Prop} {U : State} {args : Array Value} (h : om_S C n d A U) : (Cond.isRef (.static C n d)).before args U = true := by
  obtain ⟨c, i, a, k, f, cell, v, h1, h2, h3, h4, h5, h6, h7, h8, h9, hv, hr, -⟩ := h
  have he : (Term.static C n d).eval args U none [] U = some v := Term.static_eval h2 h3 h4 h5 h6 hv
  simp only [Cond.before, Cond.holds, Cond.value, he]
  cases v <;> simp_all [Value.isRef]
theorem om_S.step {C n d : String} {A B : Nat → Prop} {s U : State} (h : om_S C n d A s) (hvm : s.vm.Alike U.vm) (hH : ∀ a : Nat, a < s.heap.size → ¬ A a → U.heap[a]? = s.heap[a]?) (hB : ∀ q, B q → A q) : om_S C n d B U := by
  obtain ⟨c, i, a, k, f, cell, v, h1, h2, h3, h4, h5, h6, h7, h8, h9, hv, hr, hA⟩ := h
  obtain ⟨k', hi', he⟩ := State.fieldFound?_setVm hvm h2
  exact ⟨c, i, a, k', f, cell, v, by rw [hvm.findClass]; exact h1, hi', h3, by rw [he]; exact h4, by rw [hH a (Array.getElem?_eq_some_iff.mp h5).1 hA]; exact h5, h6, h7, h8, by rw [he]; exact h9, hv, hr, fun q => hA (hB a q)⟩
theorem om_S.of {C n d : String} {A : Nat → Prop} {s : State} {args : Array Value} (hl : (Cond.laysStatic C n d).before args s = true) (hr : (Cond.isRef (.static C n d)).before args s = true) (hA : ∀ a : Nat, a < s.heap.size → ¬ A a) : om_S C n d A s := by
  obtain ⟨c, k, i, f, a, cell, h1, h2, h3, h4, h5, h6, h7, h8, h9⟩ := Cond.laysStatic_spec hl
  have hv : cell.slots[f.slot]? = some cell.slots[f.slot] := Array.getElem?_eq_getElem h8
  have he : (Term.static C n d).eval args s none [] s = some cell.slots[f.slot] := Term.static_eval h2 h3 h4 h5 h6 hv
  refine ⟨c, i, a, k, f, cell, _, h1, h2, h3, h4, h5, h6, h7, h8, h9, hv, ?_, hA a (Array.getElem?_eq_some_iff.mp h5).1⟩
  simp only [Cond.before, Cond.holds, Cond.value, he] at hr
  revert hr
  cases cell.slots[f.slot] <;> simp [Value.isRef]
def om_N : List Cond := [.castable "java/lang/IllegalArgumentException" "java/lang/IllegalArgumentException", .castable "java/lang/IllegalStateException" "java/lang/IllegalStateException", .castable "java/lang/IndexOutOfBoundsException" "java/lang/IndexOutOfBoundsException", .declares ⟨"java/lang/RuntimeException", "<init>", "(Ljava/lang/String;)V"⟩, .declares ⟨"java/lang/Exception", "<init>", "(Ljava/lang/String;)V"⟩, .declares ⟨"java/lang/Throwable", "<init>", "(Ljava/lang/String;)V"⟩]
theorem om_N_step {s U : State} (hW : s.WarmedH U.vm) (h : ∀ w ∈ om_N, va_Nw w s) : ∀ w ∈ om_N, va_Nw w U := by
  intro w hw
  have hs := h w hw
  simp only [om_N, List.mem_cons, List.not_mem_nil, or_false] at hw
  rcases hw with rfl | rfl | rfl | rfl | rfl | rfl
  · exact va_Nw.warmC hW hs
  · exact va_Nw.warmC hW hs
  · exact va_Nw.warmC hW hs
  · exact va_Nw.warmD hW hs
  · exact va_Nw.warmD hW hs
  · exact va_Nw.warmD hW hs
def om_strs : List (Nat × String) := [(174, "a value is out of bounds"), (183, "there are 400 items"), (112, "there are no items"), (185, "nothing was broken since the last change"), (180, "there is no such line, item or number of what is asked")]
def om_tab (nm : String) (f : Nat → Int32) (A : Nat → Prop) (U : State) : Prop := ∃ t : Nat, va_Z "OptimalLines" nm "[I" (.ref t) A U U.heap ∧ va_T .int t 8 (fun j => .int (f j)) A U U.heap
theorem om_tab.step {nm : String} {f : Nat → Int32} {A B : Nat → Prop} {s U : State} (h : om_tab nm f A s) (hvm : s.vm.Alike U.vm) (hH : ∀ a : Nat, a < s.heap.size → ¬ A a → U.heap[a]? = s.heap[a]?) (hB : ∀ q, B q → A q) : om_tab nm f B U := by
  obtain ⟨t, h1, h2⟩ := h
  exact ⟨t, va_Z.moved hvm ((h1.kept hH).narrow hB), va_T.moved hvm ((h2.kept hH).narrow hB)⟩
/-- what a throw needs of the state -/
def om_Z (A : Nat → Prop) (U : State) : Prop := (om_S Bundle.tN "UNASSIGNED_STACK" Bundle.steD A U ∧ om_S Bundle.tN "SUPPRESSED_SENTINEL" Bundle.listD A U) ∧ ((∀ w ∈ om_N, va_Nw w U) ∧ (∀ q ∈ om_strs, ∃ sa, vk_R "OptimalLines" q.1 q.2 sa U)) ∧ (om_tab "SETTING_LEAST" om_least A U ∧ om_tab "SETTING_MOST" om_most A U ∧ om_tab "SETTING_AT_FIRST" om_first A U)
theorem om_Z.go {A B : Nat → Prop} {s U : State} (hW : s.WarmedH U.vm) (h : om_Z A s) (hH : ∀ a : Nat, a < s.heap.size → ¬ A a → U.heap[a]? = s.heap[a]?) (hB : ∀ q, B q → A q) : om_Z B U :=
  ⟨⟨h.1.1.step hW.alike hH hB, h.1.2.step hW.alike hH hB⟩, ⟨om_N_step hW h.2.1.1, fun q hq => let ⟨sa, hs⟩ := h.2.1.2 q hq; ⟨sa, vk_R.warm hW hs⟩⟩, h.2.2.1.step hW.alike hH hB, h.2.2.2.1.step hW.alike hH hB, h.2.2.2.2.step hW.alike hH hB⟩
theorem om_Z.step {A B : Nat → Prop} {s U : State} {H : Heap} {locs : List Loc} (hW : s.WarmedH U.vm) (h : om_Z A s) (hS : va_S A s.heap H locs) (hU : U.heap = H) (hB : ∀ q, B q → A q) : om_Z B U :=
  om_Z.go hW h (fun a h1 h2 => by rw [hU]; exact hS.2.1 a h1 h2) hB
theorem om_Z.same {A : Nat → Prop} {U V : State} (hv : V.vm = U.vm) (hh : V.heap = U.heap) (h : om_Z A U) : om_Z A V :=
  om_Z.go (by rw [hv]; exact State.WarmedH.refl U) h (fun a _ _ => by rw [hh]) (fun _ q => q)
/-- further words of the tables that a throw needs -/
def om_X : List Cond := [Cond.superclass "OptimalLines$Items" "java/lang/Object", Cond.native ⟨"java/lang/Object", "clone", "()Ljava/lang/Object;"⟩, Cond.native ⟨"java/lang/System", "arraycopy", "(Ljava/lang/Object;ILjava/lang/Object;II)V"⟩, Cond.superclass "OptimalLines$Breaks" "java/lang/Object", Cond.superclass "OptimalLines$Ruler" "java/lang/Object", Cond.superclass "OptimalLines$Trail" "java/lang/Object", Cond.superclass "OptimalLines$Search" "java/lang/Object", Cond.superclass "OptimalLines$Layout" "java/lang/Object", Cond.superclass "OptimalLines" "java/lang/Object", Cond.superclass "java/lang/Throwable" "java/lang/Object", Cond.codeSync ⟨"java/lang/Throwable", "fillInStackTrace", "()Ljava/lang/Throwable;"⟩ prog_19_method_18_code 1 (some (.object "java/lang/Throwable")), Cond.native ⟨"java/lang/Throwable", "fillInStackTrace", "(I)Ljava/lang/Throwable;"⟩, Cond.superclass "java/lang/IllegalArgumentException" "java/lang/RuntimeException", Cond.superclass "java/lang/IllegalStateException" "java/lang/RuntimeException", Cond.superclass "java/lang/IndexOutOfBoundsException" "java/lang/RuntimeException", Cond.superclass "OptimalLinesModel" "java/lang/Object"]
theorem om_Xg : om_X.all goodWord = true := by decide +kernel
def om_V : List Cond := om_W ++ om_X
theorem om_Vg : om_V.all goodWord = true := om_ap om_good om_Xg
theorem om_WV {c : Cond} : ∀ w ∈ c :: om_W, w ∈ c :: om_V := fun w h => (List.mem_cons.mp h).elim (fun e => by rw [e]; exact List.mem_cons_self) (fun h => List.mem_cons_of_mem _ (List.mem_append_left _ h))
theorem om_gdV {c w : Cond} (h : w ∈ om_V) : w ∈ c :: om_V ∧ ((w.onTables && w.keeps) = true ∨ ∃ ty, w = .arrayClass ty) := ⟨List.mem_cons_of_mem _ h, good_of_word (List.all_eq_true.mp om_Vg w h)⟩
theorem om_giV {c1 c2 : Cond} (h5 : c2 ∈ om_W) : GoodIn (c1 :: om_V) (c2 :: om_V) := fun w h => (List.mem_cons.mp h).elim (fun q => by rw [q]; exact om_gdV (List.mem_append_left _ h5)) (fun q => om_gdV q)
/-- the atoms of 'throw new E(text)' -/
theorem om_atoms {own : String} {ic : Nat} {X : String} {names : List String} {c : Cond} {A : Nat → Prop} {s : State} {args : Array Value} (hts : ∀ w ∈ c :: om_V, w.before args s = true) (hZ : om_Z A s)
    (hd : (Bundle.ownAtoms own ic X names).all (fun w => decide (w ∈ om_V) || (decide (w ∈ om_N) || (decide (w = .isRef (.static Bundle.tN "UNASSIGNED_STACK" Bundle.steD)) || (decide (w = .isRef (.static Bundle.tN "SUPPRESSED_SENTINEL" Bundle.listD)) || (decide (w = .laysStatic Bundle.tN "UNASSIGNED_STACK" Bundle.steD) || decide (w = .laysStatic Bundle.tN "SUPPRESSED_SENTINEL" Bundle.listD)))))) = true) :
    ∀ w ∈ Bundle.ownAtoms own ic X names, w.before args s = true := by
  intro w hw
  have h := List.all_eq_true.mp hd w hw
  simp only [Bool.or_eq_true, decide_eq_true_eq] at h
  rcases h with h | h | h | h | h | h
  · exact hts w (List.mem_cons_of_mem _ h)
  · have hn := hZ.2.1.1 w h
    simp only [om_N, List.mem_cons, List.not_mem_nil, or_false] at h
    rcases h with rfl | rfl | rfl | rfl | rfl | rfl <;> exact va_Nw.use rfl hn
  · subst h; exact hZ.1.1.isRef
  · subst h; exact hZ.1.2.isRef
  · subst h; exact hZ.1.1.lays
  · subst h; exact hZ.1.2.lays
/-- how a method ends that throws: the exception q of the class E; what was written and made -/
def om_TQ (E : String) (XC : State → State → Prop) (mc ms : Nat) (free : Addr → Prop) (st : State) (o : Outcome) (t : State) : Prop :=
  ∃ (q : Addr) (ce : Cell) (L : List Loc), o = .threw q ∧ t.heap[q]? = some ce ∧ ce.vm = .none ∧ st.vm.findClass E = some ce.cls ∧ XC st t ∧ st.WarmedH t.vm ∧ st.sameButNew ({ t with vm := st.vm } : State) L mc ms ∧ ∀ z ∈ L, free z.base
def om_T (l : Launch) (y : MethodName) (ws : List Cond) (rm : Room) (Pc : Array Value → State → Prop) (E : String) (XC : State → State → Prop) (mc ms : Nat) (free : Addr → Prop) : Prop :=
  MetFree l y (headSpec ws rm) Pc (fun _ _ _ _ _ => True) (fun _ st o t => om_TQ E XC mc ms free st o t)
def om_TZ (below : List Frame) (E : String) (XC : State → State → Prop) (s : State) (mc ms : Nat) (free : Addr → Prop) : State → Prop := fun t => ∃ o, t.status = .running ∧ Ended t below o ∧ om_TQ E XC mc ms free s o t
theorem om_T.ofW {l : Launch} {y : MethodName} {ws ws' : List Cond} {rm : Room} {Pc : Array Value → State → Prop} {E : String} {XC : State → State → Prop} {mc ms : Nat} {free : Addr → Prop} {cc : ByteArray} {maxL : Nat} {ret : Option FieldType}
    (hy : plainName y.cls = true) (hw : ws = Cond.code y cc maxL ret :: ws')
    (body : ∀ p e s m args below meth c s₁, BodyLoose p l y (headSpec ws rm) cc maxL ret e s m args below meth c s₁ → c.maxLocals = maxL → (∀ x ∈ c.exceptionTable.toList, False) → Pc args s →
      W p l e (headSpec ws rm).room s m args below meth c s.heap [] 0 0 (om_TZ below E XC s mc ms free) (entryFrame m args maxL)) : om_T l y ws rm Pc E XC mc ms free := by
  refine MetFree.of_bodyS (code := cc) (maxLocals := maxL) (ret := ret) hy ?_ ?_
  · intro args s m h hn
    obtain ⟨meth, c, h1, h2, h3, h4, h5, h6, -, -⟩ := Cond.code_spec hn (atoms_spec (ws := ws) h _ (by rw [hw]; exact List.mem_cons_self))
    exact ⟨meth, c, h1, h2, h3, h4, h5, h6⟩
  · intro p e s m args below meth c s₁ B hml hP _
    have hh0 : s₁.heap = s.heap := by rw [B.state]; rfl
    have hem : c.exceptionTable.isEmpty = true := BodyLoose.noHandlers B (atoms_spec (ws := ws) B.pre _ (by rw [hw]; exact List.mem_cons_self))
    have hno : ∀ x ∈ c.exceptionTable.toList, False := by
      intro x hx
      have : c.exceptionTable.toList = [] := by
        have h0 : c.exceptionTable = #[] := by simpa using hem
        rw [h0]
      rw [this] at hx
      cases hx
    obtain ⟨t, a1, o, b1, b2, b3⟩ := body p e s m args below meth c s₁ B hml hno hP s₁ hh0 (Stand.of_body B)
    exact ⟨t, o, a1, b1, b2, b3⟩
