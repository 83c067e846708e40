set_option maxHeartbeats 4000000 in
set_option maxRecDepth 100000 in
theorem om_k_Ruler_init (l : Launch) (dC : Nat → ClassId) (dI : Nat → Nat → Nat) (a_ruler : Nat) (p_1 : Nat) (sz : Nat) : Met l yRuler_init wsRuler_init ({ frames := 1, cells := 0, slots := 0, locals := 12 }) (va_Pc [.ref a_ruler, .ref p_1] (fun U => U.heap.size = sz ∧ va_P (dC, dI) vwCl [(a_ruler, .inr (3, [.null, .int 0, .int 0, .int 0, .int 0, .int 0]))] U.heap ∧ va_K (dC, dI) vwCl [] U ∧ va_D (fun _ => True) [(a_ruler, .inr (3, [.null, .int 0, .int 0, .int 0, .int 0, .int 0]))])) (va_Qv (fun (_ : Unit) => True) (fun (_ : Unit) t => va_P (dC, dI) vwCl [(a_ruler, .inr (3, [.ref p_1, .int 0, .int 0, .int 0, .int 0, .int 0]))] t.heap ∧ va_K (dC, dI) vwCl [] t ∧ va_D (va_A [(a_ruler, .inr (3, [.null, .int 0, .int 0, .int 0, .int 0, .int 0]))] sz) [(a_ruler, .inr (3, [.ref p_1, .int 0, .int 0, .int 0, .int 0, .int 0]))]) (va_A [(a_ruler, .inr (3, [.null, .int 0, .int 0, .int 0, .int 0, .int 0]))] sz)) 0 0 (va_A [(a_ruler, .inr (3, [.null, .int 0, .int 0, .int 0, .int 0, .int 0]))] sz) := by
  refine Met.ofW (cc := cRuler_init) (maxL := 2) (ret := none) (by decide) rfl ?_
  intro p e s m args below meth c s₁ B hml hv
  obtain ⟨rfl, hsz, hP, hK, hD0⟩ := hv
  have hx := B.exec
  have hb := B.bytes
  have hr := B.returns
  have hts := atoms_spec (ws := wsRuler_init) B.pre
  have hown : s.vm.findClass RRuler = some m.cls := findClass_of_methodNamed B.named
  have hlocks := B.notSynchronized
  have hin : meth.name = "<init>" := (name_of_methodNamed B.named B.method).1
  subst hsz
  have hD := hD0.self (sz := s.heap.size)
  generalize hAe : va_A [(a_ruler, .inr (3, [.null, .int 0, .int 0, .int 0, .int 0, .int 0]))] s.heap.size = A at hD ⊢
  have hA : ∀ q : Nat, s.heap.size ≤ q → A q := fun q h => by rw [← hAe]; exact Or.inr h
  have hS : va_S A s.heap s.heap [] := va_S.rf
  have hP : va_P (dC, dI) vwCl [(a_ruler, .inr (3, [.null, .int 0, .int 0, .int 0, .int 0, .int 0]))] s.heap := hP
  have hl := lv_entry ([.ref a_ruler, .ref p_1]) (n := 2) (Nat.le_of_ble_eq_true rfl)
  rw [lg_entry_eq]
  generalize (lg_sl ([.ref a_ruler, .ref p_1]) ++ List.replicate (2 - (lg_sl ([.ref a_ruler, .ref p_1])).length) Slot.unset).toArray = ls at hl ⊢
  have hl : lv_has ls 2 [(0, .ref a_ruler), (1, .ref p_1)] := hl
  refine lv_aload_n hx hb dRuler_init_0 rfl (lv_at hl 0 rfl) ?_
  refine W.objInit hx hb hown (hts _ (om_m w_106)) (hts _ (om_m w_24)) (hts _ (om_m w_25)) rfl (by rw [hml]; exact hl.1) rfl dRuler_init_1 (Nat.le_of_ble_eq_true rfl) (Nat.le_of_ble_eq_true rfl) ?_
  refine W.eq (g2 := F0 m 4 ls []) rfl ?_
  refine lv_aload_n hx hb dRuler_init_4 rfl (lv_at hl 0 rfl) ?_
  refine lv_aload_n hx hb dRuler_init_5 rfl (lv_at hl 1 rfl) ?_
  refine va_putF (D := (dC, dI)) (ci := 3) (v := .ref p_1) (ty := .object "OptimalLines$Items") (C := RRuler) (T := TRuler) (N := 6) hx hb hts (fun w h => om_m (inRuler w h)) tyRuler tyRuler_ok nmRuler hown hK hP hD hS 0 rfl rfl 0 (by decide) (hts _ (om_m w_107)) (fun _ h9 => h9) rfl hin rfl (by decide +kernel) rfl rfl (Nat.le_of_ble_eq_true rfl) dRuler_init_6 (fun H locs hP hD hS => ?_)
  have hP : va_P (dC, dI) vwCl [(a_ruler, .inr (3, [.ref p_1, .int 0, .int 0, .int 0, .int 0, .int 0]))] H := hP
  have hD : va_D A [(a_ruler, .inr (3, [.ref p_1, .int 0, .int 0, .int 0, .int 0, .int 0]))] := hD
  have hP9 := hP.sub (ws' := [(a_ruler, .inr (3, [.ref p_1, .int 0, .int 0, .int 0, .int 0, .int 0]))]) [0] rfl
  have hD9 := hD.sub (ws' := [(a_ruler, .inr (3, [.ref p_1, .int 0, .int 0, .int 0, .int 0, .int 0]))]) [0] (by decide) rfl
  have hK9 := hK.sub (tys' := []) [] rfl
  exact W.vret hx hb hr (fun t ht hW => ⟨⟨(), rfl, trivial, by rw [ht]; exact hP9, va_K.moved hW.alike hK9, hD9⟩, hS.F ht⟩) hS.2.2 dRuler_init_9
def om_f_Ruler_measure (items_count : Int32) (items_penaltyWidths : (Nat → Int32)) (items_widthBefore : (Nat → Int32)) (items_stretchBefore : (Nat → Int32)) (items_shrinkBefore : (Nat → Int32)) (items_fillBefore : (Nat → Int32)) (x1 : Int32) (x2 : Int32) (x3 : Int32) : Option (Int32 × Int32 × Int32 × Int32 × Int32) := if om_in x2 401 = true then if om_in x1 401 = true then (om_f_Items_breakWidth items_count items_penaltyWidths x2).bind fun u1 => if om_in x2 401 = true then if om_in x1 401 = true then if om_in x2 401 = true then if om_in x1 401 = true then if om_in x2 401 = true then if om_in x1 401 = true then some (x1, (items_stretchBefore x2.toNatClampNeg) - (items_stretchBefore x1.toNatClampNeg), (items_shrinkBefore x2.toNatClampNeg) - (items_shrinkBefore x1.toNatClampNeg), (items_fillBefore x2.toNatClampNeg) - (items_fillBefore x1.toNatClampNeg), (x3 - ((items_widthBefore x2.toNatClampNeg) - (items_widthBefore x1.toNatClampNeg))) - u1) else none else none else none else none else none else none else none else none
set_option maxHeartbeats 4000000 in
set_option maxRecDepth 100000 in
theorem om_k_Ruler_measure (l : Launch) (dC : Nat → ClassId) (dI : Nat → Nat → Nat) (a_items : Nat) (a_items_penaltyWidths : Nat) (a_items_widthBefore : Nat) (a_items_stretchBefore : Nat) (a_items_shrinkBefore : Nat) (a_items_fillBefore : Nat) (a_ruler : Nat) (a_items_kinds : Nat) (a_items_costs : Nat) (a_items_flags : Nat) (c_items_penaltyWidths : ClassId) (c_items_widthBefore : ClassId) (c_items_stretchBefore : ClassId) (c_items_shrinkBefore : ClassId) (c_items_fillBefore : ClassId)  (sz : Nat) (items_count : Int32) (items_penaltyWidths : (Nat → Int32)) (items_widthBefore : (Nat → Int32)) (items_stretchBefore : (Nat → Int32)) (items_shrinkBefore : (Nat → Int32)) (items_fillBefore : (Nat → Int32)) (ruler_start : Int32) (ruler_stretch : Int32) (ruler_shrink : Int32) (ruler_fill : Int32) (ruler_excess : Int32) (x1 : Int32) (x2 : Int32) (x3 : Int32) (o : (Int32 × Int32 × Int32 × Int32 × Int32)) (h : om_f_Ruler_measure items_count items_penaltyWidths items_widthBefore items_stretchBefore items_shrinkBefore items_fillBefore x1 x2 x3 = some o) : Met l yRuler_measure wsRuler_measure ({ frames := 1, cells := 0, slots := 0, locals := 21 }) (va_Pc [.ref a_ruler, .int x1, .int x2, .int x3] (fun U => U.heap.size = sz ∧ va_P (dC, dI) vwCl [(a_items, .inr (1, [.int items_count, .ref a_items_kinds, .ref a_items_penaltyWidths, .ref a_items_costs, .ref a_items_flags, .ref a_items_widthBefore, .ref a_items_stretchBefore, .ref a_items_shrinkBefore, .ref a_items_fillBefore])), (a_items_penaltyWidths, .inl (c_items_penaltyWidths, 400, .inl items_penaltyWidths)), (a_items_widthBefore, .inl (c_items_widthBefore, 401, .inl items_widthBefore)), (a_items_stretchBefore, .inl (c_items_stretchBefore, 401, .inl items_stretchBefore)), (a_items_shrinkBefore, .inl (c_items_shrinkBefore, 401, .inl items_shrinkBefore)), (a_items_fillBefore, .inl (c_items_fillBefore, 401, .inl items_fillBefore)), (a_ruler, .inr (3, [.ref a_items, .int ruler_start, .int ruler_stretch, .int ruler_shrink, .int ruler_fill, .int ruler_excess]))] U.heap ∧ va_K (dC, dI) vwCl [(c_items_penaltyWidths, .int), (c_items_widthBefore, .int), (c_items_stretchBefore, .int), (c_items_shrinkBefore, .int), (c_items_fillBefore, .int)] U ∧ va_D (fun _ => True) [(a_items, .inr (1, [.int items_count, .ref a_items_kinds, .ref a_items_penaltyWidths, .ref a_items_costs, .ref a_items_flags, .ref a_items_widthBefore, .ref a_items_stretchBefore, .ref a_items_shrinkBefore, .ref a_items_fillBefore])), (a_items_penaltyWidths, .inl (c_items_penaltyWidths, 400, .inl items_penaltyWidths)), (a_items_widthBefore, .inl (c_items_widthBefore, 401, .inl items_widthBefore)), (a_items_stretchBefore, .inl (c_items_stretchBefore, 401, .inl items_stretchBefore)), (a_items_shrinkBefore, .inl (c_items_shrinkBefore, 401, .inl items_shrinkBefore)), (a_items_fillBefore, .inl (c_items_fillBefore, 401, .inl items_fillBefore)), (a_ruler, .inr (3, [.ref a_items, .int ruler_start, .int ruler_stretch, .int ruler_shrink, .int ruler_fill, .int ruler_excess]))])) (va_Qv (fun (_ : Unit) => True) (fun (_ : Unit) t => va_P (dC, dI) vwCl [(a_items, .inr (1, [.int items_count, .ref a_items_kinds, .ref a_items_penaltyWidths, .ref a_items_costs, .ref a_items_flags, .ref a_items_widthBefore, .ref a_items_stretchBefore, .ref a_items_shrinkBefore, .ref a_items_fillBefore])), (a_items_penaltyWidths, .inl (c_items_penaltyWidths, 400, .inl items_penaltyWidths)), (a_items_widthBefore, .inl (c_items_widthBefore, 401, .inl items_widthBefore)), (a_items_stretchBefore, .inl (c_items_stretchBefore, 401, .inl items_stretchBefore)), (a_items_shrinkBefore, .inl (c_items_shrinkBefore, 401, .inl items_shrinkBefore)), (a_items_fillBefore, .inl (c_items_fillBefore, 401, .inl items_fillBefore)), (a_ruler, .inr (3, [.ref a_items, .int o.1, .int o.2.1, .int o.2.2.1, .int o.2.2.2.1, .int o.2.2.2.2]))] t.heap ∧ va_K (dC, dI) vwCl [(c_items_penaltyWidths, .int), (c_items_widthBefore, .int), (c_items_stretchBefore, .int), (c_items_shrinkBefore, .int), (c_items_fillBefore, .int)] t ∧ va_D (va_A [(a_items, .inr (1, [.int items_count, .ref a_items_kinds, .ref a_items_penaltyWidths, .ref a_items_costs, .ref a_items_flags, .ref a_items_widthBefore, .ref a_items_stretchBefore, .ref a_items_shrinkBefore, .ref a_items_fillBefore])), (a_items_penaltyWidths, .inl (c_items_penaltyWidths, 400, .inl items_penaltyWidths)), (a_items_widthBefore, .inl (c_items_widthBefore, 401, .inl items_widthBefore)), (a_items_stretchBefore, .inl (c_items_stretchBefore, 401, .inl items_stretchBefore)), (a_items_shrinkBefore, .inl (c_items_shrinkBefore, 401, .inl items_shrinkBefore)), (a_items_fillBefore, .inl (c_items_fillBefore, 401, .inl items_fillBefore)), (a_ruler, .inr (3, [.ref a_items, .int ruler_start, .int ruler_stretch, .int ruler_shrink, .int ruler_fill, .int ruler_excess]))] sz) [(a_items, .inr (1, [.int items_count, .ref a_items_kinds, .ref a_items_penaltyWidths, .ref a_items_costs, .ref a_items_flags, .ref a_items_widthBefore, .ref a_items_stretchBefore, .ref a_items_shrinkBefore, .ref a_items_fillBefore])), (a_items_penaltyWidths, .inl (c_items_penaltyWidths, 400, .inl items_penaltyWidths)), (a_items_widthBefore, .inl (c_items_widthBefore, 401, .inl items_widthBefore)), (a_items_stretchBefore, .inl (c_items_stretchBefore, 401, .inl items_stretchBefore)), (a_items_shrinkBefore, .inl (c_items_shrinkBefore, 401, .inl items_shrinkBefore)), (a_items_fillBefore, .inl (c_items_fillBefore, 401, .inl items_fillBefore)), (a_ruler, .inr (3, [.ref a_items, .int o.1, .int o.2.1, .int o.2.2.1, .int o.2.2.2.1, .int o.2.2.2.2]))]) (va_A [(a_items, .inr (1, [.int items_count, .ref a_items_kinds, .ref a_items_penaltyWidths, .ref a_items_costs, .ref a_items_flags, .ref a_items_widthBefore, .ref a_items_stretchBefore, .ref a_items_shrinkBefore, .ref a_items_fillBefore])), (a_items_penaltyWidths, .inl (c_items_penaltyWidths, 400, .inl items_penaltyWidths)), (a_items_widthBefore, .inl (c_items_widthBefore, 401, .inl items_widthBefore)), (a_items_stretchBefore, .inl (c_items_stretchBefore, 401, .inl items_stretchBefore)), (a_items_shrinkBefore, .inl (c_items_shrinkBefore, 401, .inl items_shrinkBefore)), (a_items_fillBefore, .inl (c_items_fillBefore, 401, .inl items_fillBefore)), (a_ruler, .inr (3, [.ref a_items, .int ruler_start, .int ruler_stretch, .int ruler_shrink, .int ruler_fill, .int ruler_excess]))] sz)) 0 0 (va_A [(a_items, .inr (1, [.int items_count, .ref a_items_kinds, .ref a_items_penaltyWidths, .ref a_items_costs, .ref a_items_flags, .ref a_items_widthBefore, .ref a_items_stretchBefore, .ref a_items_shrinkBefore, .ref a_items_fillBefore])), (a_items_penaltyWidths, .inl (c_items_penaltyWidths, 400, .inl items_penaltyWidths)), (a_items_widthBefore, .inl (c_items_widthBefore, 401, .inl items_widthBefore)), (a_items_stretchBefore, .inl (c_items_stretchBefore, 401, .inl items_stretchBefore)), (a_items_shrinkBefore, .inl (c_items_shrinkBefore, 401, .inl items_shrinkBefore)), (a_items_fillBefore, .inl (c_items_fillBefore, 401, .inl items_fillBefore)), (a_ruler, .inr (3, [.ref a_items, .int ruler_start, .int ruler_stretch, .int ruler_shrink, .int ruler_fill, .int ruler_excess]))] sz) := by
  refine Met.ofW (cc := cRuler_measure) (maxL := 4) (ret := none) (by decide) rfl ?_
  intro p e s m args below meth c s₁ B hml hv
  obtain ⟨rfl, hsz, hP, hK, hD0⟩ := hv
  have hx := B.exec
  have hb := B.bytes
  have hr := B.returns
  have hts := atoms_spec (ws := wsRuler_measure) B.pre
  have hown : s.vm.findClass RRuler = some m.cls := findClass_of_methodNamed B.named
  have hlocks := B.notSynchronized
  subst hsz
  have hD := hD0.self (sz := s.heap.size)
  generalize hAe : va_A [(a_items, .inr (1, [.int items_count, .ref a_items_kinds, .ref a_items_penaltyWidths, .ref a_items_costs, .ref a_items_flags, .ref a_items_widthBefore, .ref a_items_stretchBefore, .ref a_items_shrinkBefore, .ref a_items_fillBefore])), (a_items_penaltyWidths, .inl (c_items_penaltyWidths, 400, .inl items_penaltyWidths)), (a_items_widthBefore, .inl (c_items_widthBefore, 401, .inl items_widthBefore)), (a_items_stretchBefore, .inl (c_items_stretchBefore, 401, .inl items_stretchBefore)), (a_items_shrinkBefore, .inl (c_items_shrinkBefore, 401, .inl items_shrinkBefore)), (a_items_fillBefore, .inl (c_items_fillBefore, 401, .inl items_fillBefore)), (a_ruler, .inr (3, [.ref a_items, .int ruler_start, .int ruler_stretch, .int ruler_shrink, .int ruler_fill, .int ruler_excess]))] s.heap.size = A at hD ⊢
  have hA : ∀ q : Nat, s.heap.size ≤ q → A q := fun q h => by rw [← hAe]; exact Or.inr h
  have hS : va_S A s.heap s.heap [] := va_S.rf
  have hP : va_P (dC, dI) vwCl [(a_items, .inr (1, [.int items_count, .ref a_items_kinds, .ref a_items_penaltyWidths, .ref a_items_costs, .ref a_items_flags, .ref a_items_widthBefore, .ref a_items_stretchBefore, .ref a_items_shrinkBefore, .ref a_items_fillBefore])), (a_items_penaltyWidths, .inl (c_items_penaltyWidths, 400, .inl items_penaltyWidths)), (a_items_widthBefore, .inl (c_items_widthBefore, 401, .inl items_widthBefore)), (a_items_stretchBefore, .inl (c_items_stretchBefore, 401, .inl items_stretchBefore)), (a_items_shrinkBefore, .inl (c_items_shrinkBefore, 401, .inl items_shrinkBefore)), (a_items_fillBefore, .inl (c_items_fillBefore, 401, .inl items_fillBefore)), (a_ruler, .inr (3, [.ref a_items, .int ruler_start, .int ruler_stretch, .int ruler_shrink, .int ruler_fill, .int ruler_excess]))] s.heap := hP
  have hl := lv_entry ([.ref a_ruler, .int x1, .int x2, .int x3]) (n := 4) (Nat.le_of_ble_eq_true rfl)
  rw [lg_entry_eq]
  generalize (lg_sl ([.ref a_ruler, .int x1, .int x2, .int x3]) ++ List.replicate (4 - (lg_sl ([.ref a_ruler, .int x1, .int x2, .int x3])).length) Slot.unset).toArray = ls at hl ⊢
  have hl : lv_has ls 4 [(0, .ref a_ruler), (1, .int x1), (2, .int x2), (3, .int x3)] := hl
  unfold om_f_Ruler_measure at h
  refine lv_aload_n hx hb dRuler_measure_0 rfl (lv_at hl 0 rfl) ?_
  refine lv_iload_n hx hb dRuler_measure_1 rfl (lv_at hl 1 rfl) ?_
  refine va_put (D := (dC, dI)) (ci := 3) (v := .int x1) (ty := .int) (C := RRuler) (T := TRuler) (N := 6) hx hb hts (fun w h => om_m (inRuler w h)) tyRuler tyRuler_ok nmRuler hown hK hP hD hS 6 rfl rfl 1 (by decide) (hts _ (om_m w_108)) (fun _ h9 => h9) rfl (by decide +kernel) rfl rfl (Nat.le_of_ble_eq_true rfl) dRuler_measure_2 (fun H locs hP hD hS => ?_)
  have hP : va_P (dC, dI) vwCl [(a_items, .inr (1, [.int items_count, .ref a_items_kinds, .ref a_items_penaltyWidths, .ref a_items_costs, .ref a_items_flags, .ref a_items_widthBefore, .ref a_items_stretchBefore, .ref a_items_shrinkBefore, .ref a_items_fillBefore])), (a_items_penaltyWidths, .inl (c_items_penaltyWidths, 400, .inl items_penaltyWidths)), (a_items_widthBefore, .inl (c_items_widthBefore, 401, .inl items_widthBefore)), (a_items_stretchBefore, .inl (c_items_stretchBefore, 401, .inl items_stretchBefore)), (a_items_shrinkBefore, .inl (c_items_shrinkBefore, 401, .inl items_shrinkBefore)), (a_items_fillBefore, .inl (c_items_fillBefore, 401, .inl items_fillBefore)), (a_ruler, .inr (3, [.ref a_items, .int x1, .int ruler_stretch, .int ruler_shrink, .int ruler_fill, .int ruler_excess]))] H := hP
  have hD : va_D A [(a_items, .inr (1, [.int items_count, .ref a_items_kinds, .ref a_items_penaltyWidths, .ref a_items_costs, .ref a_items_flags, .ref a_items_widthBefore, .ref a_items_stretchBefore, .ref a_items_shrinkBefore, .ref a_items_fillBefore])), (a_items_penaltyWidths, .inl (c_items_penaltyWidths, 400, .inl items_penaltyWidths)), (a_items_widthBefore, .inl (c_items_widthBefore, 401, .inl items_widthBefore)), (a_items_stretchBefore, .inl (c_items_stretchBefore, 401, .inl items_stretchBefore)), (a_items_shrinkBefore, .inl (c_items_shrinkBefore, 401, .inl items_shrinkBefore)), (a_items_fillBefore, .inl (c_items_fillBefore, 401, .inl items_fillBefore)), (a_ruler, .inr (3, [.ref a_items, .int x1, .int ruler_stretch, .int ruler_shrink, .int ruler_fill, .int ruler_excess]))] := hD
  refine lv_aload_n hx hb dRuler_measure_5 rfl (lv_at hl 0 rfl) ?_
  refine lv_iload_n hx hb dRuler_measure_6 rfl (lv_at hl 3 rfl) ?_
  refine lv_aload_n hx hb dRuler_measure_7 rfl (lv_at hl 0 rfl) ?_
  refine va_get (D := (dC, dI)) (ci := 3) (v := .ref a_items) (C := RRuler) (T := TRuler) (N := 6) hx hb hts (fun w h => om_m (inRuler w h)) hown hK hP 6 rfl rfl 0 (by decide) (hts _ (om_m w_107)) (fun _ h9 => h9) rfl dRuler_measure_8 ?_
  refine va_get (D := (dC, dI)) (ci := 1) (v := .ref a_items_widthBefore) (C := RItems) (T := TItems) (N := 9) hx hb hts (fun w h => om_m (inItems w h)) hown hK hP 0 rfl rfl 5 (by decide) (hts _ (om_m w_40)) (fun _ h9 => h9) rfl dRuler_measure_11 ?_
  refine lv_iload_n hx hb dRuler_measure_14 rfl (lv_at hl 2 rfl) ?_
  obtain ⟨hi, h⟩ := om_g h
  refine va_iald (D := (dC, dI)) hx hb hK hP 2 1 rfl rfl (om_ok hi) dRuler_measure_15 ?_
  refine lv_aload_n hx hb dRuler_measure_16 rfl (lv_at hl 0 rfl) ?_
  refine va_get (D := (dC, dI)) (ci := 3) (v := .ref a_items) (C := RRuler) (T := TRuler) (N := 6) hx hb hts (fun w h => om_m (inRuler w h)) hown hK hP 6 rfl rfl 0 (by decide) (hts _ (om_m w_107)) (fun _ h9 => h9) rfl dRuler_measure_17 ?_
  refine va_get (D := (dC, dI)) (ci := 1) (v := .ref a_items_widthBefore) (C := RItems) (T := TItems) (N := 9) hx hb hts (fun w h => om_m (inItems w h)) hown hK hP 0 rfl rfl 5 (by decide) (hts _ (om_m w_40)) (fun _ h9 => h9) rfl dRuler_measure_20 ?_
  refine lv_iload_n hx hb dRuler_measure_23 rfl (lv_at hl 1 rfl) ?_
  obtain ⟨hi, h⟩ := om_g h
  refine va_iald (D := (dC, dI)) hx hb hK hP 2 1 rfl rfl (om_ok hi) dRuler_measure_24 ?_
  refine lv_isub hx hb dRuler_measure_25 ?_
  refine lv_isub hx hb dRuler_measure_26 ?_
  refine lv_aload_n hx hb dRuler_measure_27 rfl (lv_at hl 0 rfl) ?_
  refine va_get (D := (dC, dI)) (ci := 3) (v := .ref a_items) (C := RRuler) (T := TRuler) (N := 6) hx hb hts (fun w h => om_m (inRuler w h)) hown hK hP 6 rfl rfl 0 (by decide) (hts _ (om_m w_107)) (fun _ h9 => h9) rfl dRuler_measure_28 ?_
  refine lv_iload_n hx hb dRuler_measure_31 rfl (lv_at hl 2 rfl) ?_
  obtain ⟨u1, hu1, h⟩ := om_b h
  have hPc := hP.sub (ws' := [(a_items, .inr (1, [.int items_count, .ref a_items_kinds, .ref a_items_penaltyWidths, .ref a_items_costs, .ref a_items_flags, .ref a_items_widthBefore, .ref a_items_stretchBefore, .ref a_items_shrinkBefore, .ref a_items_fillBefore])), (a_items_penaltyWidths, .inl (c_items_penaltyWidths, 400, .inl items_penaltyWidths))]) [0, 1] rfl
  have hDc := hD.sub (ws' := [(a_items, .inr (1, [.int items_count, .ref a_items_kinds, .ref a_items_penaltyWidths, .ref a_items_costs, .ref a_items_flags, .ref a_items_widthBefore, .ref a_items_stretchBefore, .ref a_items_shrinkBefore, .ref a_items_fillBefore])), (a_items_penaltyWidths, .inl (c_items_penaltyWidths, 400, .inl items_penaltyWidths))]) [0, 1] (by decide) rfl
  have hKc := hK.sub (tys' := [(c_items_penaltyWidths, .int)]) [0] rfl
  have hFc := va_free (wc := [(a_items, .inr (1, [.int items_count, .ref a_items_kinds, .ref a_items_penaltyWidths, .ref a_items_costs, .ref a_items_flags, .ref a_items_widthBefore, .ref a_items_stretchBefore, .ref a_items_shrinkBefore, .ref a_items_fillBefore])), (a_items_penaltyWidths, .inl (c_items_penaltyWidths, 400, .inl items_penaltyWidths))]) hD hS hA [0, 1] rfl
  refine va_calli (va_runV (As := [.int x2]) (rest := [.int (x3 - ((items_widthBefore x2.toNatClampNeg) - (items_widthBefore x1.toNatClampNeg))), .ref a_ruler]) ⟨hx, hb, hml, hown, hts⟩ (om_k_Items_breakWidth l dC dI a_items a_items_penaltyWidths a_items_kinds a_items_costs a_items_flags a_items_widthBefore a_items_stretchBefore a_items_shrinkBefore a_items_fillBefore c_items_penaltyWidths H.size items_count items_penaltyWidths x2 u1 hu1) (cwV 1 hts (om_gv w_407 w_360 w_361 w_2 w_362) rfl rfl rfl (by decide +kernel) ⟨Nat.le_of_ble_eq_true rfl, Nat.le_of_ble_eq_true rfl⟩) ⟨fun a U g mk q => by obtain ⟨q0, q1, qP, qK, qD⟩ := q; exact ⟨q0, q1, qP, va_K.moved (u := U) (U := U.calling g mk a) (Vm.Alike.refl U.vm) qK, qD⟩, va_recv hKc hPc (ci := 1) (q0 := 0) rfl rfl, fun U hU hW => ⟨rfl, by rw [hU], by rw [hU]; exact hPc, va_K.moved hW.alike hKc, hDc.weaken (fun _ _ _ _ => trivial)⟩⟩ rfl rfl hl.1 rfl (lv_room (Nat.le_of_ble_eq_true rfl)) dRuler_measure_32 ⟨Nat.le_of_ble_eq_true rfl, Nat.le_of_ble_eq_true rfl⟩) hS (fun q _ h => hFc q h) hFc (fun r9 uz t H1 locs ht hvm hw hB hz1 hk1 hS => ?_)
  replace hw := hw.symm
  subst hw
  obtain ⟨hP1, hK1, hD1⟩ := hB
  rw [ht] at hP1
  obtain ⟨hP, hD⟩ := va_join (wr := [(a_items_widthBefore, .inl (c_items_widthBefore, 401, .inl items_widthBefore)), (a_items_stretchBefore, .inl (c_items_stretchBefore, 401, .inl items_stretchBefore)), (a_items_shrinkBefore, .inl (c_items_shrinkBefore, 401, .inl items_shrinkBefore)), (a_items_fillBefore, .inl (c_items_fillBefore, 401, .inl items_fillBefore)), (a_ruler, .inr (3, [.ref a_items, .int x1, .int ruler_stretch, .int ruler_shrink, .int ruler_fill, .int ruler_excess]))]) (w1 := [(a_items, .inr (1, [.int items_count, .ref a_items_kinds, .ref a_items_penaltyWidths, .ref a_items_costs, .ref a_items_flags, .ref a_items_widthBefore, .ref a_items_stretchBefore, .ref a_items_shrinkBefore, .ref a_items_fillBefore])), (a_items_penaltyWidths, .inl (c_items_penaltyWidths, 400, .inl items_penaltyWidths))]) hP hD [0, 1] [2, 3, 4, 5, 6] rfl rfl (by decide) (by decide) hk1 hFc hP1 hD1
  generalize H1 = H at hP hS ⊢
  have hP : va_P (dC, dI) vwCl [(a_items_widthBefore, .inl (c_items_widthBefore, 401, .inl items_widthBefore)), (a_items_stretchBefore, .inl (c_items_stretchBefore, 401, .inl items_stretchBefore)), (a_items_shrinkBefore, .inl (c_items_shrinkBefore, 401, .inl items_shrinkBefore)), (a_items_fillBefore, .inl (c_items_fillBefore, 401, .inl items_fillBefore)), (a_ruler, .inr (3, [.ref a_items, .int x1, .int ruler_stretch, .int ruler_shrink, .int ruler_fill, .int ruler_excess])), (a_items, .inr (1, [.int items_count, .ref a_items_kinds, .ref a_items_penaltyWidths, .ref a_items_costs, .ref a_items_flags, .ref a_items_widthBefore, .ref a_items_stretchBefore, .ref a_items_shrinkBefore, .ref a_items_fillBefore])), (a_items_penaltyWidths, .inl (c_items_penaltyWidths, 400, .inl items_penaltyWidths))] H := hP
  have hD : va_D A [(a_items_widthBefore, .inl (c_items_widthBefore, 401, .inl items_widthBefore)), (a_items_stretchBefore, .inl (c_items_stretchBefore, 401, .inl items_stretchBefore)), (a_items_shrinkBefore, .inl (c_items_shrinkBefore, 401, .inl items_shrinkBefore)), (a_items_fillBefore, .inl (c_items_fillBefore, 401, .inl items_fillBefore)), (a_ruler, .inr (3, [.ref a_items, .int x1, .int ruler_stretch, .int ruler_shrink, .int ruler_fill, .int ruler_excess])), (a_items, .inr (1, [.int items_count, .ref a_items_kinds, .ref a_items_penaltyWidths, .ref a_items_costs, .ref a_items_flags, .ref a_items_widthBefore, .ref a_items_stretchBefore, .ref a_items_shrinkBefore, .ref a_items_fillBefore])), (a_items_penaltyWidths, .inl (c_items_penaltyWidths, 400, .inl items_penaltyWidths))] := hD
  refine W.widen (k := 0) (n := 0) (Nat.le_of_ble_eq_true rfl) (Nat.le_of_ble_eq_true rfl) ?_
  refine lv_isub hx hb dRuler_measure_35 ?_
  refine va_put (D := (dC, dI)) (ci := 3) (v := .int ((x3 - ((items_widthBefore x2.toNatClampNeg) - (items_widthBefore x1.toNatClampNeg))) - u1)) (ty := .int) (C := RRuler) (T := TRuler) (N := 6) hx hb hts (fun w h => om_m (inRuler w h)) tyRuler tyRuler_ok nmRuler hown hK hP hD hS 4 rfl rfl 5 (by decide) (hts _ (om_m w_112)) (fun _ h9 => h9) rfl (by decide +kernel) rfl rfl (Nat.le_of_ble_eq_true rfl) dRuler_measure_36 (fun H locs hP hD hS => ?_)
  have hP : va_P (dC, dI) vwCl [(a_items_widthBefore, .inl (c_items_widthBefore, 401, .inl items_widthBefore)), (a_items_stretchBefore, .inl (c_items_stretchBefore, 401, .inl items_stretchBefore)), (a_items_shrinkBefore, .inl (c_items_shrinkBefore, 401, .inl items_shrinkBefore)), (a_items_fillBefore, .inl (c_items_fillBefore, 401, .inl items_fillBefore)), (a_ruler, .inr (3, [.ref a_items, .int x1, .int ruler_stretch, .int ruler_shrink, .int ruler_fill, .int ((x3 - ((items_widthBefore x2.toNatClampNeg) - (items_widthBefore x1.toNatClampNeg))) - u1)])), (a_items, .inr (1, [.int items_count, .ref a_items_kinds, .ref a_items_penaltyWidths, .ref a_items_costs, .ref a_items_flags, .ref a_items_widthBefore, .ref a_items_stretchBefore, .ref a_items_shrinkBefore, .ref a_items_fillBefore])), (a_items_penaltyWidths, .inl (c_items_penaltyWidths, 400, .inl items_penaltyWidths))] H := hP
  have hD : va_D A [(a_items_widthBefore, .inl (c_items_widthBefore, 401, .inl items_widthBefore)), (a_items_stretchBefore, .inl (c_items_stretchBefore, 401, .inl items_stretchBefore)), (a_items_shrinkBefore, .inl (c_items_shrinkBefore, 401, .inl items_shrinkBefore)), (a_items_fillBefore, .inl (c_items_fillBefore, 401, .inl items_fillBefore)), (a_ruler, .inr (3, [.ref a_items, .int x1, .int ruler_stretch, .int ruler_shrink, .int ruler_fill, .int ((x3 - ((items_widthBefore x2.toNatClampNeg) - (items_widthBefore x1.toNatClampNeg))) - u1)])), (a_items, .inr (1, [.int items_count, .ref a_items_kinds, .ref a_items_penaltyWidths, .ref a_items_costs, .ref a_items_flags, .ref a_items_widthBefore, .ref a_items_stretchBefore, .ref a_items_shrinkBefore, .ref a_items_fillBefore])), (a_items_penaltyWidths, .inl (c_items_penaltyWidths, 400, .inl items_penaltyWidths))] := hD
  refine lv_aload_n hx hb dRuler_measure_39 rfl (lv_at hl 0 rfl) ?_
  refine lv_aload_n hx hb dRuler_measure_40 rfl (lv_at hl 0 rfl) ?_
  refine va_get (D := (dC, dI)) (ci := 3) (v := .ref a_items) (C := RRuler) (T := TRuler) (N := 6) hx hb hts (fun w h => om_m (inRuler w h)) hown hK hP 4 rfl rfl 0 (by decide) (hts _ (om_m w_107)) (fun _ h9 => h9) rfl dRuler_measure_41 ?_
  refine va_get (D := (dC, dI)) (ci := 1) (v := .ref a_items_stretchBefore) (C := RItems) (T := TItems) (N := 9) hx hb hts (fun w h => om_m (inItems w h)) hown hK hP 5 rfl rfl 6 (by decide) (hts _ (om_m w_43)) (fun _ h9 => h9) rfl dRuler_measure_44 ?_
  refine lv_iload_n hx hb dRuler_measure_47 rfl (lv_at hl 2 rfl) ?_
  obtain ⟨hi, h⟩ := om_g h
  refine va_iald (D := (dC, dI)) hx hb hK hP 1 2 rfl rfl (om_ok hi) dRuler_measure_48 ?_
  refine lv_aload_n hx hb dRuler_measure_49 rfl (lv_at hl 0 rfl) ?_
  refine va_get (D := (dC, dI)) (ci := 3) (v := .ref a_items) (C := RRuler) (T := TRuler) (N := 6) hx hb hts (fun w h => om_m (inRuler w h)) hown hK hP 4 rfl rfl 0 (by decide) (hts _ (om_m w_107)) (fun _ h9 => h9) rfl dRuler_measure_50 ?_
  refine va_get (D := (dC, dI)) (ci := 1) (v := .ref a_items_stretchBefore) (C := RItems) (T := TItems) (N := 9) hx hb hts (fun w h => om_m (inItems w h)) hown hK hP 5 rfl rfl 6 (by decide) (hts _ (om_m w_43)) (fun _ h9 => h9) rfl dRuler_measure_53 ?_
  refine lv_iload_n hx hb dRuler_measure_56 rfl (lv_at hl 1 rfl) ?_
  obtain ⟨hi, h⟩ := om_g h
  refine va_iald (D := (dC, dI)) hx hb hK hP 1 2 rfl rfl (om_ok hi) dRuler_measure_57 ?_
  refine lv_isub hx hb dRuler_measure_58 ?_
  refine va_put (D := (dC, dI)) (ci := 3) (v := .int ((items_stretchBefore x2.toNatClampNeg) - (items_stretchBefore x1.toNatClampNeg))) (ty := .int) (C := RRuler) (T := TRuler) (N := 6) hx hb hts (fun w h => om_m (inRuler w h)) tyRuler tyRuler_ok nmRuler hown hK hP hD hS 4 rfl rfl 2 (by decide) (hts _ (om_m w_109)) (fun _ h9 => h9) rfl (by decide +kernel) rfl rfl (Nat.le_of_ble_eq_true rfl) dRuler_measure_59 (fun H locs hP hD hS => ?_)
  have hP : va_P (dC, dI) vwCl [(a_items_widthBefore, .inl (c_items_widthBefore, 401, .inl items_widthBefore)), (a_items_stretchBefore, .inl (c_items_stretchBefore, 401, .inl items_stretchBefore)), (a_items_shrinkBefore, .inl (c_items_shrinkBefore, 401, .inl items_shrinkBefore)), (a_items_fillBefore, .inl (c_items_fillBefore, 401, .inl items_fillBefore)), (a_ruler, .inr (3, [.ref a_items, .int x1, .int ((items_stretchBefore x2.toNatClampNeg) - (items_stretchBefore x1.toNatClampNeg)), .int ruler_shrink, .int ruler_fill, .int ((x3 - ((items_widthBefore x2.toNatClampNeg) - (items_widthBefore x1.toNatClampNeg))) - u1)])), (a_items, .inr (1, [.int items_count, .ref a_items_kinds, .ref a_items_penaltyWidths, .ref a_items_costs, .ref a_items_flags, .ref a_items_widthBefore, .ref a_items_stretchBefore, .ref a_items_shrinkBefore, .ref a_items_fillBefore])), (a_items_penaltyWidths, .inl (c_items_penaltyWidths, 400, .inl items_penaltyWidths))] H := hP
  have hD : va_D A [(a_items_widthBefore, .inl (c_items_widthBefore, 401, .inl items_widthBefore)), (a_items_stretchBefore, .inl (c_items_stretchBefore, 401, .inl items_stretchBefore)), (a_items_shrinkBefore, .inl (c_items_shrinkBefore, 401, .inl items_shrinkBefore)), (a_items_fillBefore, .inl (c_items_fillBefore, 401, .inl items_fillBefore)), (a_ruler, .inr (3, [.ref a_items, .int x1, .int ((items_stretchBefore x2.toNatClampNeg) - (items_stretchBefore x1.toNatClampNeg)), .int ruler_shrink, .int ruler_fill, .int ((x3 - ((items_widthBefore x2.toNatClampNeg) - (items_widthBefore x1.toNatClampNeg))) - u1)])), (a_items, .inr (1, [.int items_count, .ref a_items_kinds, .ref a_items_penaltyWidths, .ref a_items_costs, .ref a_items_flags, .ref a_items_widthBefore, .ref a_items_stretchBefore, .ref a_items_shrinkBefore, .ref a_items_fillBefore])), (a_items_penaltyWidths, .inl (c_items_penaltyWidths, 400, .inl items_penaltyWidths))] := hD
  refine lv_aload_n hx hb dRuler_measure_62 rfl (lv_at hl 0 rfl) ?_
  refine lv_aload_n hx hb dRuler_measure_63 rfl (lv_at hl 0 rfl) ?_
  refine va_get (D := (dC, dI)) (ci := 3) (v := .ref a_items) (C := RRuler) (T := TRuler) (N := 6) hx hb hts (fun w h => om_m (inRuler w h)) hown hK hP 4 rfl rfl 0 (by decide) (hts _ (om_m w_107)) (fun _ h9 => h9) rfl dRuler_measure_64 ?_
  refine va_get (D := (dC, dI)) (ci := 1) (v := .ref a_items_shrinkBefore) (C := RItems) (T := TItems) (N := 9) hx hb hts (fun w h => om_m (inItems w h)) hown hK hP 5 rfl rfl 7 (by decide) (hts _ (om_m w_45)) (fun _ h9 => h9) rfl dRuler_measure_67 ?_
  refine lv_iload_n hx hb dRuler_measure_70 rfl (lv_at hl 2 rfl) ?_
  obtain ⟨hi, h⟩ := om_g h
  refine va_iald (D := (dC, dI)) hx hb hK hP 2 3 rfl rfl (om_ok hi) dRuler_measure_71 ?_
  refine lv_aload_n hx hb dRuler_measure_72 rfl (lv_at hl 0 rfl) ?_
  refine va_get (D := (dC, dI)) (ci := 3) (v := .ref a_items) (C := RRuler) (T := TRuler) (N := 6) hx hb hts (fun w h => om_m (inRuler w h)) hown hK hP 4 rfl rfl 0 (by decide) (hts _ (om_m w_107)) (fun _ h9 => h9) rfl dRuler_measure_73 ?_
  refine va_get (D := (dC, dI)) (ci := 1) (v := .ref a_items_shrinkBefore) (C := RItems) (T := TItems) (N := 9) hx hb hts (fun w h => om_m (inItems w h)) hown hK hP 5 rfl rfl 7 (by decide) (hts _ (om_m w_45)) (fun _ h9 => h9) rfl dRuler_measure_76 ?_
  refine lv_iload_n hx hb dRuler_measure_79 rfl (lv_at hl 1 rfl) ?_
  obtain ⟨hi, h⟩ := om_g h
  refine va_iald (D := (dC, dI)) hx hb hK hP 2 3 rfl rfl (om_ok hi) dRuler_measure_80 ?_
  refine lv_isub hx hb dRuler_measure_81 ?_
  refine va_put (D := (dC, dI)) (ci := 3) (v := .int ((items_shrinkBefore x2.toNatClampNeg) - (items_shrinkBefore x1.toNatClampNeg))) (ty := .int) (C := RRuler) (T := TRuler) (N := 6) hx hb hts (fun w h => om_m (inRuler w h)) tyRuler tyRuler_ok nmRuler hown hK hP hD hS 4 rfl rfl 3 (by decide) (hts _ (om_m w_110)) (fun _ h9 => h9) rfl (by decide +kernel) rfl rfl (Nat.le_of_ble_eq_true rfl) dRuler_measure_82 (fun H locs hP hD hS => ?_)
  have hP : va_P (dC, dI) vwCl [(a_items_widthBefore, .inl (c_items_widthBefore, 401, .inl items_widthBefore)), (a_items_stretchBefore, .inl (c_items_stretchBefore, 401, .inl items_stretchBefore)), (a_items_shrinkBefore, .inl (c_items_shrinkBefore, 401, .inl items_shrinkBefore)), (a_items_fillBefore, .inl (c_items_fillBefore, 401, .inl items_fillBefore)), (a_ruler, .inr (3, [.ref a_items, .int x1, .int ((items_stretchBefore x2.toNatClampNeg) - (items_stretchBefore x1.toNatClampNeg)), .int ((items_shrinkBefore x2.toNatClampNeg) - (items_shrinkBefore x1.toNatClampNeg)), .int ruler_fill, .int ((x3 - ((items_widthBefore x2.toNatClampNeg) - (items_widthBefore x1.toNatClampNeg))) - u1)])), (a_items, .inr (1, [.int items_count, .ref a_items_kinds, .ref a_items_penaltyWidths, .ref a_items_costs, .ref a_items_flags, .ref a_items_widthBefore, .ref a_items_stretchBefore, .ref a_items_shrinkBefore, .ref a_items_fillBefore])), (a_items_penaltyWidths, .inl (c_items_penaltyWidths, 400, .inl items_penaltyWidths))] H := hP
  have hD : va_D A [(a_items_widthBefore, .inl (c_items_widthBefore, 401, .inl items_widthBefore)), (a_items_stretchBefore, .inl (c_items_stretchBefore, 401, .inl items_stretchBefore)), (a_items_shrinkBefore, .inl (c_items_shrinkBefore, 401, .inl items_shrinkBefore)), (a_items_fillBefore, .inl (c_items_fillBefore, 401, .inl items_fillBefore)), (a_ruler, .inr (3, [.ref a_items, .int x1, .int ((items_stretchBefore x2.toNatClampNeg) - (items_stretchBefore x1.toNatClampNeg)), .int ((items_shrinkBefore x2.toNatClampNeg) - (items_shrinkBefore x1.toNatClampNeg)), .int ruler_fill, .int ((x3 - ((items_widthBefore x2.toNatClampNeg) - (items_widthBefore x1.toNatClampNeg))) - u1)])), (a_items, .inr (1, [.int items_count, .ref a_items_kinds, .ref a_items_penaltyWidths, .ref a_items_costs, .ref a_items_flags, .ref a_items_widthBefore, .ref a_items_stretchBefore, .ref a_items_shrinkBefore, .ref a_items_fillBefore])), (a_items_penaltyWidths, .inl (c_items_penaltyWidths, 400, .inl items_penaltyWidths))] := hD
  refine lv_aload_n hx hb dRuler_measure_85 rfl (lv_at hl 0 rfl) ?_
  refine lv_aload_n hx hb dRuler_measure_86 rfl (lv_at hl 0 rfl) ?_
  refine va_get (D := (dC, dI)) (ci := 3) (v := .ref a_items) (C := RRuler) (T := TRuler) (N := 6) hx hb hts (fun w h => om_m (inRuler w h)) hown hK hP 4 rfl rfl 0 (by decide) (hts _ (om_m w_107)) (fun _ h9 => h9) rfl dRuler_measure_87 ?_
  refine va_get (D := (dC, dI)) (ci := 1) (v := .ref a_items_fillBefore) (C := RItems) (T := TItems) (N := 9) hx hb hts (fun w h => om_m (inItems w h)) hown hK hP 5 rfl rfl 8 (by decide) (hts _ (om_m w_48)) (fun _ h9 => h9) rfl dRuler_measure_90 ?_
  refine lv_iload_n hx hb dRuler_measure_93 rfl (lv_at hl 2 rfl) ?_
  obtain ⟨hi, h⟩ := om_g h
  refine va_iald (D := (dC, dI)) hx hb hK hP 3 4 rfl rfl (om_ok hi) dRuler_measure_94 ?_
  refine lv_aload_n hx hb dRuler_measure_95 rfl (lv_at hl 0 rfl) ?_
  refine va_get (D := (dC, dI)) (ci := 3) (v := .ref a_items) (C := RRuler) (T := TRuler) (N := 6) hx hb hts (fun w h => om_m (inRuler w h)) hown hK hP 4 rfl rfl 0 (by decide) (hts _ (om_m w_107)) (fun _ h9 => h9) rfl dRuler_measure_96 ?_
  refine va_get (D := (dC, dI)) (ci := 1) (v := .ref a_items_fillBefore) (C := RItems) (T := TItems) (N := 9) hx hb hts (fun w h => om_m (inItems w h)) hown hK hP 5 rfl rfl 8 (by decide) (hts _ (om_m w_48)) (fun _ h9 => h9) rfl dRuler_measure_99 ?_
  refine lv_iload_n hx hb dRuler_measure_102 rfl (lv_at hl 1 rfl) ?_
  obtain ⟨hi, h⟩ := om_g h
  refine va_iald (D := (dC, dI)) hx hb hK hP 3 4 rfl rfl (om_ok hi) dRuler_measure_103 ?_
  refine lv_isub hx hb dRuler_measure_104 ?_
  refine va_put (D := (dC, dI)) (ci := 3) (v := .int ((items_fillBefore x2.toNatClampNeg) - (items_fillBefore x1.toNatClampNeg))) (ty := .int) (C := RRuler) (T := TRuler) (N := 6) hx hb hts (fun w h => om_m (inRuler w h)) tyRuler tyRuler_ok nmRuler hown hK hP hD hS 4 rfl rfl 4 (by decide) (hts _ (om_m w_111)) (fun _ h9 => h9) rfl (by decide +kernel) rfl rfl (Nat.le_of_ble_eq_true rfl) dRuler_measure_105 (fun H locs hP hD hS => ?_)
  have hP : va_P (dC, dI) vwCl [(a_items_widthBefore, .inl (c_items_widthBefore, 401, .inl items_widthBefore)), (a_items_stretchBefore, .inl (c_items_stretchBefore, 401, .inl items_stretchBefore)), (a_items_shrinkBefore, .inl (c_items_shrinkBefore, 401, .inl items_shrinkBefore)), (a_items_fillBefore, .inl (c_items_fillBefore, 401, .inl items_fillBefore)), (a_ruler, .inr (3, [.ref a_items, .int x1, .int ((items_stretchBefore x2.toNatClampNeg) - (items_stretchBefore x1.toNatClampNeg)), .int ((items_shrinkBefore x2.toNatClampNeg) - (items_shrinkBefore x1.toNatClampNeg)), .int ((items_fillBefore x2.toNatClampNeg) - (items_fillBefore x1.toNatClampNeg)), .int ((x3 - ((items_widthBefore x2.toNatClampNeg) - (items_widthBefore x1.toNatClampNeg))) - u1)])), (a_items, .inr (1, [.int items_count, .ref a_items_kinds, .ref a_items_penaltyWidths, .ref a_items_costs, .ref a_items_flags, .ref a_items_widthBefore, .ref a_items_stretchBefore, .ref a_items_shrinkBefore, .ref a_items_fillBefore])), (a_items_penaltyWidths, .inl (c_items_penaltyWidths, 400, .inl items_penaltyWidths))] H := hP
  have hD : va_D A [(a_items_widthBefore, .inl (c_items_widthBefore, 401, .inl items_widthBefore)), (a_items_stretchBefore, .inl (c_items_stretchBefore, 401, .inl items_stretchBefore)), (a_items_shrinkBefore, .inl (c_items_shrinkBefore, 401, .inl items_shrinkBefore)), (a_items_fillBefore, .inl (c_items_fillBefore, 401, .inl items_fillBefore)), (a_ruler, .inr (3, [.ref a_items, .int x1, .int ((items_stretchBefore x2.toNatClampNeg) - (items_stretchBefore x1.toNatClampNeg)), .int ((items_shrinkBefore x2.toNatClampNeg) - (items_shrinkBefore x1.toNatClampNeg)), .int ((items_fillBefore x2.toNatClampNeg) - (items_fillBefore x1.toNatClampNeg)), .int ((x3 - ((items_widthBefore x2.toNatClampNeg) - (items_widthBefore x1.toNatClampNeg))) - u1)])), (a_items, .inr (1, [.int items_count, .ref a_items_kinds, .ref a_items_penaltyWidths, .ref a_items_costs, .ref a_items_flags, .ref a_items_widthBefore, .ref a_items_stretchBefore, .ref a_items_shrinkBefore, .ref a_items_fillBefore])), (a_items_penaltyWidths, .inl (c_items_penaltyWidths, 400, .inl items_penaltyWidths))] := hD
  obtain rfl := Option.some.inj h
  have hP9 := hP.sub (ws' := [(a_items, .inr (1, [.int items_count, .ref a_items_kinds, .ref a_items_penaltyWidths, .ref a_items_costs, .ref a_items_flags, .ref a_items_widthBefore, .ref a_items_stretchBefore, .ref a_items_shrinkBefore, .ref a_items_fillBefore])), (a_items_penaltyWidths, .inl (c_items_penaltyWidths, 400, .inl items_penaltyWidths)), (a_items_widthBefore, .inl (c_items_widthBefore, 401, .inl items_widthBefore)), (a_items_stretchBefore, .inl (c_items_stretchBefore, 401, .inl items_stretchBefore)), (a_items_shrinkBefore, .inl (c_items_shrinkBefore, 401, .inl items_shrinkBefore)), (a_items_fillBefore, .inl (c_items_fillBefore, 401, .inl items_fillBefore)), (a_ruler, .inr (3, [.ref a_items, .int x1, .int ((items_stretchBefore x2.toNatClampNeg) - (items_stretchBefore x1.toNatClampNeg)), .int ((items_shrinkBefore x2.toNatClampNeg) - (items_shrinkBefore x1.toNatClampNeg)), .int ((items_fillBefore x2.toNatClampNeg) - (items_fillBefore x1.toNatClampNeg)), .int ((x3 - ((items_widthBefore x2.toNatClampNeg) - (items_widthBefore x1.toNatClampNeg))) - u1)]))]) [5, 6, 0, 1, 2, 3, 4] rfl
  have hD9 := hD.sub (ws' := [(a_items, .inr (1, [.int items_count, .ref a_items_kinds, .ref a_items_penaltyWidths, .ref a_items_costs, .ref a_items_flags, .ref a_items_widthBefore, .ref a_items_stretchBefore, .ref a_items_shrinkBefore, .ref a_items_fillBefore])), (a_items_penaltyWidths, .inl (c_items_penaltyWidths, 400, .inl items_penaltyWidths)), (a_items_widthBefore, .inl (c_items_widthBefore, 401, .inl items_widthBefore)), (a_items_stretchBefore, .inl (c_items_stretchBefore, 401, .inl items_stretchBefore)), (a_items_shrinkBefore, .inl (c_items_shrinkBefore, 401, .inl items_shrinkBefore)), (a_items_fillBefore, .inl (c_items_fillBefore, 401, .inl items_fillBefore)), (a_ruler, .inr (3, [.ref a_items, .int x1, .int ((items_stretchBefore x2.toNatClampNeg) - (items_stretchBefore x1.toNatClampNeg)), .int ((items_shrinkBefore x2.toNatClampNeg) - (items_shrinkBefore x1.toNatClampNeg)), .int ((items_fillBefore x2.toNatClampNeg) - (items_fillBefore x1.toNatClampNeg)), .int ((x3 - ((items_widthBefore x2.toNatClampNeg) - (items_widthBefore x1.toNatClampNeg))) - u1)]))]) [5, 6, 0, 1, 2, 3, 4] (by decide) rfl
  have hK9 := hK.sub (tys' := [(c_items_penaltyWidths, .int), (c_items_widthBefore, .int), (c_items_stretchBefore, .int), (c_items_shrinkBefore, .int), (c_items_fillBefore, .int)]) [0, 1, 2, 3, 4] rfl
  exact W.vret hx hb hr (fun t ht hW => ⟨⟨(), rfl, trivial, by rw [ht]; exact hP9, va_K.moved hW.alike hK9, hD9⟩, hS.F ht⟩) hS.2.2 dRuler_measure_108
def om_f_Ruler_isTooLong (ruler_shrink : Int32) (ruler_excess : Int32) : Option Int32 := if (-ruler_excess) ≤ ruler_shrink then some 0 else some 1
set_option maxHeartbeats 4000000 in
set_option maxRecDepth 100000 in
theorem om_k_Ruler_isTooLong (l : Launch) (dC : Nat → ClassId) (dI : Nat → Nat → Nat) (a_ruler : Nat) (a_items : Nat)   (sz : Nat) (ruler_start : Int32) (ruler_stretch : Int32) (ruler_shrink : Int32) (ruler_fill : Int32) (ruler_excess : Int32)  (o : Int32) (h : om_f_Ruler_isTooLong ruler_shrink ruler_excess = some o) : Met l yRuler_isTooLong wsRuler_isTooLong ({ frames := 0, cells := 0, slots := 0, locals := 0 }) (va_Pc [.ref a_ruler] (fun U => U.heap.size = sz ∧ va_P (dC, dI) vwCl [(a_ruler, .inr (3, [.ref a_items, .int ruler_start, .int ruler_stretch, .int ruler_shrink, .int ruler_fill, .int ruler_excess]))] U.heap ∧ va_K (dC, dI) vwCl [] U ∧ va_D (fun _ => True) [(a_ruler, .inr (3, [.ref a_items, .int ruler_start, .int ruler_stretch, .int ruler_shrink, .int ruler_fill, .int ruler_excess]))])) (va_Qi (fun (r : Int32) (_ : Unit) => r = o) (fun (_ : Unit) t => va_P (dC, dI) vwCl [(a_ruler, .inr (3, [.ref a_items, .int ruler_start, .int ruler_stretch, .int ruler_shrink, .int ruler_fill, .int ruler_excess]))] t.heap ∧ va_K (dC, dI) vwCl [] t ∧ va_D (va_A [(a_ruler, .inr (3, [.ref a_items, .int ruler_start, .int ruler_stretch, .int ruler_shrink, .int ruler_fill, .int ruler_excess]))] sz) [(a_ruler, .inr (3, [.ref a_items, .int ruler_start, .int ruler_stretch, .int ruler_shrink, .int ruler_fill, .int ruler_excess]))]) (va_A [(a_ruler, .inr (3, [.ref a_items, .int ruler_start, .int ruler_stretch, .int ruler_shrink, .int ruler_fill, .int ruler_excess]))] sz)) 0 0 (va_A [(a_ruler, .inr (3, [.ref a_items, .int ruler_start, .int ruler_stretch, .int ruler_shrink, .int ruler_fill, .int ruler_excess]))] sz) := by
  refine Met.ofW (cc := cRuler_isTooLong) (maxL := 1) (ret := (some .boolean)) (by decide) rfl ?_
  intro p e s m args below meth c s₁ B hml hv
  obtain ⟨rfl, hsz, hP, hK, hD0⟩ := hv
  have hx := B.exec
  have hb := B.bytes
  have hr := B.returns
  have hts := atoms_spec (ws := wsRuler_isTooLong) B.pre
  have hown : s.vm.findClass RRuler = some m.cls := findClass_of_methodNamed B.named
  have hlocks := B.notSynchronized
  subst hsz
  have hD := hD0.self (sz := s.heap.size)
  generalize hAe : va_A [(a_ruler, .inr (3, [.ref a_items, .int ruler_start, .int ruler_stretch, .int ruler_shrink, .int ruler_fill, .int ruler_excess]))] s.heap.size = A at hD ⊢
  have hA : ∀ q : Nat, s.heap.size ≤ q → A q := fun q h => by rw [← hAe]; exact Or.inr h
  have hS : va_S A s.heap s.heap [] := va_S.rf
  have hP : va_P (dC, dI) vwCl [(a_ruler, .inr (3, [.ref a_items, .int ruler_start, .int ruler_stretch, .int ruler_shrink, .int ruler_fill, .int ruler_excess]))] s.heap := hP
  have hl := lv_entry ([.ref a_ruler]) (n := 1) (Nat.le_of_ble_eq_true rfl)
  rw [lg_entry_eq]
  generalize (lg_sl ([.ref a_ruler]) ++ List.replicate (1 - (lg_sl ([.ref a_ruler])).length) Slot.unset).toArray = ls at hl ⊢
  have hl : lv_has ls 1 [(0, .ref a_ruler)] := hl
  unfold om_f_Ruler_isTooLong at h
  refine lv_aload_n hx hb dRuler_isTooLong_0 rfl (lv_at hl 0 rfl) ?_
  refine va_get (D := (dC, dI)) (ci := 3) (v := .int ruler_excess) (C := RRuler) (T := TRuler) (N := 6) hx hb hts (fun w h => om_m (inRuler w h)) hown hK hP 0 rfl rfl 5 (by decide) (hts _ (om_m w_112)) (fun _ h9 => h9) rfl dRuler_isTooLong_1 ?_
  refine lv_ineg hx hb dRuler_isTooLong_4 ?_
  refine lv_aload_n hx hb dRuler_isTooLong_5 rfl (lv_at hl 0 rfl) ?_
  refine va_get (D := (dC, dI)) (ci := 3) (v := .int ruler_shrink) (C := RRuler) (T := TRuler) (N := 6) hx hb hts (fun w h => om_m (inRuler w h)) hown hK hP 0 rfl rfl 3 (by decide) (hts _ (om_m w_110)) (fun _ h9 => h9) rfl dRuler_isTooLong_6 ?_
  refine lv_icmp_le (tgt := 16) hx hb dRuler_isTooLong_9 (by decide) (fun g1 => ?_) (fun g1 => ?_)
  · have h := om_t g1 h
    refine lv_iconst (v := 0) hx hb dRuler_isTooLong_16 (by decide) ?_
    obtain rfl := Option.some.inj h
    have hP9 := hP.sub (ws' := [(a_ruler, .inr (3, [.ref a_items, .int ruler_start, .int ruler_stretch, .int ruler_shrink, .int ruler_fill, .int ruler_excess]))]) [0] rfl
    have hD9 := hD.sub (ws' := [(a_ruler, .inr (3, [.ref a_items, .int ruler_start, .int ruler_stretch, .int ruler_shrink, .int ruler_fill, .int ruler_excess]))]) [0] (by decide) rfl
    have hK9 := hK.sub (tys' := []) [] rfl
    exact W.zret (v := 0) hx hb hr rfl (fun t ht hW => ⟨⟨_, (), rfl, rfl, by rw [ht]; exact hP9, va_K.moved hW.alike hK9, hD9⟩, hS.F ht⟩) hS.2.2 dRuler_isTooLong_17
  · have h := om_f g1 h
    refine lv_iconst (v := 1) hx hb dRuler_isTooLong_12 (by decide) ?_
    refine lv_goto (tgt := 17) hx hb dRuler_isTooLong_13 (by decide) ?_
    obtain rfl := Option.some.inj h
    have hP9 := hP.sub (ws' := [(a_ruler, .inr (3, [.ref a_items, .int ruler_start, .int ruler_stretch, .int ruler_shrink, .int ruler_fill, .int ruler_excess]))]) [0] rfl
    have hD9 := hD.sub (ws' := [(a_ruler, .inr (3, [.ref a_items, .int ruler_start, .int ruler_stretch, .int ruler_shrink, .int ruler_fill, .int ruler_excess]))]) [0] (by decide) rfl
    have hK9 := hK.sub (tys' := []) [] rfl
    exact W.zret (v := 1) hx hb hr rfl (fun t ht hW => ⟨⟨_, (), rfl, rfl, by rw [ht]; exact hP9, va_K.moved hW.alike hK9, hD9⟩, hS.F ht⟩) hS.2.2 dRuler_isTooLong_17
def om_f_Ruler_badnessOf (x0 : Int32) (x1 : Int32) : Option Int32 := if 0 < x1 then if ¬ x1.toInt64 = 0 then if (lg_cmp ((x0.toInt64 * 297) / x1.toInt64) 1290) ≤ 0 then some (((((((x0.toInt64 * 297) / x1.toInt64) * ((x0.toInt64 * 297) / x1.toInt64)) * ((x0.toInt64 * 297) / x1.toInt64)) + 131072) / 262144).toInt32) else some 10000 else none else some 10000
set_option maxHeartbeats 4000000 in
set_option maxRecDepth 100000 in
theorem om_k_Ruler_badnessOf (l : Launch) (dC : Nat → ClassId) (dI : Nat → Nat → Nat)    (sz : Nat)  (x0 : Int32) (x1 : Int32) (o : Int32) (h : om_f_Ruler_badnessOf x0 x1 = some o) : Met l yRuler_badnessOf wsRuler_badnessOf ({ frames := 0, cells := 0, slots := 0, locals := 0 }) (va_Pc [.int x0, .int x1] (fun U => U.heap.size = sz ∧ va_P (dC, dI) vwCl [] U.heap ∧ va_K (dC, dI) vwCl [] U ∧ va_D (fun _ => True) [])) (va_Qi (fun (r : Int32) (_ : Unit) => r = o) (fun (_ : Unit) t => va_P (dC, dI) vwCl [] t.heap ∧ va_K (dC, dI) vwCl [] t ∧ va_D (va_A [] sz) []) (va_A [] sz)) 0 0 (va_A [] sz) := by
  refine Met.ofW (cc := cRuler_badnessOf) (maxL := 4) (ret := (some .int)) (by decide) rfl ?_
  intro p e s m args below meth c s₁ B hml hv
  obtain ⟨rfl, hsz, hP, hK, hD0⟩ := hv
  have hx := B.exec
  have hb := B.bytes
  have hr := B.returns
  have hts := atoms_spec (ws := wsRuler_badnessOf) B.pre
  have hown : s.vm.findClass RRuler = some m.cls := findClass_of_methodNamed B.named
  have hlocks := B.notSynchronized
  subst hsz
  have hD := hD0.self (sz := s.heap.size)
  generalize hAe : va_A [] s.heap.size = A at hD ⊢
  have hA : ∀ q : Nat, s.heap.size ≤ q → A q := fun q h => by rw [← hAe]; exact Or.inr h
  have hS : va_S A s.heap s.heap [] := va_S.rf
  have hP : va_P (dC, dI) vwCl [] s.heap := hP
  have hl := lv_entry ([.int x0, .int x1]) (n := 4) (Nat.le_of_ble_eq_true rfl)
  rw [lg_entry_eq]
  generalize (lg_sl ([.int x0, .int x1]) ++ List.replicate (4 - (lg_sl ([.int x0, .int x1])).length) Slot.unset).toArray = ls at hl ⊢
  have hl : lv_has ls 4 [(0, .int x0), (1, .int x1)] := hl
  unfold om_f_Ruler_badnessOf at h
  refine lv_iload_n hx hb dRuler_badnessOf_0 rfl (lv_at hl 1 rfl) ?_
  refine lv_if_gt (tgt := 8) hx hb dRuler_badnessOf_1 (by decide) (fun g1 => ?_) (fun g1 => ?_)
  · have h := om_t g1 h
    refine lv_iload_n hx hb dRuler_badnessOf_8 rfl (lv_at hl 0 rfl) ?_
    refine lv_i2l hx hb dRuler_badnessOf_9 rfl ?_
    refine lv_ldc2 (v := 297) hx hb hown (hts _ (om_m w_422)) dRuler_badnessOf_10 ?_
    refine lv_lmul hx hb dRuler_badnessOf_13 ?_
    refine lv_iload_n hx hb dRuler_badnessOf_14 rfl (lv_at hl 1 rfl) ?_
    refine lv_i2l hx hb dRuler_badnessOf_15 rfl ?_
    obtain ⟨hz, h⟩ := om_g h
    refine lv_ldiv hx hb dRuler_badnessOf_16 hz ?_
    refine lv_lstore_n (lv' := [(2, .long ((x0.toInt64 * 297) / x1.toInt64)), (0, .int x0), (1, .int x1)]) hx hb dRuler_badnessOf_17 rfl hl (by decide) rfl (fun ls hl => ?_)
    refine lv_lload_n hx hb dRuler_badnessOf_18 rfl (lv_at hl 0 rfl) ?_
    refine lv_ldc2 (v := 1290) hx hb hown (hts _ (om_m w_423)) dRuler_badnessOf_19 ?_
    refine W.lcmp hx hb dRuler_badnessOf_22 ?_
    refine lv_if_le (tgt := 32) hx hb dRuler_badnessOf_23 (by decide) (fun g2 => ?_) (fun g2 => ?_)
    · have h := om_t g2 h
      refine lv_lload_n hx hb dRuler_badnessOf_32 rfl (lv_at hl 0 rfl) ?_
      refine lv_lload_n hx hb dRuler_badnessOf_33 rfl (lv_at hl 0 rfl) ?_
      refine lv_lmul hx hb dRuler_badnessOf_34 ?_
      refine lv_lload_n hx hb dRuler_badnessOf_35 rfl (lv_at hl 0 rfl) ?_
      refine lv_lmul hx hb dRuler_badnessOf_36 ?_
      refine lv_ldc2 (v := 131072) hx hb hown (hts _ (om_m w_424)) dRuler_badnessOf_37 ?_
      refine lv_ladd hx hb dRuler_badnessOf_40 ?_
      refine lv_ldc2 (v := 262144) hx hb hown (hts _ (om_m w_425)) dRuler_badnessOf_41 ?_
      refine lv_ldiv hx hb dRuler_badnessOf_44 (by decide) ?_
      refine lv_l2i hx hb dRuler_badnessOf_45 rfl ?_
      obtain rfl := Option.some.inj h
      have hP9 := hP.sub (ws' := []) [] rfl
      have hD9 := hD.sub (ws' := []) [] (by decide) rfl
      have hK9 := hK.sub (tys' := []) [] rfl
      exact W.iret (v := ((((((x0.toInt64 * 297) / x1.toInt64) * ((x0.toInt64 * 297) / x1.toInt64)) * ((x0.toInt64 * 297) / x1.toInt64)) + 131072) / 262144).toInt32) hx hb hr (fun t ht hW => ⟨⟨_, (), rfl, rfl, by rw [ht]; exact hP9, va_K.moved hW.alike hK9, hD9⟩, hS.F ht⟩) hS.2.2 dRuler_badnessOf_46
    · have h := om_f g2 h
      refine lv_sipush (v := 10000) hx hb dRuler_badnessOf_26 (by decide) ?_
      refine lv_goto (tgt := 46) hx hb dRuler_badnessOf_29 (by decide) ?_
      obtain rfl := Option.some.inj h
      have hP9 := hP.sub (ws' := []) [] rfl
      have hD9 := hD.sub (ws' := []) [] (by decide) rfl
      have hK9 := hK.sub (tys' := []) [] rfl
      exact W.iret (v := 10000) hx hb hr (fun t ht hW => ⟨⟨_, (), rfl, rfl, by rw [ht]; exact hP9, va_K.moved hW.alike hK9, hD9⟩, hS.F ht⟩) hS.2.2 dRuler_badnessOf_46
  · have h := om_f g1 h
    refine lv_sipush (v := 10000) hx hb dRuler_badnessOf_4 (by decide) ?_
    obtain rfl := Option.some.inj h
    have hP9 := hP.sub (ws' := []) [] rfl
    have hD9 := hD.sub (ws' := []) [] (by decide) rfl
    have hK9 := hK.sub (tys' := []) [] rfl
    exact W.iret (v := 10000) hx hb hr (fun t ht hW => ⟨⟨_, (), rfl, rfl, by rw [ht]; exact hP9, va_K.moved hW.alike hK9, hD9⟩, hS.F ht⟩) hS.2.2 dRuler_badnessOf_7
def om_f_Ruler_badness (ruler_stretch : Int32) (ruler_shrink : Int32) (ruler_fill : Int32) (ruler_excess : Int32) (x1 : Int32) : Option Int32 := if ruler_excess = 0 then some 0 else if ruler_excess ≤ 0 then if ruler_excess ≤ 0 then (om_f_Ruler_isTooLong ruler_shrink ruler_excess).bind fun u4 => if u4 = 0 then (om_f_Ruler_badnessOf (-ruler_excess) ruler_shrink).bind fun u6 => some u6 else some 10000 else (om_f_Ruler_badnessOf ruler_excess (ruler_stretch + x1)).bind fun u7 => some u7 else if ruler_fill ≤ 0 then if ruler_excess ≤ 0 then (om_f_Ruler_isTooLong ruler_shrink ruler_excess).bind fun u10 => if u10 = 0 then (om_f_Ruler_badnessOf (-ruler_excess) ruler_shrink).bind fun u12 => some u12 else some 10000 else (om_f_Ruler_badnessOf ruler_excess (ruler_stretch + x1)).bind fun u13 => some u13 else some 0
set_option maxHeartbeats 4000000 in
set_option maxRecDepth 100000 in
theorem om_k_Ruler_badness (l : Launch) (dC : Nat → ClassId) (dI : Nat → Nat → Nat) (a_ruler : Nat) (a_items : Nat)   (sz : Nat) (ruler_start : Int32) (ruler_stretch : Int32) (ruler_shrink : Int32) (ruler_fill : Int32) (ruler_excess : Int32) (x1 : Int32) (o : Int32) (h : om_f_Ruler_badness ruler_stretch ruler_shrink ruler_fill ruler_excess x1 = some o) : Met l yRuler_badness wsRuler_badness ({ frames := 1, cells := 0, slots := 0, locals := 23 }) (va_Pc [.ref a_ruler, .int x1] (fun U => U.heap.size = sz ∧ va_P (dC, dI) vwCl [(a_ruler, .inr (3, [.ref a_items, .int ruler_start, .int ruler_stretch, .int ruler_shrink, .int ruler_fill, .int ruler_excess]))] U.heap ∧ va_K (dC, dI) vwCl [] U ∧ va_D (fun _ => True) [(a_ruler, .inr (3, [.ref a_items, .int ruler_start, .int ruler_stretch, .int ruler_shrink, .int ruler_fill, .int ruler_excess]))])) (va_Qi (fun (r : Int32) (_ : Unit) => r = o) (fun (_ : Unit) t => va_P (dC, dI) vwCl [(a_ruler, .inr (3, [.ref a_items, .int ruler_start, .int ruler_stretch, .int ruler_shrink, .int ruler_fill, .int ruler_excess]))] t.heap ∧ va_K (dC, dI) vwCl [] t ∧ va_D (va_A [(a_ruler, .inr (3, [.ref a_items, .int ruler_start, .int ruler_stretch, .int ruler_shrink, .int ruler_fill, .int ruler_excess]))] sz) [(a_ruler, .inr (3, [.ref a_items, .int ruler_start, .int ruler_stretch, .int ruler_shrink, .int ruler_fill, .int ruler_excess]))]) (va_A [(a_ruler, .inr (3, [.ref a_items, .int ruler_start, .int ruler_stretch, .int ruler_shrink, .int ruler_fill, .int ruler_excess]))] sz)) 0 0 (va_A [(a_ruler, .inr (3, [.ref a_items, .int ruler_start, .int ruler_stretch, .int ruler_shrink, .int ruler_fill, .int ruler_excess]))] sz) := by
  refine Met.ofW (cc := cRuler_badness) (maxL := 2) (ret := (some .int)) (by decide) rfl ?_
  intro p e s m args below meth c s₁ B hml hv
  obtain ⟨rfl, hsz, hP, hK, hD0⟩ := hv
  have hx := B.exec
  have hb := B.bytes
  have hr := B.returns
  have hts := atoms_spec (ws := wsRuler_badness) B.pre
  have hown : s.vm.findClass RRuler = some m.cls := findClass_of_methodNamed B.named
  have hlocks := B.notSynchronized
  subst hsz
  have hD := hD0.self (sz := s.heap.size)
  generalize hAe : va_A [(a_ruler, .inr (3, [.ref a_items, .int ruler_start, .int ruler_stretch, .int ruler_shrink, .int ruler_fill, .int ruler_excess]))] s.heap.size = A at hD ⊢
  have hA : ∀ q : Nat, s.heap.size ≤ q → A q := fun q h => by rw [← hAe]; exact Or.inr h
  have hS : va_S A s.heap s.heap [] := va_S.rf
  have hP : va_P (dC, dI) vwCl [(a_ruler, .inr (3, [.ref a_items, .int ruler_start, .int ruler_stretch, .int ruler_shrink, .int ruler_fill, .int ruler_excess]))] s.heap := hP
  have hl := lv_entry ([.ref a_ruler, .int x1]) (n := 2) (Nat.le_of_ble_eq_true rfl)
  rw [lg_entry_eq]
  generalize (lg_sl ([.ref a_ruler, .int x1]) ++ List.replicate (2 - (lg_sl ([.ref a_ruler, .int x1])).length) Slot.unset).toArray = ls at hl ⊢
  have hl : lv_has ls 2 [(0, .ref a_ruler), (1, .int x1)] := hl
  unfold om_f_Ruler_badness at h
  refine lv_aload_n hx hb dRuler_badness_0 rfl (lv_at hl 0 rfl) ?_
  refine va_get (D := (dC, dI)) (ci := 3) (v := .int ruler_excess) (C := RRuler) (T := TRuler) (N := 6) hx hb hts (fun w h => om_m (inRuler w h)) hown hK hP 0 rfl rfl 5 (by decide) (hts _ (om_m w_112)) (fun _ h9 => h9) rfl dRuler_badness_1 ?_
  refine lv_if_eq (tgt := 21) hx hb dRuler_badness_4 (by decide) (fun g1 => ?_) (fun g1 => ?_)
  · have h := om_t g1 h
    refine lv_iconst (v := 0) hx hb dRuler_badness_21 (by decide) ?_
    obtain rfl := Option.some.inj h
    have hP9 := hP.sub (ws' := [(a_ruler, .inr (3, [.ref a_items, .int ruler_start, .int ruler_stretch, .int ruler_shrink, .int ruler_fill, .int ruler_excess]))]) [0] rfl
    have hD9 := hD.sub (ws' := [(a_ruler, .inr (3, [.ref a_items, .int ruler_start, .int ruler_stretch, .int ruler_shrink, .int ruler_fill, .int ruler_excess]))]) [0] (by decide) rfl
    have hK9 := hK.sub (tys' := []) [] rfl
    exact W.iret (v := 0) hx hb hr (fun t ht hW => ⟨⟨_, (), rfl, rfl, by rw [ht]; exact hP9, va_K.moved hW.alike hK9, hD9⟩, hS.F ht⟩) hS.2.2 dRuler_badness_22
  · have h := om_f g1 h
    refine lv_aload_n hx hb dRuler_badness_7 rfl (lv_at hl 0 rfl) ?_
    refine va_get (D := (dC, dI)) (ci := 3) (v := .int ruler_excess) (C := RRuler) (T := TRuler) (N := 6) hx hb hts (fun w h => om_m (inRuler w h)) hown hK hP 0 rfl rfl 5 (by decide) (hts _ (om_m w_112)) (fun _ h9 => h9) rfl dRuler_badness_8 ?_
    refine lv_if_le (tgt := 23) hx hb dRuler_badness_11 (by decide) (fun g2 => ?_) (fun g2 => ?_)
    · have h := om_t g2 h
      refine lv_aload_n hx hb dRuler_badness_23 rfl (lv_at hl 0 rfl) ?_
      refine va_get (D := (dC, dI)) (ci := 3) (v := .int ruler_excess) (C := RRuler) (T := TRuler) (N := 6) hx hb hts (fun w h => om_m (inRuler w h)) hown hK hP 0 rfl rfl 5 (by decide) (hts _ (om_m w_112)) (fun _ h9 => h9) rfl dRuler_badness_24 ?_
      refine lv_if_le (tgt := 44) hx hb dRuler_badness_27 (by decide) (fun g3 => ?_) (fun g3 => ?_)
      · have h := om_t g3 h
        refine lv_aload_n hx hb dRuler_badness_44 rfl (lv_at hl 0 rfl) ?_
        obtain ⟨u4, hu4, h⟩ := om_b h
        have hPc := hP.sub (ws' := [(a_ruler, .inr (3, [.ref a_items, .int ruler_start, .int ruler_stretch, .int ruler_shrink, .int ruler_fill, .int ruler_excess]))]) [0] rfl
        have hDc := hD.sub (ws' := [(a_ruler, .inr (3, [.ref a_items, .int ruler_start, .int ruler_stretch, .int ruler_shrink, .int ruler_fill, .int ruler_excess]))]) [0] (by decide) rfl
        have hKc := hK.sub (tys' := []) [] rfl
        have hFc := va_free (wc := [(a_ruler, .inr (3, [.ref a_items, .int ruler_start, .int ruler_stretch, .int ruler_shrink, .int ruler_fill, .int ruler_excess]))]) hD hS hA [0] rfl
        refine va_calli (va_runV (As := []) (rest := []) ⟨hx, hb, hml, hown, hts⟩ (om_k_Ruler_isTooLong l dC dI a_ruler a_items s.heap.size ruler_start ruler_stretch ruler_shrink ruler_fill ruler_excess u4 hu4) (cwV 0 hts (om_gv w_426 w_409 w_410 w_7 w_411) rfl rfl rfl (by decide +kernel) ⟨Nat.le_of_ble_eq_true rfl, Nat.le_of_ble_eq_true rfl⟩) ⟨fun a U g mk q => by obtain ⟨q0, q1, qP, qK, qD⟩ := q; exact ⟨q0, q1, qP, va_K.moved (u := U) (U := U.calling g mk a) (Vm.Alike.refl U.vm) qK, qD⟩, va_recv hKc hPc (ci := 3) (q0 := 0) rfl rfl, fun U hU hW => ⟨rfl, by rw [hU], by rw [hU]; exact hPc, va_K.moved hW.alike hKc, hDc.weaken (fun _ _ _ _ => trivial)⟩⟩ rfl rfl hl.1 rfl (lv_room (Nat.le_of_ble_eq_true rfl)) dRuler_badness_45 ⟨Nat.le_of_ble_eq_true rfl, Nat.le_of_ble_eq_true rfl⟩) hS (fun q _ h => hFc q h) hFc (fun r9 uz t H1 locs ht hvm hw hB hz1 hk1 hS => ?_)
        replace hw := hw.symm
        subst hw
        obtain ⟨hP1, hK1, hD1⟩ := hB
        rw [ht] at hP1
        obtain ⟨hP, hD⟩ := va_join (wr := []) (w1 := [(a_ruler, .inr (3, [.ref a_items, .int ruler_start, .int ruler_stretch, .int ruler_shrink, .int ruler_fill, .int ruler_excess]))]) hP hD [0] [] rfl rfl (by decide) (by decide) hk1 hFc hP1 hD1
        generalize H1 = H at hP hS ⊢
        have hP : va_P (dC, dI) vwCl [(a_ruler, .inr (3, [.ref a_items, .int ruler_start, .int ruler_stretch, .int ruler_shrink, .int ruler_fill, .int ruler_excess]))] H := hP
        have hD : va_D A [(a_ruler, .inr (3, [.ref a_items, .int ruler_start, .int ruler_stretch, .int ruler_shrink, .int ruler_fill, .int ruler_excess]))] := hD
        refine W.widen (k := 0) (n := 0) (Nat.le_of_ble_eq_true rfl) (Nat.le_of_ble_eq_true rfl) ?_
        refine lv_if_eq (tgt := 57) hx hb dRuler_badness_48 (by decide) (fun g5 => ?_) (fun g5 => ?_)
        · have h := om_t g5 h
          refine lv_aload_n hx hb dRuler_badness_57 rfl (lv_at hl 0 rfl) ?_
          refine va_get (D := (dC, dI)) (ci := 3) (v := .int ruler_excess) (C := RRuler) (T := TRuler) (N := 6) hx hb hts (fun w h => om_m (inRuler w h)) hown hK hP 0 rfl rfl 5 (by decide) (hts _ (om_m w_112)) (fun _ h9 => h9) rfl dRuler_badness_58 ?_
          refine lv_ineg hx hb dRuler_badness_61 ?_
          refine lv_aload_n hx hb dRuler_badness_62 rfl (lv_at hl 0 rfl) ?_
          refine va_get (D := (dC, dI)) (ci := 3) (v := .int ruler_shrink) (C := RRuler) (T := TRuler) (N := 6) hx hb hts (fun w h => om_m (inRuler w h)) hown hK hP 0 rfl rfl 3 (by decide) (hts _ (om_m w_110)) (fun _ h9 => h9) rfl dRuler_badness_63 ?_
          obtain ⟨u6, hu6, h⟩ := om_b h
          have hPc := hP.sub (ws' := []) [] rfl
          have hDc := hD.sub (ws' := []) [] (by decide) rfl
          have hKc := hK.sub (tys' := []) [] rfl
          have hFc := va_free (wc := []) hD hS hA [] rfl
          refine va_calli (va_runS (As := [.int (-ruler_excess), .int ruler_shrink]) (rest := []) ⟨hx, hb, hml, hown, hts⟩ (om_k_Ruler_badnessOf l dC dI H.size (-ruler_excess) ruler_shrink u6 hu6) (va_cwS 2 hts (om_gs w_419 w_420 w_7 w_421) rfl rfl rfl (by decide +kernel) ⟨Nat.le_of_ble_eq_true rfl, Nat.le_of_ble_eq_true rfl⟩) ⟨fun a U g mk q => by obtain ⟨q0, q1, qP, qK, qD⟩ := q; exact ⟨q0, q1, qP, va_K.moved (u := U) (U := U.calling g mk a) (Vm.Alike.refl U.vm) qK, qD⟩, fun U hU hW => ⟨rfl, by rw [hU], by rw [hU]; exact hPc, va_K.moved hW.alike hKc, hDc.weaken (fun _ _ _ _ => trivial)⟩⟩ rfl rfl hl.1 rfl (lv_room (Nat.le_of_ble_eq_true rfl)) dRuler_badness_66 ⟨Nat.le_of_ble_eq_true rfl, Nat.le_of_ble_eq_true rfl⟩) hS (fun q _ h => hFc q h) hFc (fun r9 uz t H1 locs ht hvm hw hB hz1 hk1 hS => ?_)
          replace hw := hw.symm
          subst hw
          obtain ⟨hP1, hK1, hD1⟩ := hB
          rw [ht] at hP1
          obtain ⟨hP, hD⟩ := va_join (wr := [(a_ruler, .inr (3, [.ref a_items, .int ruler_start, .int ruler_stretch, .int ruler_shrink, .int ruler_fill, .int ruler_excess]))]) (w1 := []) hP hD [] [0] rfl rfl (by decide) (by decide) hk1 hFc hP1 hD1
          generalize H1 = H at hP hS ⊢
          have hP : va_P (dC, dI) vwCl [(a_ruler, .inr (3, [.ref a_items, .int ruler_start, .int ruler_stretch, .int ruler_shrink, .int ruler_fill, .int ruler_excess]))] H := hP
          have hD : va_D A [(a_ruler, .inr (3, [.ref a_items, .int ruler_start, .int ruler_stretch, .int ruler_shrink, .int ruler_fill, .int ruler_excess]))] := hD
          refine W.widen (k := 0) (n := 0) (Nat.le_of_ble_eq_true rfl) (Nat.le_of_ble_eq_true rfl) ?_
          obtain rfl := Option.some.inj h
          have hP9 := hP.sub (ws' := [(a_ruler, .inr (3, [.ref a_items, .int ruler_start, .int ruler_stretch, .int ruler_shrink, .int ruler_fill, .int ruler_excess]))]) [0] rfl
          have hD9 := hD.sub (ws' := [(a_ruler, .inr (3, [.ref a_items, .int ruler_start, .int ruler_stretch, .int ruler_shrink, .int ruler_fill, .int ruler_excess]))]) [0] (by decide) rfl
          have hK9 := hK.sub (tys' := []) [] rfl
          exact W.iret (v := u6) hx hb hr (fun t ht hW => ⟨⟨_, (), rfl, rfl, by rw [ht]; exact hP9, va_K.moved hW.alike hK9, hD9⟩, hS.F ht⟩) hS.2.2 dRuler_badness_69
        · have h := om_f g5 h
          refine lv_sipush (v := 10000) hx hb dRuler_badness_51 (by decide) ?_
          refine lv_goto (tgt := 69) hx hb dRuler_badness_54 (by decide) ?_
          obtain rfl := Option.some.inj h
          have hP9 := hP.sub (ws' := [(a_ruler, .inr (3, [.ref a_items, .int ruler_start, .int ruler_stretch, .int ruler_shrink, .int ruler_fill, .int ruler_excess]))]) [0] rfl
          have hD9 := hD.sub (ws' := [(a_ruler, .inr (3, [.ref a_items, .int ruler_start, .int ruler_stretch, .int ruler_shrink, .int ruler_fill, .int ruler_excess]))]) [0] (by decide) rfl
          have hK9 := hK.sub (tys' := []) [] rfl
          exact W.iret (v := 10000) hx hb hr (fun t ht hW => ⟨⟨_, (), rfl, rfl, by rw [ht]; exact hP9, va_K.moved hW.alike hK9, hD9⟩, hS.F ht⟩) hS.2.2 dRuler_badness_69
      · have h := om_f g3 h
        refine lv_aload_n hx hb dRuler_badness_30 rfl (lv_at hl 0 rfl) ?_
        refine va_get (D := (dC, dI)) (ci := 3) (v := .int ruler_excess) (C := RRuler) (T := TRuler) (N := 6) hx hb hts (fun w h => om_m (inRuler w h)) hown hK hP 0 rfl rfl 5 (by decide) (hts _ (om_m w_112)) (fun _ h9 => h9) rfl dRuler_badness_31 ?_
        refine lv_aload_n hx hb dRuler_badness_34 rfl (lv_at hl 0 rfl) ?_
        refine va_get (D := (dC, dI)) (ci := 3) (v := .int ruler_stretch) (C := RRuler) (T := TRuler) (N := 6) hx hb hts (fun w h => om_m (inRuler w h)) hown hK hP 0 rfl rfl 2 (by decide) (hts _ (om_m w_109)) (fun _ h9 => h9) rfl dRuler_badness_35 ?_
        refine lv_iload_n hx hb dRuler_badness_38 rfl (lv_at hl 1 rfl) ?_
        refine lv_iadd hx hb dRuler_badness_39 ?_
        obtain ⟨u7, hu7, h⟩ := om_b h
        have hPc := hP.sub (ws' := []) [] rfl
        have hDc := hD.sub (ws' := []) [] (by decide) rfl
        have hKc := hK.sub (tys' := []) [] rfl
        have hFc := va_free (wc := []) hD hS hA [] rfl
        refine va_calli (va_runS (As := [.int ruler_excess, .int (ruler_stretch + x1)]) (rest := []) ⟨hx, hb, hml, hown, hts⟩ (om_k_Ruler_badnessOf l dC dI s.heap.size ruler_excess (ruler_stretch + x1) u7 hu7) (va_cwS 2 hts (om_gs w_419 w_420 w_7 w_421) rfl rfl rfl (by decide +kernel) ⟨Nat.le_of_ble_eq_true rfl, Nat.le_of_ble_eq_true rfl⟩) ⟨fun a U g mk q => by obtain ⟨q0, q1, qP, qK, qD⟩ := q; exact ⟨q0, q1, qP, va_K.moved (u := U) (U := U.calling g mk a) (Vm.Alike.refl U.vm) qK, qD⟩, fun U hU hW => ⟨rfl, by rw [hU], by rw [hU]; exact hPc, va_K.moved hW.alike hKc, hDc.weaken (fun _ _ _ _ => trivial)⟩⟩ rfl rfl hl.1 rfl (lv_room (Nat.le_of_ble_eq_true rfl)) dRuler_badness_40 ⟨Nat.le_of_ble_eq_true rfl, Nat.le_of_ble_eq_true rfl⟩) hS (fun q _ h => hFc q h) hFc (fun r9 uz t H1 locs ht hvm hw hB hz1 hk1 hS => ?_)
        replace hw := hw.symm
        subst hw
        obtain ⟨hP1, hK1, hD1⟩ := hB
        rw [ht] at hP1
        obtain ⟨hP, hD⟩ := va_join (wr := [(a_ruler, .inr (3, [.ref a_items, .int ruler_start, .int ruler_stretch, .int ruler_shrink, .int ruler_fill, .int ruler_excess]))]) (w1 := []) hP hD [] [0] rfl rfl (by decide) (by decide) hk1 hFc hP1 hD1
        generalize H1 = H at hP hS ⊢
        have hP : va_P (dC, dI) vwCl [(a_ruler, .inr (3, [.ref a_items, .int ruler_start, .int ruler_stretch, .int ruler_shrink, .int ruler_fill, .int ruler_excess]))] H := hP
        have hD : va_D A [(a_ruler, .inr (3, [.ref a_items, .int ruler_start, .int ruler_stretch, .int ruler_shrink, .int ruler_fill, .int ruler_excess]))] := hD
        refine W.widen (k := 0) (n := 0) (Nat.le_of_ble_eq_true rfl) (Nat.le_of_ble_eq_true rfl) ?_
        obtain rfl := Option.some.inj h
        have hP9 := hP.sub (ws' := [(a_ruler, .inr (3, [.ref a_items, .int ruler_start, .int ruler_stretch, .int ruler_shrink, .int ruler_fill, .int ruler_excess]))]) [0] rfl
        have hD9 := hD.sub (ws' := [(a_ruler, .inr (3, [.ref a_items, .int ruler_start, .int ruler_stretch, .int ruler_shrink, .int ruler_fill, .int ruler_excess]))]) [0] (by decide) rfl
        have hK9 := hK.sub (tys' := []) [] rfl
        exact W.iret (v := u7) hx hb hr (fun t ht hW => ⟨⟨_, (), rfl, rfl, by rw [ht]; exact hP9, va_K.moved hW.alike hK9, hD9⟩, hS.F ht⟩) hS.2.2 dRuler_badness_43
    · have h := om_f g2 h
      refine lv_aload_n hx hb dRuler_badness_14 rfl (lv_at hl 0 rfl) ?_
      refine va_get (D := (dC, dI)) (ci := 3) (v := .int ruler_fill) (C := RRuler) (T := TRuler) (N := 6) hx hb hts (fun w h => om_m (inRuler w h)) hown hK hP 0 rfl rfl 4 (by decide) (hts _ (om_m w_111)) (fun _ h9 => h9) rfl dRuler_badness_15 ?_
      refine lv_if_le (tgt := 23) hx hb dRuler_badness_18 (by decide) (fun g8 => ?_) (fun g8 => ?_)
      · have h := om_t g8 h
        refine lv_aload_n hx hb dRuler_badness_23 rfl (lv_at hl 0 rfl) ?_
        refine va_get (D := (dC, dI)) (ci := 3) (v := .int ruler_excess) (C := RRuler) (T := TRuler) (N := 6) hx hb hts (fun w h => om_m (inRuler w h)) hown hK hP 0 rfl rfl 5 (by decide) (hts _ (om_m w_112)) (fun _ h9 => h9) rfl dRuler_badness_24 ?_
        refine lv_if_le (tgt := 44) hx hb dRuler_badness_27 (by decide) (fun g9 => ?_) (fun g9 => ?_)
        · have h := om_t g9 h
          refine lv_aload_n hx hb dRuler_badness_44 rfl (lv_at hl 0 rfl) ?_
          obtain ⟨u10, hu10, h⟩ := om_b h
          have hPc := hP.sub (ws' := [(a_ruler, .inr (3, [.ref a_items, .int ruler_start, .int ruler_stretch, .int ruler_shrink, .int ruler_fill, .int ruler_excess]))]) [0] rfl
          have hDc := hD.sub (ws' := [(a_ruler, .inr (3, [.ref a_items, .int ruler_start, .int ruler_stretch, .int ruler_shrink, .int ruler_fill, .int ruler_excess]))]) [0] (by decide) rfl
          have hKc := hK.sub (tys' := []) [] rfl
          have hFc := va_free (wc := [(a_ruler, .inr (3, [.ref a_items, .int ruler_start, .int ruler_stretch, .int ruler_shrink, .int ruler_fill, .int ruler_excess]))]) hD hS hA [0] rfl
          refine va_calli (va_runV (As := []) (rest := []) ⟨hx, hb, hml, hown, hts⟩ (om_k_Ruler_isTooLong l dC dI a_ruler a_items s.heap.size ruler_start ruler_stretch ruler_shrink ruler_fill ruler_excess u10 hu10) (cwV 0 hts (om_gv w_426 w_409 w_410 w_7 w_411) rfl rfl rfl (by decide +kernel) ⟨Nat.le_of_ble_eq_true rfl, Nat.le_of_ble_eq_true rfl⟩) ⟨fun a U g mk q => by obtain ⟨q0, q1, qP, qK, qD⟩ := q; exact ⟨q0, q1, qP, va_K.moved (u := U) (U := U.calling g mk a) (Vm.Alike.refl U.vm) qK, qD⟩, va_recv hKc hPc (ci := 3) (q0 := 0) rfl rfl, fun U hU hW => ⟨rfl, by rw [hU], by rw [hU]; exact hPc, va_K.moved hW.alike hKc, hDc.weaken (fun _ _ _ _ => trivial)⟩⟩ rfl rfl hl.1 rfl (lv_room (Nat.le_of_ble_eq_true rfl)) dRuler_badness_45 ⟨Nat.le_of_ble_eq_true rfl, Nat.le_of_ble_eq_true rfl⟩) hS (fun q _ h => hFc q h) hFc (fun r9 uz t H1 locs ht hvm hw hB hz1 hk1 hS => ?_)
          replace hw := hw.symm
          subst hw
          obtain ⟨hP1, hK1, hD1⟩ := hB
          rw [ht] at hP1
          obtain ⟨hP, hD⟩ := va_join (wr := []) (w1 := [(a_ruler, .inr (3, [.ref a_items, .int ruler_start, .int ruler_stretch, .int ruler_shrink, .int ruler_fill, .int ruler_excess]))]) hP hD [0] [] rfl rfl (by decide) (by decide) hk1 hFc hP1 hD1
          generalize H1 = H at hP hS ⊢
          have hP : va_P (dC, dI) vwCl [(a_ruler, .inr (3, [.ref a_items, .int ruler_start, .int ruler_stretch, .int ruler_shrink, .int ruler_fill, .int ruler_excess]))] H := hP
          have hD : va_D A [(a_ruler, .inr (3, [.ref a_items, .int ruler_start, .int ruler_stretch, .int ruler_shrink, .int ruler_fill, .int ruler_excess]))] := hD
          refine W.widen (k := 0) (n := 0) (Nat.le_of_ble_eq_true rfl) (Nat.le_of_ble_eq_true rfl) ?_
          refine lv_if_eq (tgt := 57) hx hb dRuler_badness_48 (by decide) (fun g11 => ?_) (fun g11 => ?_)
          · have h := om_t g11 h
            refine lv_aload_n hx hb dRuler_badness_57 rfl (lv_at hl 0 rfl) ?_
            refine va_get (D := (dC, dI)) (ci := 3) (v := .int ruler_excess) (C := RRuler) (T := TRuler) (N := 6) hx hb hts (fun w h => om_m (inRuler w h)) hown hK hP 0 rfl rfl 5 (by decide) (hts _ (om_m w_112)) (fun _ h9 => h9) rfl dRuler_badness_58 ?_
            refine lv_ineg hx hb dRuler_badness_61 ?_
            refine lv_aload_n hx hb dRuler_badness_62 rfl (lv_at hl 0 rfl) ?_
            refine va_get (D := (dC, dI)) (ci := 3) (v := .int ruler_shrink) (C := RRuler) (T := TRuler) (N := 6) hx hb hts (fun w h => om_m (inRuler w h)) hown hK hP 0 rfl rfl 3 (by decide) (hts _ (om_m w_110)) (fun _ h9 => h9) rfl dRuler_badness_63 ?_
            obtain ⟨u12, hu12, h⟩ := om_b h
            have hPc := hP.sub (ws' := []) [] rfl
            have hDc := hD.sub (ws' := []) [] (by decide) rfl
            have hKc := hK.sub (tys' := []) [] rfl
            have hFc := va_free (wc := []) hD hS hA [] rfl
            refine va_calli (va_runS (As := [.int (-ruler_excess), .int ruler_shrink]) (rest := []) ⟨hx, hb, hml, hown, hts⟩ (om_k_Ruler_badnessOf l dC dI H.size (-ruler_excess) ruler_shrink u12 hu12) (va_cwS 2 hts (om_gs w_419 w_420 w_7 w_421) rfl rfl rfl (by decide +kernel) ⟨Nat.le_of_ble_eq_true rfl, Nat.le_of_ble_eq_true rfl⟩) ⟨fun a U g mk q => by obtain ⟨q0, q1, qP, qK, qD⟩ := q; exact ⟨q0, q1, qP, va_K.moved (u := U) (U := U.calling g mk a) (Vm.Alike.refl U.vm) qK, qD⟩, fun U hU hW => ⟨rfl, by rw [hU], by rw [hU]; exact hPc, va_K.moved hW.alike hKc, hDc.weaken (fun _ _ _ _ => trivial)⟩⟩ rfl rfl hl.1 rfl (lv_room (Nat.le_of_ble_eq_true rfl)) dRuler_badness_66 ⟨Nat.le_of_ble_eq_true rfl, Nat.le_of_ble_eq_true rfl⟩) hS (fun q _ h => hFc q h) hFc (fun r9 uz t H1 locs ht hvm hw hB hz1 hk1 hS => ?_)
            replace hw := hw.symm
            subst hw
            obtain ⟨hP1, hK1, hD1⟩ := hB
            rw [ht] at hP1
            obtain ⟨hP, hD⟩ := va_join (wr := [(a_ruler, .inr (3, [.ref a_items, .int ruler_start, .int ruler_stretch, .int ruler_shrink, .int ruler_fill, .int ruler_excess]))]) (w1 := []) hP hD [] [0] rfl rfl (by decide) (by decide) hk1 hFc hP1 hD1
            generalize H1 = H at hP hS ⊢
            have hP : va_P (dC, dI) vwCl [(a_ruler, .inr (3, [.ref a_items, .int ruler_start, .int ruler_stretch, .int ruler_shrink, .int ruler_fill, .int ruler_excess]))] H := hP
            have hD : va_D A [(a_ruler, .inr (3, [.ref a_items, .int ruler_start, .int ruler_stretch, .int ruler_shrink, .int ruler_fill, .int ruler_excess]))] := hD
            refine W.widen (k := 0) (n := 0) (Nat.le_of_ble_eq_true rfl) (Nat.le_of_ble_eq_true rfl) ?_
            obtain rfl := Option.some.inj h
            have hP9 := hP.sub (ws' := [(a_ruler, .inr (3, [.ref a_items, .int ruler_start, .int ruler_stretch, .int ruler_shrink, .int ruler_fill, .int ruler_excess]))]) [0] rfl
            have hD9 := hD.sub (ws' := [(a_ruler, .inr (3, [.ref a_items, .int ruler_start, .int ruler_stretch, .int ruler_shrink, .int ruler_fill, .int ruler_excess]))]) [0] (by decide) rfl
            have hK9 := hK.sub (tys' := []) [] rfl
            exact W.iret (v := u12) hx hb hr (fun t ht hW => ⟨⟨_, (), rfl, rfl, by rw [ht]; exact hP9, va_K.moved hW.alike hK9, hD9⟩, hS.F ht⟩) hS.2.2 dRuler_badness_69
          · have h := om_f g11 h
            refine lv_sipush (v := 10000) hx hb dRuler_badness_51 (by decide) ?_
            refine lv_goto (tgt := 69) hx hb dRuler_badness_54 (by decide) ?_
            obtain rfl := Option.some.inj h
            have hP9 := hP.sub (ws' := [(a_ruler, .inr (3, [.ref a_items, .int ruler_start, .int ruler_stretch, .int ruler_shrink, .int ruler_fill, .int ruler_excess]))]) [0] rfl
            have hD9 := hD.sub (ws' := [(a_ruler, .inr (3, [.ref a_items, .int ruler_start, .int ruler_stretch, .int ruler_shrink, .int ruler_fill, .int ruler_excess]))]) [0] (by decide) rfl
            have hK9 := hK.sub (tys' := []) [] rfl
            exact W.iret (v := 10000) hx hb hr (fun t ht hW => ⟨⟨_, (), rfl, rfl, by rw [ht]; exact hP9, va_K.moved hW.alike hK9, hD9⟩, hS.F ht⟩) hS.2.2 dRuler_badness_69
        · have h := om_f g9 h
          refine lv_aload_n hx hb dRuler_badness_30 rfl (lv_at hl 0 rfl) ?_
          refine va_get (D := (dC, dI)) (ci := 3) (v := .int ruler_excess) (C := RRuler) (T := TRuler) (N := 6) hx hb hts (fun w h => om_m (inRuler w h)) hown hK hP 0 rfl rfl 5 (by decide) (hts _ (om_m w_112)) (fun _ h9 => h9) rfl dRuler_badness_31 ?_
          refine lv_aload_n hx hb dRuler_badness_34 rfl (lv_at hl 0 rfl) ?_
          refine va_get (D := (dC, dI)) (ci := 3) (v := .int ruler_stretch) (C := RRuler) (T := TRuler) (N := 6) hx hb hts (fun w h => om_m (inRuler w h)) hown hK hP 0 rfl rfl 2 (by decide) (hts _ (om_m w_109)) (fun _ h9 => h9) rfl dRuler_badness_35 ?_
          refine lv_iload_n hx hb dRuler_badness_38 rfl (lv_at hl 1 rfl) ?_
          refine lv_iadd hx hb dRuler_badness_39 ?_
          obtain ⟨u13, hu13, h⟩ := om_b h
          have hPc := hP.sub (ws' := []) [] rfl
          have hDc := hD.sub (ws' := []) [] (by decide) rfl
          have hKc := hK.sub (tys' := []) [] rfl
          have hFc := va_free (wc := []) hD hS hA [] rfl
          refine va_calli (va_runS (As := [.int ruler_excess, .int (ruler_stretch + x1)]) (rest := []) ⟨hx, hb, hml, hown, hts⟩ (om_k_Ruler_badnessOf l dC dI s.heap.size ruler_excess (ruler_stretch + x1) u13 hu13) (va_cwS 2 hts (om_gs w_419 w_420 w_7 w_421) rfl rfl rfl (by decide +kernel) ⟨Nat.le_of_ble_eq_true rfl, Nat.le_of_ble_eq_true rfl⟩) ⟨fun a U g mk q => by obtain ⟨q0, q1, qP, qK, qD⟩ := q; exact ⟨q0, q1, qP, va_K.moved (u := U) (U := U.calling g mk a) (Vm.Alike.refl U.vm) qK, qD⟩, fun U hU hW => ⟨rfl, by rw [hU], by rw [hU]; exact hPc, va_K.moved hW.alike hKc, hDc.weaken (fun _ _ _ _ => trivial)⟩⟩ rfl rfl hl.1 rfl (lv_room (Nat.le_of_ble_eq_true rfl)) dRuler_badness_40 ⟨Nat.le_of_ble_eq_true rfl, Nat.le_of_ble_eq_true rfl⟩) hS (fun q _ h => hFc q h) hFc (fun r9 uz t H1 locs ht hvm hw hB hz1 hk1 hS => ?_)
          replace hw := hw.symm
          subst hw
          obtain ⟨hP1, hK1, hD1⟩ := hB
          rw [ht] at hP1
          obtain ⟨hP, hD⟩ := va_join (wr := [(a_ruler, .inr (3, [.ref a_items, .int ruler_start, .int ruler_stretch, .int ruler_shrink, .int ruler_fill, .int ruler_excess]))]) (w1 := []) hP hD [] [0] rfl rfl (by decide) (by decide) hk1 hFc hP1 hD1
          generalize H1 = H at hP hS ⊢
          have hP : va_P (dC, dI) vwCl [(a_ruler, .inr (3, [.ref a_items, .int ruler_start, .int ruler_stretch, .int ruler_shrink, .int ruler_fill, .int ruler_excess]))] H := hP
          have hD : va_D A [(a_ruler, .inr (3, [.ref a_items, .int ruler_start, .int ruler_stretch, .int ruler_shrink, .int ruler_fill, .int ruler_excess]))] := hD
          refine W.widen (k := 0) (n := 0) (Nat.le_of_ble_eq_true rfl) (Nat.le_of_ble_eq_true rfl) ?_
          obtain rfl := Option.some.inj h
          have hP9 := hP.sub (ws' := [(a_ruler, .inr (3, [.ref a_items, .int ruler_start, .int ruler_stretch, .int ruler_shrink, .int ruler_fill, .int ruler_excess]))]) [0] rfl
          have hD9 := hD.sub (ws' := [(a_ruler, .inr (3, [.ref a_items, .int ruler_start, .int ruler_stretch, .int ruler_shrink, .int ruler_fill, .int ruler_excess]))]) [0] (by decide) rfl
          have hK9 := hK.sub (tys' := []) [] rfl
          exact W.iret (v := u13) hx hb hr (fun t ht hW => ⟨⟨_, (), rfl, rfl, by rw [ht]; exact hP9, va_K.moved hW.alike hK9, hD9⟩, hS.F ht⟩) hS.2.2 dRuler_badness_43
      · have h := om_f g8 h
        refine lv_iconst (v := 0) hx hb dRuler_badness_21 (by decide) ?_
        obtain rfl := Option.some.inj h
        have hP9 := hP.sub (ws' := [(a_ruler, .inr (3, [.ref a_items, .int ruler_start, .int ruler_stretch, .int ruler_shrink, .int ruler_fill, .int ruler_excess]))]) [0] rfl
        have hD9 := hD.sub (ws' := [(a_ruler, .inr (3, [.ref a_items, .int ruler_start, .int ruler_stretch, .int ruler_shrink, .int ruler_fill, .int ruler_excess]))]) [0] (by decide) rfl
        have hK9 := hK.sub (tys' := []) [] rfl
        exact W.iret (v := 0) hx hb hr (fun t ht hW => ⟨⟨_, (), rfl, rfl, by rw [ht]; exact hP9, va_K.moved hW.alike hK9, hD9⟩, hS.F ht⟩) hS.2.2 dRuler_badness_22
def om_f_Ruler_fitness (ruler_excess : Int32) (x1 : Int32) : Option Int32 := if 0 ≤ ruler_excess then if 12 < x1 then if 99 < x1 then some 0 else some 1 else some 2 else if x1 ≤ 12 then some 2 else some 3
set_option maxHeartbeats 4000000 in
set_option maxRecDepth 100000 in
theorem om_k_Ruler_fitness (l : Launch) (dC : Nat → ClassId) (dI : Nat → Nat → Nat) (a_ruler : Nat) (a_items : Nat)   (sz : Nat) (ruler_start : Int32) (ruler_stretch : Int32) (ruler_shrink : Int32) (ruler_fill : Int32) (ruler_excess : Int32) (x1 : Int32) (o : Int32) (h : om_f_Ruler_fitness ruler_excess x1 = some o) : Met l yRuler_fitness wsRuler_fitness ({ frames := 0, cells := 0, slots := 0, locals := 0 }) (va_Pc [.ref a_ruler, .int x1] (fun U => U.heap.size = sz ∧ va_P (dC, dI) vwCl [(a_ruler, .inr (3, [.ref a_items, .int ruler_start, .int ruler_stretch, .int ruler_shrink, .int ruler_fill, .int ruler_excess]))] U.heap ∧ va_K (dC, dI) vwCl [] U ∧ va_D (fun _ => True) [(a_ruler, .inr (3, [.ref a_items, .int ruler_start, .int ruler_stretch, .int ruler_shrink, .int ruler_fill, .int ruler_excess]))])) (va_Qi (fun (r : Int32) (_ : Unit) => r = o) (fun (_ : Unit) t => va_P (dC, dI) vwCl [(a_ruler, .inr (3, [.ref a_items, .int ruler_start, .int ruler_stretch, .int ruler_shrink, .int ruler_fill, .int ruler_excess]))] t.heap ∧ va_K (dC, dI) vwCl [] t ∧ va_D (va_A [(a_ruler, .inr (3, [.ref a_items, .int ruler_start, .int ruler_stretch, .int ruler_shrink, .int ruler_fill, .int ruler_excess]))] sz) [(a_ruler, .inr (3, [.ref a_items, .int ruler_start, .int ruler_stretch, .int ruler_shrink, .int ruler_fill, .int ruler_excess]))]) (va_A [(a_ruler, .inr (3, [.ref a_items, .int ruler_start, .int ruler_stretch, .int ruler_shrink, .int ruler_fill, .int ruler_excess]))] sz)) 0 0 (va_A [(a_ruler, .inr (3, [.ref a_items, .int ruler_start, .int ruler_stretch, .int ruler_shrink, .int ruler_fill, .int ruler_excess]))] sz) := by
  refine Met.ofW (cc := cRuler_fitness) (maxL := 2) (ret := (some .int)) (by decide) rfl ?_
  intro p e s m args below meth c s₁ B hml hv
  obtain ⟨rfl, hsz, hP, hK, hD0⟩ := hv
  have hx := B.exec
  have hb := B.bytes
  have hr := B.returns
  have hts := atoms_spec (ws := wsRuler_fitness) B.pre
  have hown : s.vm.findClass RRuler = some m.cls := findClass_of_methodNamed B.named
  have hlocks := B.notSynchronized
  subst hsz
  have hD := hD0.self (sz := s.heap.size)
  generalize hAe : va_A [(a_ruler, .inr (3, [.ref a_items, .int ruler_start, .int ruler_stretch, .int ruler_shrink, .int ruler_fill, .int ruler_excess]))] s.heap.size = A at hD ⊢
  have hA : ∀ q : Nat, s.heap.size ≤ q → A q := fun q h => by rw [← hAe]; exact Or.inr h
  have hS : va_S A s.heap s.heap [] := va_S.rf
  have hP : va_P (dC, dI) vwCl [(a_ruler, .inr (3, [.ref a_items, .int ruler_start, .int ruler_stretch, .int ruler_shrink, .int ruler_fill, .int ruler_excess]))] s.heap := hP
  have hl := lv_entry ([.ref a_ruler, .int x1]) (n := 2) (Nat.le_of_ble_eq_true rfl)
  rw [lg_entry_eq]
  generalize (lg_sl ([.ref a_ruler, .int x1]) ++ List.replicate (2 - (lg_sl ([.ref a_ruler, .int x1])).length) Slot.unset).toArray = ls at hl ⊢
  have hl : lv_has ls 2 [(0, .ref a_ruler), (1, .int x1)] := hl
  unfold om_f_Ruler_fitness at h
  refine lv_aload_n hx hb dRuler_fitness_0 rfl (lv_at hl 0 rfl) ?_
  refine va_get (D := (dC, dI)) (ci := 3) (v := .int ruler_excess) (C := RRuler) (T := TRuler) (N := 6) hx hb hts (fun w h => om_m (inRuler w h)) hown hK hP 0 rfl rfl 5 (by decide) (hts _ (om_m w_112)) (fun _ h9 => h9) rfl dRuler_fitness_1 ?_
  refine lv_if_ge (tgt := 19) hx hb dRuler_fitness_4 (by decide) (fun g1 => ?_) (fun g1 => ?_)
  · have h := om_t g1 h
    refine lv_iload_n hx hb dRuler_fitness_19 rfl (lv_at hl 1 rfl) ?_
    refine lv_bipush (v := 12) hx hb dRuler_fitness_20 (by decide) ?_
    refine lv_icmp_gt (tgt := 27) hx hb dRuler_fitness_22 (by decide) (fun g2 => ?_) (fun g2 => ?_)
    · have h := om_t g2 h
      refine lv_iload_n hx hb dRuler_fitness_27 rfl (lv_at hl 1 rfl) ?_
      refine lv_bipush (v := 99) hx hb dRuler_fitness_28 (by decide) ?_
      refine lv_icmp_gt (tgt := 37) hx hb dRuler_fitness_30 (by decide) (fun g3 => ?_) (fun g3 => ?_)
      · have h := om_t g3 h
        refine lv_iconst (v := 0) hx hb dRuler_fitness_37 (by decide) ?_
        obtain rfl := Option.some.inj h
        have hP9 := hP.sub (ws' := [(a_ruler, .inr (3, [.ref a_items, .int ruler_start, .int ruler_stretch, .int ruler_shrink, .int ruler_fill, .int ruler_excess]))]) [0] rfl
        have hD9 := hD.sub (ws' := [(a_ruler, .inr (3, [.ref a_items, .int ruler_start, .int ruler_stretch, .int ruler_shrink, .int ruler_fill, .int ruler_excess]))]) [0] (by decide) rfl
        have hK9 := hK.sub (tys' := []) [] rfl
        exact W.iret (v := 0) hx hb hr (fun t ht hW => ⟨⟨_, (), rfl, rfl, by rw [ht]; exact hP9, va_K.moved hW.alike hK9, hD9⟩, hS.F ht⟩) hS.2.2 dRuler_fitness_38
      · have h := om_f g3 h
        refine lv_iconst (v := 1) hx hb dRuler_fitness_33 (by decide) ?_
        refine lv_goto (tgt := 38) hx hb dRuler_fitness_34 (by decide) ?_
        obtain rfl := Option.some.inj h
        have hP9 := hP.sub (ws' := [(a_ruler, .inr (3, [.ref a_items, .int ruler_start, .int ruler_stretch, .int ruler_shrink, .int ruler_fill, .int ruler_excess]))]) [0] rfl
        have hD9 := hD.sub (ws' := [(a_ruler, .inr (3, [.ref a_items, .int ruler_start, .int ruler_stretch, .int ruler_shrink, .int ruler_fill, .int ruler_excess]))]) [0] (by decide) rfl
        have hK9 := hK.sub (tys' := []) [] rfl
        exact W.iret (v := 1) hx hb hr (fun t ht hW => ⟨⟨_, (), rfl, rfl, by rw [ht]; exact hP9, va_K.moved hW.alike hK9, hD9⟩, hS.F ht⟩) hS.2.2 dRuler_fitness_38
    · have h := om_f g2 h
      refine lv_iconst (v := 2) hx hb dRuler_fitness_25 (by decide) ?_
      obtain rfl := Option.some.inj h
      have hP9 := hP.sub (ws' := [(a_ruler, .inr (3, [.ref a_items, .int ruler_start, .int ruler_stretch, .int ruler_shrink, .int ruler_fill, .int ruler_excess]))]) [0] rfl
      have hD9 := hD.sub (ws' := [(a_ruler, .inr (3, [.ref a_items, .int ruler_start, .int ruler_stretch, .int ruler_shrink, .int ruler_fill, .int ruler_excess]))]) [0] (by decide) rfl
      have hK9 := hK.sub (tys' := []) [] rfl
      exact W.iret (v := 2) hx hb hr (fun t ht hW => ⟨⟨_, (), rfl, rfl, by rw [ht]; exact hP9, va_K.moved hW.alike hK9, hD9⟩, hS.F ht⟩) hS.2.2 dRuler_fitness_26
  · have h := om_f g1 h
    refine lv_iload_n hx hb dRuler_fitness_7 rfl (lv_at hl 1 rfl) ?_
    refine lv_bipush (v := 12) hx hb dRuler_fitness_8 (by decide) ?_
    refine lv_icmp_le (tgt := 17) hx hb dRuler_fitness_10 (by decide) (fun g4 => ?_) (fun g4 => ?_)
    · have h := om_t g4 h
      refine lv_iconst (v := 2) hx hb dRuler_fitness_17 (by decide) ?_
      obtain rfl := Option.some.inj h
      have hP9 := hP.sub (ws' := [(a_ruler, .inr (3, [.ref a_items, .int ruler_start, .int ruler_stretch, .int ruler_shrink, .int ruler_fill, .int ruler_excess]))]) [0] rfl
      have hD9 := hD.sub (ws' := [(a_ruler, .inr (3, [.ref a_items, .int ruler_start, .int ruler_stretch, .int ruler_shrink, .int ruler_fill, .int ruler_excess]))]) [0] (by decide) rfl
      have hK9 := hK.sub (tys' := []) [] rfl
      exact W.iret (v := 2) hx hb hr (fun t ht hW => ⟨⟨_, (), rfl, rfl, by rw [ht]; exact hP9, va_K.moved hW.alike hK9, hD9⟩, hS.F ht⟩) hS.2.2 dRuler_fitness_18
    · have h := om_f g4 h
      refine lv_iconst (v := 3) hx hb dRuler_fitness_13 (by decide) ?_
      refine lv_goto (tgt := 18) hx hb dRuler_fitness_14 (by decide) ?_
      obtain rfl := Option.some.inj h
      have hP9 := hP.sub (ws' := [(a_ruler, .inr (3, [.ref a_items, .int ruler_start, .int ruler_stretch, .int ruler_shrink, .int ruler_fill, .int ruler_excess]))]) [0] rfl
      have hD9 := hD.sub (ws' := [(a_ruler, .inr (3, [.ref a_items, .int ruler_start, .int ruler_stretch, .int ruler_shrink, .int ruler_fill, .int ruler_excess]))]) [0] (by decide) rfl
      have hK9 := hK.sub (tys' := []) [] rfl
      exact W.iret (v := 3) hx hb hr (fun t ht hW => ⟨⟨_, (), rfl, rfl, by rw [ht]; exact hP9, va_K.moved hW.alike hK9, hD9⟩, hS.F ht⟩) hS.2.2 dRuler_fitness_18
def om_f_Ruler_share (x0 : Int32) (x1 : Int32) (x2 : Int32) : Option Int32 := if 0 < x2 then if ¬ x2.toInt64 = 0 then some (((x0.toInt64 * x1.toInt64) / x2.toInt64).toInt32) else none else some 0
set_option maxHeartbeats 4000000 in
set_option maxRecDepth 100000 in
theorem om_k_Ruler_share (l : Launch) (dC : Nat → ClassId) (dI : Nat → Nat → Nat)    (sz : Nat)  (x0 : Int32) (x1 : Int32) (x2 : Int32) (o : Int32) (h : om_f_Ruler_share x0 x1 x2 = some o) : Met l yRuler_share wsRuler_share ({ frames := 0, cells := 0, slots := 0, locals := 0 }) (va_Pc [.int x0, .int x1, .int x2] (fun U => U.heap.size = sz ∧ va_P (dC, dI) vwCl [] U.heap ∧ va_K (dC, dI) vwCl [] U ∧ va_D (fun _ => True) [])) (va_Qi (fun (r : Int32) (_ : Unit) => r = o) (fun (_ : Unit) t => va_P (dC, dI) vwCl [] t.heap ∧ va_K (dC, dI) vwCl [] t ∧ va_D (va_A [] sz) []) (va_A [] sz)) 0 0 (va_A [] sz) := by
  refine Met.ofW (cc := cRuler_share) (maxL := 3) (ret := (some .int)) (by decide) rfl ?_
  intro p e s m args below meth c s₁ B hml hv
  obtain ⟨rfl, hsz, hP, hK, hD0⟩ := hv
  have hx := B.exec
  have hb := B.bytes
  have hr := B.returns
  have hts := atoms_spec (ws := wsRuler_share) B.pre
  have hown : s.vm.findClass RRuler = some m.cls := findClass_of_methodNamed B.named
  have hlocks := B.notSynchronized
  subst hsz
  have hD := hD0.self (sz := s.heap.size)
  generalize hAe : va_A [] s.heap.size = A at hD ⊢
  have hA : ∀ q : Nat, s.heap.size ≤ q → A q := fun q h => by rw [← hAe]; exact Or.inr h
  have hS : va_S A s.heap s.heap [] := va_S.rf
  have hP : va_P (dC, dI) vwCl [] s.heap := hP
  have hl := lv_entry ([.int x0, .int x1, .int x2]) (n := 3) (Nat.le_of_ble_eq_true rfl)
  rw [lg_entry_eq]
  generalize (lg_sl ([.int x0, .int x1, .int x2]) ++ List.replicate (3 - (lg_sl ([.int x0, .int x1, .int x2])).length) Slot.unset).toArray = ls at hl ⊢
  have hl : lv_has ls 3 [(0, .int x0), (1, .int x1), (2, .int x2)] := hl
  unfold om_f_Ruler_share at h
  refine lv_iload_n hx hb dRuler_share_0 rfl (lv_at hl 2 rfl) ?_
  refine lv_if_gt (tgt := 8) hx hb dRuler_share_1 (by decide) (fun g1 => ?_) (fun g1 => ?_)
  · have h := om_t g1 h
    refine lv_iload_n hx hb dRuler_share_8 rfl (lv_at hl 0 rfl) ?_
    refine lv_i2l hx hb dRuler_share_9 rfl ?_
    refine lv_iload_n hx hb dRuler_share_10 rfl (lv_at hl 1 rfl) ?_
    refine lv_i2l hx hb dRuler_share_11 rfl ?_
    refine lv_lmul hx hb dRuler_share_12 ?_
    refine lv_iload_n hx hb dRuler_share_13 rfl (lv_at hl 2 rfl) ?_
    refine lv_i2l hx hb dRuler_share_14 rfl ?_
    obtain ⟨hz, h⟩ := om_g h
    refine lv_ldiv hx hb dRuler_share_15 hz ?_
    refine lv_l2i hx hb dRuler_share_16 rfl ?_
    obtain rfl := Option.some.inj h
    have hP9 := hP.sub (ws' := []) [] rfl
    have hD9 := hD.sub (ws' := []) [] (by decide) rfl
    have hK9 := hK.sub (tys' := []) [] rfl
    exact W.iret (v := ((x0.toInt64 * x1.toInt64) / x2.toInt64).toInt32) hx hb hr (fun t ht hW => ⟨⟨_, (), rfl, rfl, by rw [ht]; exact hP9, va_K.moved hW.alike hK9, hD9⟩, hS.F ht⟩) hS.2.2 dRuler_share_17
  · have h := om_f g1 h
    refine lv_iconst (v := 0) hx hb dRuler_share_4 (by decide) ?_
    refine lv_goto (tgt := 17) hx hb dRuler_share_5 (by decide) ?_
    obtain rfl := Option.some.inj h
    have hP9 := hP.sub (ws' := []) [] rfl
    have hD9 := hD.sub (ws' := []) [] (by decide) rfl
    have hK9 := hK.sub (tys' := []) [] rfl
    exact W.iret (v := 0) hx hb hr (fun t ht hW => ⟨⟨_, (), rfl, rfl, by rw [ht]; exact hP9, va_K.moved hW.alike hK9, hD9⟩, hS.F ht⟩) hS.2.2 dRuler_share_17
def om_f_Ruler_partBefore (items_stretchBefore : (Nat → Int32)) (items_shrinkBefore : (Nat → Int32)) (items_fillBefore : (Nat → Int32)) (ruler_start : Int32) (ruler_stretch : Int32) (ruler_shrink : Int32) (ruler_fill : Int32) (ruler_excess : Int32) (x1 : Int32) : Option Int32 := if ruler_excess ≤ 0 then if ruler_excess ≤ 0 then if om_in x1 401 = true then if om_in ruler_start 401 = true then (om_f_Ruler_share (if ruler_shrink < (-ruler_excess) then ruler_shrink else (-ruler_excess)) ((items_shrinkBefore x1.toNatClampNeg) - (items_shrinkBefore ruler_start.toNatClampNeg)) ruler_shrink).bind fun u3 => some (-u3) else none else none else if om_in x1 401 = true then if om_in ruler_start 401 = true then (om_f_Ruler_share ruler_excess ((items_stretchBefore x1.toNatClampNeg) - (items_stretchBefore ruler_start.toNatClampNeg)) ruler_stretch).bind fun u4 => some u4 else none else none else if ruler_fill ≤ 0 then if ruler_excess ≤ 0 then if om_in x1 401 = true then if om_in ruler_start 401 = true then (om_f_Ruler_share (if ruler_shrink < (-ruler_excess) then ruler_shrink else (-ruler_excess)) ((items_shrinkBefore x1.toNatClampNeg) - (items_shrinkBefore ruler_start.toNatClampNeg)) ruler_shrink).bind fun u7 => some (-u7) else none else none else if om_in x1 401 = true then if om_in ruler_start 401 = true then (om_f_Ruler_share ruler_excess ((items_stretchBefore x1.toNatClampNeg) - (items_stretchBefore ruler_start.toNatClampNeg)) ruler_stretch).bind fun u8 => some u8 else none else none else if om_in x1 401 = true then if om_in ruler_start 401 = true then (om_f_Ruler_share ruler_excess ((items_fillBefore x1.toNatClampNeg) - (items_fillBefore ruler_start.toNatClampNeg)) ruler_fill).bind fun u9 => some u9 else none else none
set_option maxHeartbeats 4000000 in
set_option maxRecDepth 100000 in
theorem om_k_Ruler_partBefore (l : Launch) (dC : Nat → ClassId) (dI : Nat → Nat → Nat) (a_items : Nat) (a_items_stretchBefore : Nat) (a_items_shrinkBefore : Nat) (a_items_fillBefore : Nat) (a_ruler : Nat) (a_items_kinds : Nat) (a_items_penaltyWidths : Nat) (a_items_costs : Nat) (a_items_flags : Nat) (a_items_widthBefore : Nat) (c_items_stretchBefore : ClassId) (c_items_shrinkBefore : ClassId) (c_items_fillBefore : ClassId)  (sz : Nat) (items_count : Int32) (items_stretchBefore : (Nat → Int32)) (items_shrinkBefore : (Nat → Int32)) (items_fillBefore : (Nat → Int32)) (ruler_start : Int32) (ruler_stretch : Int32) (ruler_shrink : Int32) (ruler_fill : Int32) (ruler_excess : Int32) (x1 : Int32) (o : Int32) (h : om_f_Ruler_partBefore items_stretchBefore items_shrinkBefore items_fillBefore ruler_start ruler_stretch ruler_shrink ruler_fill ruler_excess x1 = some o) : Met l yRuler_partBefore wsRuler_partBefore ({ frames := 1, cells := 0, slots := 0, locals := 22 }) (va_Pc [.ref a_ruler, .int x1] (fun U => U.heap.size = sz ∧ va_P (dC, dI) vwCl [(a_items, .inr (1, [.int items_count, .ref a_items_kinds, .ref a_items_penaltyWidths, .ref a_items_costs, .ref a_items_flags, .ref a_items_widthBefore, .ref a_items_stretchBefore, .ref a_items_shrinkBefore, .ref a_items_fillBefore])), (a_items_stretchBefore, .inl (c_items_stretchBefore, 401, .inl items_stretchBefore)), (a_items_shrinkBefore, .inl (c_items_shrinkBefore, 401, .inl items_shrinkBefore)), (a_items_fillBefore, .inl (c_items_fillBefore, 401, .inl items_fillBefore)), (a_ruler, .inr (3, [.ref a_items, .int ruler_start, .int ruler_stretch, .int ruler_shrink, .int ruler_fill, .int ruler_excess]))] U.heap ∧ va_K (dC, dI) vwCl [(c_items_stretchBefore, .int), (c_items_shrinkBefore, .int), (c_items_fillBefore, .int)] U ∧ va_D (fun _ => True) [(a_items, .inr (1, [.int items_count, .ref a_items_kinds, .ref a_items_penaltyWidths, .ref a_items_costs, .ref a_items_flags, .ref a_items_widthBefore, .ref a_items_stretchBefore, .ref a_items_shrinkBefore, .ref a_items_fillBefore])), (a_items_stretchBefore, .inl (c_items_stretchBefore, 401, .inl items_stretchBefore)), (a_items_shrinkBefore, .inl (c_items_shrinkBefore, 401, .inl items_shrinkBefore)), (a_items_fillBefore, .inl (c_items_fillBefore, 401, .inl items_fillBefore)), (a_ruler, .inr (3, [.ref a_items, .int ruler_start, .int ruler_stretch, .int ruler_shrink, .int ruler_fill, .int ruler_excess]))])) (va_Qi (fun (r : Int32) (_ : Unit) => r = o) (fun (_ : Unit) t => va_P (dC, dI) vwCl [(a_items, .inr (1, [.int items_count, .ref a_items_kinds, .ref a_items_penaltyWidths, .ref a_items_costs, .ref a_items_flags, .ref a_items_widthBefore, .ref a_items_stretchBefore, .ref a_items_shrinkBefore, .ref a_items_fillBefore])), (a_items_stretchBefore, .inl (c_items_stretchBefore, 401, .inl items_stretchBefore)), (a_items_shrinkBefore, .inl (c_items_shrinkBefore, 401, .inl items_shrinkBefore)), (a_items_fillBefore, .inl (c_items_fillBefore, 401, .inl items_fillBefore)), (a_ruler, .inr (3, [.ref a_items, .int ruler_start, .int ruler_stretch, .int ruler_shrink, .int ruler_fill, .int ruler_excess]))] t.heap ∧ va_K (dC, dI) vwCl [(c_items_stretchBefore, .int), (c_items_shrinkBefore, .int), (c_items_fillBefore, .int)] t ∧ va_D (va_A [(a_items, .inr (1, [.int items_count, .ref a_items_kinds, .ref a_items_penaltyWidths, .ref a_items_costs, .ref a_items_flags, .ref a_items_widthBefore, .ref a_items_stretchBefore, .ref a_items_shrinkBefore, .ref a_items_fillBefore])), (a_items_stretchBefore, .inl (c_items_stretchBefore, 401, .inl items_stretchBefore)), (a_items_shrinkBefore, .inl (c_items_shrinkBefore, 401, .inl items_shrinkBefore)), (a_items_fillBefore, .inl (c_items_fillBefore, 401, .inl items_fillBefore)), (a_ruler, .inr (3, [.ref a_items, .int ruler_start, .int ruler_stretch, .int ruler_shrink, .int ruler_fill, .int ruler_excess]))] sz) [(a_items, .inr (1, [.int items_count, .ref a_items_kinds, .ref a_items_penaltyWidths, .ref a_items_costs, .ref a_items_flags, .ref a_items_widthBefore, .ref a_items_stretchBefore, .ref a_items_shrinkBefore, .ref a_items_fillBefore])), (a_items_stretchBefore, .inl (c_items_stretchBefore, 401, .inl items_stretchBefore)), (a_items_shrinkBefore, .inl (c_items_shrinkBefore, 401, .inl items_shrinkBefore)), (a_items_fillBefore, .inl (c_items_fillBefore, 401, .inl items_fillBefore)), (a_ruler, .inr (3, [.ref a_items, .int ruler_start, .int ruler_stretch, .int ruler_shrink, .int ruler_fill, .int ruler_excess]))]) (va_A [(a_items, .inr (1, [.int items_count, .ref a_items_kinds, .ref a_items_penaltyWidths, .ref a_items_costs, .ref a_items_flags, .ref a_items_widthBefore, .ref a_items_stretchBefore, .ref a_items_shrinkBefore, .ref a_items_fillBefore])), (a_items_stretchBefore, .inl (c_items_stretchBefore, 401, .inl items_stretchBefore)), (a_items_shrinkBefore, .inl (c_items_shrinkBefore, 401, .inl items_shrinkBefore)), (a_items_fillBefore, .inl (c_items_fillBefore, 401, .inl items_fillBefore)), (a_ruler, .inr (3, [.ref a_items, .int ruler_start, .int ruler_stretch, .int ruler_shrink, .int ruler_fill, .int ruler_excess]))] sz)) 0 0 (va_A [(a_items, .inr (1, [.int items_count, .ref a_items_kinds, .ref a_items_penaltyWidths, .ref a_items_costs, .ref a_items_flags, .ref a_items_widthBefore, .ref a_items_stretchBefore, .ref a_items_shrinkBefore, .ref a_items_fillBefore])), (a_items_stretchBefore, .inl (c_items_stretchBefore, 401, .inl items_stretchBefore)), (a_items_shrinkBefore, .inl (c_items_shrinkBefore, 401, .inl items_shrinkBefore)), (a_items_fillBefore, .inl (c_items_fillBefore, 401, .inl items_fillBefore)), (a_ruler, .inr (3, [.ref a_items, .int ruler_start, .int ruler_stretch, .int ruler_shrink, .int ruler_fill, .int ruler_excess]))] sz) := by
  refine Met.ofW (cc := cRuler_partBefore) (maxL := 2) (ret := (some .int)) (by decide) rfl ?_
  intro p e s m args below meth c s₁ B hml hv
  obtain ⟨rfl, hsz, hP, hK, hD0⟩ := hv
  have hx := B.exec
  have hb := B.bytes
  have hr := B.returns
  have hts := atoms_spec (ws := wsRuler_partBefore) B.pre
  have hown : s.vm.findClass RRuler = some m.cls := findClass_of_methodNamed B.named
  have hlocks := B.notSynchronized
  subst hsz
  have hD := hD0.self (sz := s.heap.size)
  generalize hAe : va_A [(a_items, .inr (1, [.int items_count, .ref a_items_kinds, .ref a_items_penaltyWidths, .ref a_items_costs, .ref a_items_flags, .ref a_items_widthBefore, .ref a_items_stretchBefore, .ref a_items_shrinkBefore, .ref a_items_fillBefore])), (a_items_stretchBefore, .inl (c_items_stretchBefore, 401, .inl items_stretchBefore)), (a_items_shrinkBefore, .inl (c_items_shrinkBefore, 401, .inl items_shrinkBefore)), (a_items_fillBefore, .inl (c_items_fillBefore, 401, .inl items_fillBefore)), (a_ruler, .inr (3, [.ref a_items, .int ruler_start, .int ruler_stretch, .int ruler_shrink, .int ruler_fill, .int ruler_excess]))] s.heap.size = A at hD ⊢
  have hA : ∀ q : Nat, s.heap.size ≤ q → A q := fun q h => by rw [← hAe]; exact Or.inr h
  have hS : va_S A s.heap s.heap [] := va_S.rf
  have hP : va_P (dC, dI) vwCl [(a_items, .inr (1, [.int items_count, .ref a_items_kinds, .ref a_items_penaltyWidths, .ref a_items_costs, .ref a_items_flags, .ref a_items_widthBefore, .ref a_items_stretchBefore, .ref a_items_shrinkBefore, .ref a_items_fillBefore])), (a_items_stretchBefore, .inl (c_items_stretchBefore, 401, .inl items_stretchBefore)), (a_items_shrinkBefore, .inl (c_items_shrinkBefore, 401, .inl items_shrinkBefore)), (a_items_fillBefore, .inl (c_items_fillBefore, 401, .inl items_fillBefore)), (a_ruler, .inr (3, [.ref a_items, .int ruler_start, .int ruler_stretch, .int ruler_shrink, .int ruler_fill, .int ruler_excess]))] s.heap := hP
  have hl := lv_entry ([.ref a_ruler, .int x1]) (n := 2) (Nat.le_of_ble_eq_true rfl)
  rw [lg_entry_eq]
  generalize (lg_sl ([.ref a_ruler, .int x1]) ++ List.replicate (2 - (lg_sl ([.ref a_ruler, .int x1])).length) Slot.unset).toArray = ls at hl ⊢
  have hl : lv_has ls 2 [(0, .ref a_ruler), (1, .int x1)] := hl
  unfold om_f_Ruler_partBefore at h
  refine lv_aload_n hx hb dRuler_partBefore_0 rfl (lv_at hl 0 rfl) ?_
  refine va_get (D := (dC, dI)) (ci := 3) (v := .int ruler_excess) (C := RRuler) (T := TRuler) (N := 6) hx hb hts (fun w h => om_m (inRuler w h)) hown hK hP 4 rfl rfl 5 (by decide) (hts _ (om_m w_112)) (fun _ h9 => h9) rfl dRuler_partBefore_1 ?_
  refine lv_if_le (tgt := 48) hx hb dRuler_partBefore_4 (by decide) (fun g1 => ?_) (fun g1 => ?_)
  · have h := om_t g1 h
    refine lv_aload_n hx hb dRuler_partBefore_48 rfl (lv_at hl 0 rfl) ?_
    refine va_get (D := (dC, dI)) (ci := 3) (v := .int ruler_excess) (C := RRuler) (T := TRuler) (N := 6) hx hb hts (fun w h => om_m (inRuler w h)) hown hK hP 4 rfl rfl 5 (by decide) (hts _ (om_m w_112)) (fun _ h9 => h9) rfl dRuler_partBefore_49 ?_
    refine lv_if_le (tgt := 89) hx hb dRuler_partBefore_52 (by decide) (fun g2 => ?_) (fun g2 => ?_)
    · have h := om_t g2 h
      refine lv_aload_n hx hb dRuler_partBefore_89 rfl (lv_at hl 0 rfl) ?_
      refine va_get (D := (dC, dI)) (ci := 3) (v := .int ruler_excess) (C := RRuler) (T := TRuler) (N := 6) hx hb hts (fun w h => om_m (inRuler w h)) hown hK hP 4 rfl rfl 5 (by decide) (hts _ (om_m w_112)) (fun _ h9 => h9) rfl dRuler_partBefore_90 ?_
      refine lv_ineg hx hb dRuler_partBefore_93 ?_
      refine lv_aload_n hx hb dRuler_partBefore_94 rfl (lv_at hl 0 rfl) ?_
      refine va_get (D := (dC, dI)) (ci := 3) (v := .int ruler_shrink) (C := RRuler) (T := TRuler) (N := 6) hx hb hts (fun w h => om_m (inRuler w h)) hown hK hP 4 rfl rfl 3 (by decide) (hts _ (om_m w_110)) (fun _ h9 => h9) rfl dRuler_partBefore_95 ?_
      refine va_mmin hx hb (by rw [hml]; exact hl.1.symm) hown (hts _ (om_m w_549)) (hts _ (om_m w_72)) (hts _ (om_m w_4)) (hts _ (om_m w_73)) (Nat.le_of_ble_eq_true rfl) (Nat.le_of_ble_eq_true rfl) (Nat.le_of_ble_eq_true rfl) (Nat.le_of_ble_eq_true rfl) dRuler_partBefore_98 ?_
      refine lv_aload_n hx hb dRuler_partBefore_101 rfl (lv_at hl 0 rfl) ?_
      refine va_get (D := (dC, dI)) (ci := 3) (v := .ref a_items) (C := RRuler) (T := TRuler) (N := 6) hx hb hts (fun w h => om_m (inRuler w h)) hown hK hP 4 rfl rfl 0 (by decide) (hts _ (om_m w_107)) (fun _ h9 => h9) rfl dRuler_partBefore_102 ?_
      refine va_get (D := (dC, dI)) (ci := 1) (v := .ref a_items_shrinkBefore) (C := RItems) (T := TItems) (N := 9) hx hb hts (fun w h => om_m (inItems w h)) hown hK hP 0 rfl rfl 7 (by decide) (hts _ (om_m w_45)) (fun _ h9 => h9) rfl dRuler_partBefore_105 ?_
      refine lv_iload_n hx hb dRuler_partBefore_108 rfl (lv_at hl 1 rfl) ?_
      obtain ⟨hi, h⟩ := om_g h
      refine va_iald (D := (dC, dI)) hx hb hK hP 2 1 rfl rfl (om_ok hi) dRuler_partBefore_109 ?_
      refine lv_aload_n hx hb dRuler_partBefore_110 rfl (lv_at hl 0 rfl) ?_
      refine va_get (D := (dC, dI)) (ci := 3) (v := .ref a_items) (C := RRuler) (T := TRuler) (N := 6) hx hb hts (fun w h => om_m (inRuler w h)) hown hK hP 4 rfl rfl 0 (by decide) (hts _ (om_m w_107)) (fun _ h9 => h9) rfl dRuler_partBefore_111 ?_
      refine va_get (D := (dC, dI)) (ci := 1) (v := .ref a_items_shrinkBefore) (C := RItems) (T := TItems) (N := 9) hx hb hts (fun w h => om_m (inItems w h)) hown hK hP 0 rfl rfl 7 (by decide) (hts _ (om_m w_45)) (fun _ h9 => h9) rfl dRuler_partBefore_114 ?_
      refine lv_aload_n hx hb dRuler_partBefore_117 rfl (lv_at hl 0 rfl) ?_
      refine va_get (D := (dC, dI)) (ci := 3) (v := .int ruler_start) (C := RRuler) (T := TRuler) (N := 6) hx hb hts (fun w h => om_m (inRuler w h)) hown hK hP 4 rfl rfl 1 (by decide) (hts _ (om_m w_108)) (fun _ h9 => h9) rfl dRuler_partBefore_118 ?_
      obtain ⟨hi, h⟩ := om_g h
      refine va_iald (D := (dC, dI)) hx hb hK hP 2 1 rfl rfl (om_ok hi) dRuler_partBefore_121 ?_
      refine lv_isub hx hb dRuler_partBefore_122 ?_
      refine lv_aload_n hx hb dRuler_partBefore_123 rfl (lv_at hl 0 rfl) ?_
      refine va_get (D := (dC, dI)) (ci := 3) (v := .int ruler_shrink) (C := RRuler) (T := TRuler) (N := 6) hx hb hts (fun w h => om_m (inRuler w h)) hown hK hP 4 rfl rfl 3 (by decide) (hts _ (om_m w_110)) (fun _ h9 => h9) rfl dRuler_partBefore_124 ?_
      obtain ⟨u3, hu3, h⟩ := om_b h
      have hPc := hP.sub (ws' := []) [] rfl
      have hDc := hD.sub (ws' := []) [] (by decide) rfl
      have hKc := hK.sub (tys' := []) [] rfl
      have hFc := va_free (wc := []) hD hS hA [] rfl
      refine va_calli (va_runS (As := [.int (if ruler_shrink < (-ruler_excess) then ruler_shrink else (-ruler_excess)), .int ((items_shrinkBefore x1.toNatClampNeg) - (items_shrinkBefore ruler_start.toNatClampNeg)), .int ruler_shrink]) (rest := []) ⟨hx, hb, hml, hown, hts⟩ (om_k_Ruler_share l dC dI s.heap.size (if ruler_shrink < (-ruler_excess) then ruler_shrink else (-ruler_excess)) ((items_shrinkBefore x1.toNatClampNeg) - (items_shrinkBefore ruler_start.toNatClampNeg)) ruler_shrink u3 hu3) (va_cwS 3 hts (om_gs w_546 w_547 w_7 w_548) rfl rfl rfl (by decide +kernel) ⟨Nat.le_of_ble_eq_true rfl, Nat.le_of_ble_eq_true rfl⟩) ⟨fun a U g mk q => by obtain ⟨q0, q1, qP, qK, qD⟩ := q; exact ⟨q0, q1, qP, va_K.moved (u := U) (U := U.calling g mk a) (Vm.Alike.refl U.vm) qK, qD⟩, fun U hU hW => ⟨rfl, by rw [hU], by rw [hU]; exact hPc, va_K.moved hW.alike hKc, hDc.weaken (fun _ _ _ _ => trivial)⟩⟩ rfl rfl hl.1 rfl (lv_room (Nat.le_of_ble_eq_true rfl)) dRuler_partBefore_127 ⟨Nat.le_of_ble_eq_true rfl, Nat.le_of_ble_eq_true rfl⟩) hS (fun q _ h => hFc q h) hFc (fun r9 uz t H1 locs ht hvm hw hB hz1 hk1 hS => ?_)
      replace hw := hw.symm
      subst hw
      obtain ⟨hP1, hK1, hD1⟩ := hB
      rw [ht] at hP1
      obtain ⟨hP, hD⟩ := va_join (wr := [(a_items, .inr (1, [.int items_count, .ref a_items_kinds, .ref a_items_penaltyWidths, .ref a_items_costs, .ref a_items_flags, .ref a_items_widthBefore, .ref a_items_stretchBefore, .ref a_items_shrinkBefore, .ref a_items_fillBefore])), (a_items_stretchBefore, .inl (c_items_stretchBefore, 401, .inl items_stretchBefore)), (a_items_shrinkBefore, .inl (c_items_shrinkBefore, 401, .inl items_shrinkBefore)), (a_items_fillBefore, .inl (c_items_fillBefore, 401, .inl items_fillBefore)), (a_ruler, .inr (3, [.ref a_items, .int ruler_start, .int ruler_stretch, .int ruler_shrink, .int ruler_fill, .int ruler_excess]))]) (w1 := []) hP hD [] [0, 1, 2, 3, 4] rfl rfl (by decide) (by decide) hk1 hFc hP1 hD1
      generalize H1 = H at hP hS ⊢
      have hP : va_P (dC, dI) vwCl [(a_items, .inr (1, [.int items_count, .ref a_items_kinds, .ref a_items_penaltyWidths, .ref a_items_costs, .ref a_items_flags, .ref a_items_widthBefore, .ref a_items_stretchBefore, .ref a_items_shrinkBefore, .ref a_items_fillBefore])), (a_items_stretchBefore, .inl (c_items_stretchBefore, 401, .inl items_stretchBefore)), (a_items_shrinkBefore, .inl (c_items_shrinkBefore, 401, .inl items_shrinkBefore)), (a_items_fillBefore, .inl (c_items_fillBefore, 401, .inl items_fillBefore)), (a_ruler, .inr (3, [.ref a_items, .int ruler_start, .int ruler_stretch, .int ruler_shrink, .int ruler_fill, .int ruler_excess]))] H := hP
      have hD : va_D A [(a_items, .inr (1, [.int items_count, .ref a_items_kinds, .ref a_items_penaltyWidths, .ref a_items_costs, .ref a_items_flags, .ref a_items_widthBefore, .ref a_items_stretchBefore, .ref a_items_shrinkBefore, .ref a_items_fillBefore])), (a_items_stretchBefore, .inl (c_items_stretchBefore, 401, .inl items_stretchBefore)), (a_items_shrinkBefore, .inl (c_items_shrinkBefore, 401, .inl items_shrinkBefore)), (a_items_fillBefore, .inl (c_items_fillBefore, 401, .inl items_fillBefore)), (a_ruler, .inr (3, [.ref a_items, .int ruler_start, .int ruler_stretch, .int ruler_shrink, .int ruler_fill, .int ruler_excess]))] := hD
      refine W.widen (k := 0) (n := 0) (Nat.le_of_ble_eq_true rfl) (Nat.le_of_ble_eq_true rfl) ?_
      refine lv_ineg hx hb dRuler_partBefore_130 ?_
      obtain rfl := Option.some.inj h
      have hP9 := hP.sub (ws' := [(a_items, .inr (1, [.int items_count, .ref a_items_kinds, .ref a_items_penaltyWidths, .ref a_items_costs, .ref a_items_flags, .ref a_items_widthBefore, .ref a_items_stretchBefore, .ref a_items_shrinkBefore, .ref a_items_fillBefore])), (a_items_stretchBefore, .inl (c_items_stretchBefore, 401, .inl items_stretchBefore)), (a_items_shrinkBefore, .inl (c_items_shrinkBefore, 401, .inl items_shrinkBefore)), (a_items_fillBefore, .inl (c_items_fillBefore, 401, .inl items_fillBefore)), (a_ruler, .inr (3, [.ref a_items, .int ruler_start, .int ruler_stretch, .int ruler_shrink, .int ruler_fill, .int ruler_excess]))]) [0, 1, 2, 3, 4] rfl
      have hD9 := hD.sub (ws' := [(a_items, .inr (1, [.int items_count, .ref a_items_kinds, .ref a_items_penaltyWidths, .ref a_items_costs, .ref a_items_flags, .ref a_items_widthBefore, .ref a_items_stretchBefore, .ref a_items_shrinkBefore, .ref a_items_fillBefore])), (a_items_stretchBefore, .inl (c_items_stretchBefore, 401, .inl items_stretchBefore)), (a_items_shrinkBefore, .inl (c_items_shrinkBefore, 401, .inl items_shrinkBefore)), (a_items_fillBefore, .inl (c_items_fillBefore, 401, .inl items_fillBefore)), (a_ruler, .inr (3, [.ref a_items, .int ruler_start, .int ruler_stretch, .int ruler_shrink, .int ruler_fill, .int ruler_excess]))]) [0, 1, 2, 3, 4] (by decide) rfl
      have hK9 := hK.sub (tys' := [(c_items_stretchBefore, .int), (c_items_shrinkBefore, .int), (c_items_fillBefore, .int)]) [0, 1, 2] rfl
      exact W.iret (v := -u3) hx hb hr (fun t ht hW => ⟨⟨_, (), rfl, rfl, by rw [ht]; exact hP9, va_K.moved hW.alike hK9, hD9⟩, hS.F ht⟩) hS.2.2 dRuler_partBefore_131
    · have h := om_f g2 h
      refine lv_aload_n hx hb dRuler_partBefore_55 rfl (lv_at hl 0 rfl) ?_
      refine va_get (D := (dC, dI)) (ci := 3) (v := .int ruler_excess) (C := RRuler) (T := TRuler) (N := 6) hx hb hts (fun w h => om_m (inRuler w h)) hown hK hP 4 rfl rfl 5 (by decide) (hts _ (om_m w_112)) (fun _ h9 => h9) rfl dRuler_partBefore_56 ?_
      refine lv_aload_n hx hb dRuler_partBefore_59 rfl (lv_at hl 0 rfl) ?_
      refine va_get (D := (dC, dI)) (ci := 3) (v := .ref a_items) (C := RRuler) (T := TRuler) (N := 6) hx hb hts (fun w h => om_m (inRuler w h)) hown hK hP 4 rfl rfl 0 (by decide) (hts _ (om_m w_107)) (fun _ h9 => h9) rfl dRuler_partBefore_60 ?_
      refine va_get (D := (dC, dI)) (ci := 1) (v := .ref a_items_stretchBefore) (C := RItems) (T := TItems) (N := 9) hx hb hts (fun w h => om_m (inItems w h)) hown hK hP 0 rfl rfl 6 (by decide) (hts _ (om_m w_43)) (fun _ h9 => h9) rfl dRuler_partBefore_63 ?_
      refine lv_iload_n hx hb dRuler_partBefore_66 rfl (lv_at hl 1 rfl) ?_
      obtain ⟨hi, h⟩ := om_g h
      refine va_iald (D := (dC, dI)) hx hb hK hP 1 0 rfl rfl (om_ok hi) dRuler_partBefore_67 ?_
      refine lv_aload_n hx hb dRuler_partBefore_68 rfl (lv_at hl 0 rfl) ?_
      refine va_get (D := (dC, dI)) (ci := 3) (v := .ref a_items) (C := RRuler) (T := TRuler) (N := 6) hx hb hts (fun w h => om_m (inRuler w h)) hown hK hP 4 rfl rfl 0 (by decide) (hts _ (om_m w_107)) (fun _ h9 => h9) rfl dRuler_partBefore_69 ?_
      refine va_get (D := (dC, dI)) (ci := 1) (v := .ref a_items_stretchBefore) (C := RItems) (T := TItems) (N := 9) hx hb hts (fun w h => om_m (inItems w h)) hown hK hP 0 rfl rfl 6 (by decide) (hts _ (om_m w_43)) (fun _ h9 => h9) rfl dRuler_partBefore_72 ?_
      refine lv_aload_n hx hb dRuler_partBefore_75 rfl (lv_at hl 0 rfl) ?_
      refine va_get (D := (dC, dI)) (ci := 3) (v := .int ruler_start) (C := RRuler) (T := TRuler) (N := 6) hx hb hts (fun w h => om_m (inRuler w h)) hown hK hP 4 rfl rfl 1 (by decide) (hts _ (om_m w_108)) (fun _ h9 => h9) rfl dRuler_partBefore_76 ?_
      obtain ⟨hi, h⟩ := om_g h
      refine va_iald (D := (dC, dI)) hx hb hK hP 1 0 rfl rfl (om_ok hi) dRuler_partBefore_79 ?_
      refine lv_isub hx hb dRuler_partBefore_80 ?_
      refine lv_aload_n hx hb dRuler_partBefore_81 rfl (lv_at hl 0 rfl) ?_
      refine va_get (D := (dC, dI)) (ci := 3) (v := .int ruler_stretch) (C := RRuler) (T := TRuler) (N := 6) hx hb hts (fun w h => om_m (inRuler w h)) hown hK hP 4 rfl rfl 2 (by decide) (hts _ (om_m w_109)) (fun _ h9 => h9) rfl dRuler_partBefore_82 ?_
      obtain ⟨u4, hu4, h⟩ := om_b h
      have hPc := hP.sub (ws' := []) [] rfl
      have hDc := hD.sub (ws' := []) [] (by decide) rfl
      have hKc := hK.sub (tys' := []) [] rfl
      have hFc := va_free (wc := []) hD hS hA [] rfl
      refine va_calli (va_runS (As := [.int ruler_excess, .int ((items_stretchBefore x1.toNatClampNeg) - (items_stretchBefore ruler_start.toNatClampNeg)), .int ruler_stretch]) (rest := []) ⟨hx, hb, hml, hown, hts⟩ (om_k_Ruler_share l dC dI s.heap.size ruler_excess ((items_stretchBefore x1.toNatClampNeg) - (items_stretchBefore ruler_start.toNatClampNeg)) ruler_stretch u4 hu4) (va_cwS 3 hts (om_gs w_546 w_547 w_7 w_548) rfl rfl rfl (by decide +kernel) ⟨Nat.le_of_ble_eq_true rfl, Nat.le_of_ble_eq_true rfl⟩) ⟨fun a U g mk q => by obtain ⟨q0, q1, qP, qK, qD⟩ := q; exact ⟨q0, q1, qP, va_K.moved (u := U) (U := U.calling g mk a) (Vm.Alike.refl U.vm) qK, qD⟩, fun U hU hW => ⟨rfl, by rw [hU], by rw [hU]; exact hPc, va_K.moved hW.alike hKc, hDc.weaken (fun _ _ _ _ => trivial)⟩⟩ rfl rfl hl.1 rfl (lv_room (Nat.le_of_ble_eq_true rfl)) dRuler_partBefore_85 ⟨Nat.le_of_ble_eq_true rfl, Nat.le_of_ble_eq_true rfl⟩) hS (fun q _ h => hFc q h) hFc (fun r9 uz t H1 locs ht hvm hw hB hz1 hk1 hS => ?_)
      replace hw := hw.symm
      subst hw
      obtain ⟨hP1, hK1, hD1⟩ := hB
      rw [ht] at hP1
      obtain ⟨hP, hD⟩ := va_join (wr := [(a_items, .inr (1, [.int items_count, .ref a_items_kinds, .ref a_items_penaltyWidths, .ref a_items_costs, .ref a_items_flags, .ref a_items_widthBefore, .ref a_items_stretchBefore, .ref a_items_shrinkBefore, .ref a_items_fillBefore])), (a_items_stretchBefore, .inl (c_items_stretchBefore, 401, .inl items_stretchBefore)), (a_items_shrinkBefore, .inl (c_items_shrinkBefore, 401, .inl items_shrinkBefore)), (a_items_fillBefore, .inl (c_items_fillBefore, 401, .inl items_fillBefore)), (a_ruler, .inr (3, [.ref a_items, .int ruler_start, .int ruler_stretch, .int ruler_shrink, .int ruler_fill, .int ruler_excess]))]) (w1 := []) hP hD [] [0, 1, 2, 3, 4] rfl rfl (by decide) (by decide) hk1 hFc hP1 hD1
      generalize H1 = H at hP hS ⊢
      have hP : va_P (dC, dI) vwCl [(a_items, .inr (1, [.int items_count, .ref a_items_kinds, .ref a_items_penaltyWidths, .ref a_items_costs, .ref a_items_flags, .ref a_items_widthBefore, .ref a_items_stretchBefore, .ref a_items_shrinkBefore, .ref a_items_fillBefore])), (a_items_stretchBefore, .inl (c_items_stretchBefore, 401, .inl items_stretchBefore)), (a_items_shrinkBefore, .inl (c_items_shrinkBefore, 401, .inl items_shrinkBefore)), (a_items_fillBefore, .inl (c_items_fillBefore, 401, .inl items_fillBefore)), (a_ruler, .inr (3, [.ref a_items, .int ruler_start, .int ruler_stretch, .int ruler_shrink, .int ruler_fill, .int ruler_excess]))] H := hP
      have hD : va_D A [(a_items, .inr (1, [.int items_count, .ref a_items_kinds, .ref a_items_penaltyWidths, .ref a_items_costs, .ref a_items_flags, .ref a_items_widthBefore, .ref a_items_stretchBefore, .ref a_items_shrinkBefore, .ref a_items_fillBefore])), (a_items_stretchBefore, .inl (c_items_stretchBefore, 401, .inl items_stretchBefore)), (a_items_shrinkBefore, .inl (c_items_shrinkBefore, 401, .inl items_shrinkBefore)), (a_items_fillBefore, .inl (c_items_fillBefore, 401, .inl items_fillBefore)), (a_ruler, .inr (3, [.ref a_items, .int ruler_start, .int ruler_stretch, .int ruler_shrink, .int ruler_fill, .int ruler_excess]))] := hD
      refine W.widen (k := 0) (n := 0) (Nat.le_of_ble_eq_true rfl) (Nat.le_of_ble_eq_true rfl) ?_
      obtain rfl := Option.some.inj h
      have hP9 := hP.sub (ws' := [(a_items, .inr (1, [.int items_count, .ref a_items_kinds, .ref a_items_penaltyWidths, .ref a_items_costs, .ref a_items_flags, .ref a_items_widthBefore, .ref a_items_stretchBefore, .ref a_items_shrinkBefore, .ref a_items_fillBefore])), (a_items_stretchBefore, .inl (c_items_stretchBefore, 401, .inl items_stretchBefore)), (a_items_shrinkBefore, .inl (c_items_shrinkBefore, 401, .inl items_shrinkBefore)), (a_items_fillBefore, .inl (c_items_fillBefore, 401, .inl items_fillBefore)), (a_ruler, .inr (3, [.ref a_items, .int ruler_start, .int ruler_stretch, .int ruler_shrink, .int ruler_fill, .int ruler_excess]))]) [0, 1, 2, 3, 4] rfl
      have hD9 := hD.sub (ws' := [(a_items, .inr (1, [.int items_count, .ref a_items_kinds, .ref a_items_penaltyWidths, .ref a_items_costs, .ref a_items_flags, .ref a_items_widthBefore, .ref a_items_stretchBefore, .ref a_items_shrinkBefore, .ref a_items_fillBefore])), (a_items_stretchBefore, .inl (c_items_stretchBefore, 401, .inl items_stretchBefore)), (a_items_shrinkBefore, .inl (c_items_shrinkBefore, 401, .inl items_shrinkBefore)), (a_items_fillBefore, .inl (c_items_fillBefore, 401, .inl items_fillBefore)), (a_ruler, .inr (3, [.ref a_items, .int ruler_start, .int ruler_stretch, .int ruler_shrink, .int ruler_fill, .int ruler_excess]))]) [0, 1, 2, 3, 4] (by decide) rfl
      have hK9 := hK.sub (tys' := [(c_items_stretchBefore, .int), (c_items_shrinkBefore, .int), (c_items_fillBefore, .int)]) [0, 1, 2] rfl
      exact W.iret (v := u4) hx hb hr (fun t ht hW => ⟨⟨_, (), rfl, rfl, by rw [ht]; exact hP9, va_K.moved hW.alike hK9, hD9⟩, hS.F ht⟩) hS.2.2 dRuler_partBefore_88
  · have h := om_f g1 h
    refine lv_aload_n hx hb dRuler_partBefore_7 rfl (lv_at hl 0 rfl) ?_
    refine va_get (D := (dC, dI)) (ci := 3) (v := .int ruler_fill) (C := RRuler) (T := TRuler) (N := 6) hx hb hts (fun w h => om_m (inRuler w h)) hown hK hP 4 rfl rfl 4 (by decide) (hts _ (om_m w_111)) (fun _ h9 => h9) rfl dRuler_partBefore_8 ?_
    refine lv_if_le (tgt := 48) hx hb dRuler_partBefore_11 (by decide) (fun g5 => ?_) (fun g5 => ?_)
    · have h := om_t g5 h
      refine lv_aload_n hx hb dRuler_partBefore_48 rfl (lv_at hl 0 rfl) ?_
      refine va_get (D := (dC, dI)) (ci := 3) (v := .int ruler_excess) (C := RRuler) (T := TRuler) (N := 6) hx hb hts (fun w h => om_m (inRuler w h)) hown hK hP 4 rfl rfl 5 (by decide) (hts _ (om_m w_112)) (fun _ h9 => h9) rfl dRuler_partBefore_49 ?_
      refine lv_if_le (tgt := 89) hx hb dRuler_partBefore_52 (by decide) (fun g6 => ?_) (fun g6 => ?_)
      · have h := om_t g6 h
        refine lv_aload_n hx hb dRuler_partBefore_89 rfl (lv_at hl 0 rfl) ?_
        refine va_get (D := (dC, dI)) (ci := 3) (v := .int ruler_excess) (C := RRuler) (T := TRuler) (N := 6) hx hb hts (fun w h => om_m (inRuler w h)) hown hK hP 4 rfl rfl 5 (by decide) (hts _ (om_m w_112)) (fun _ h9 => h9) rfl dRuler_partBefore_90 ?_
        refine lv_ineg hx hb dRuler_partBefore_93 ?_
        refine lv_aload_n hx hb dRuler_partBefore_94 rfl (lv_at hl 0 rfl) ?_
        refine va_get (D := (dC, dI)) (ci := 3) (v := .int ruler_shrink) (C := RRuler) (T := TRuler) (N := 6) hx hb hts (fun w h => om_m (inRuler w h)) hown hK hP 4 rfl rfl 3 (by decide) (hts _ (om_m w_110)) (fun _ h9 => h9) rfl dRuler_partBefore_95 ?_
        refine va_mmin hx hb (by rw [hml]; exact hl.1.symm) hown (hts _ (om_m w_549)) (hts _ (om_m w_72)) (hts _ (om_m w_4)) (hts _ (om_m w_73)) (Nat.le_of_ble_eq_true rfl) (Nat.le_of_ble_eq_true rfl) (Nat.le_of_ble_eq_true rfl) (Nat.le_of_ble_eq_true rfl) dRuler_partBefore_98 ?_
        refine lv_aload_n hx hb dRuler_partBefore_101 rfl (lv_at hl 0 rfl) ?_
        refine va_get (D := (dC, dI)) (ci := 3) (v := .ref a_items) (C := RRuler) (T := TRuler) (N := 6) hx hb hts (fun w h => om_m (inRuler w h)) hown hK hP 4 rfl rfl 0 (by decide) (hts _ (om_m w_107)) (fun _ h9 => h9) rfl dRuler_partBefore_102 ?_
        refine va_get (D := (dC, dI)) (ci := 1) (v := .ref a_items_shrinkBefore) (C := RItems) (T := TItems) (N := 9) hx hb hts (fun w h => om_m (inItems w h)) hown hK hP 0 rfl rfl 7 (by decide) (hts _ (om_m w_45)) (fun _ h9 => h9) rfl dRuler_partBefore_105 ?_
        refine lv_iload_n hx hb dRuler_partBefore_108 rfl (lv_at hl 1 rfl) ?_
        obtain ⟨hi, h⟩ := om_g h
        refine va_iald (D := (dC, dI)) hx hb hK hP 2 1 rfl rfl (om_ok hi) dRuler_partBefore_109 ?_
        refine lv_aload_n hx hb dRuler_partBefore_110 rfl (lv_at hl 0 rfl) ?_
        refine va_get (D := (dC, dI)) (ci := 3) (v := .ref a_items) (C := RRuler) (T := TRuler) (N := 6) hx hb hts (fun w h => om_m (inRuler w h)) hown hK hP 4 rfl rfl 0 (by decide) (hts _ (om_m w_107)) (fun _ h9 => h9) rfl dRuler_partBefore_111 ?_
        refine va_get (D := (dC, dI)) (ci := 1) (v := .ref a_items_shrinkBefore) (C := RItems) (T := TItems) (N := 9) hx hb hts (fun w h => om_m (inItems w h)) hown hK hP 0 rfl rfl 7 (by decide) (hts _ (om_m w_45)) (fun _ h9 => h9) rfl dRuler_partBefore_114 ?_
        refine lv_aload_n hx hb dRuler_partBefore_117 rfl (lv_at hl 0 rfl) ?_
        refine va_get (D := (dC, dI)) (ci := 3) (v := .int ruler_start) (C := RRuler) (T := TRuler) (N := 6) hx hb hts (fun w h => om_m (inRuler w h)) hown hK hP 4 rfl rfl 1 (by decide) (hts _ (om_m w_108)) (fun _ h9 => h9) rfl dRuler_partBefore_118 ?_
        obtain ⟨hi, h⟩ := om_g h
        refine va_iald (D := (dC, dI)) hx hb hK hP 2 1 rfl rfl (om_ok hi) dRuler_partBefore_121 ?_
        refine lv_isub hx hb dRuler_partBefore_122 ?_
        refine lv_aload_n hx hb dRuler_partBefore_123 rfl (lv_at hl 0 rfl) ?_
        refine va_get (D := (dC, dI)) (ci := 3) (v := .int ruler_shrink) (C := RRuler) (T := TRuler) (N := 6) hx hb hts (fun w h => om_m (inRuler w h)) hown hK hP 4 rfl rfl 3 (by decide) (hts _ (om_m w_110)) (fun _ h9 => h9) rfl dRuler_partBefore_124 ?_
        obtain ⟨u7, hu7, h⟩ := om_b h
        have hPc := hP.sub (ws' := []) [] rfl
        have hDc := hD.sub (ws' := []) [] (by decide) rfl
        have hKc := hK.sub (tys' := []) [] rfl
        have hFc := va_free (wc := []) hD hS hA [] rfl
        refine va_calli (va_runS (As := [.int (if ruler_shrink < (-ruler_excess) then ruler_shrink else (-ruler_excess)), .int ((items_shrinkBefore x1.toNatClampNeg) - (items_shrinkBefore ruler_start.toNatClampNeg)), .int ruler_shrink]) (rest := []) ⟨hx, hb, hml, hown, hts⟩ (om_k_Ruler_share l dC dI s.heap.size (if ruler_shrink < (-ruler_excess) then ruler_shrink else (-ruler_excess)) ((items_shrinkBefore x1.toNatClampNeg) - (items_shrinkBefore ruler_start.toNatClampNeg)) ruler_shrink u7 hu7) (va_cwS 3 hts (om_gs w_546 w_547 w_7 w_548) rfl rfl rfl (by decide +kernel) ⟨Nat.le_of_ble_eq_true rfl, Nat.le_of_ble_eq_true rfl⟩) ⟨fun a U g mk q => by obtain ⟨q0, q1, qP, qK, qD⟩ := q; exact ⟨q0, q1, qP, va_K.moved (u := U) (U := U.calling g mk a) (Vm.Alike.refl U.vm) qK, qD⟩, fun U hU hW => ⟨rfl, by rw [hU], by rw [hU]; exact hPc, va_K.moved hW.alike hKc, hDc.weaken (fun _ _ _ _ => trivial)⟩⟩ rfl rfl hl.1 rfl (lv_room (Nat.le_of_ble_eq_true rfl)) dRuler_partBefore_127 ⟨Nat.le_of_ble_eq_true rfl, Nat.le_of_ble_eq_true rfl⟩) hS (fun q _ h => hFc q h) hFc (fun r9 uz t H1 locs ht hvm hw hB hz1 hk1 hS => ?_)
        replace hw := hw.symm
        subst hw
        obtain ⟨hP1, hK1, hD1⟩ := hB
        rw [ht] at hP1
        obtain ⟨hP, hD⟩ := va_join (wr := [(a_items, .inr (1, [.int items_count, .ref a_items_kinds, .ref a_items_penaltyWidths, .ref a_items_costs, .ref a_items_flags, .ref a_items_widthBefore, .ref a_items_stretchBefore, .ref a_items_shrinkBefore, .ref a_items_fillBefore])), (a_items_stretchBefore, .inl (c_items_stretchBefore, 401, .inl items_stretchBefore)), (a_items_shrinkBefore, .inl (c_items_shrinkBefore, 401, .inl items_shrinkBefore)), (a_items_fillBefore, .inl (c_items_fillBefore, 401, .inl items_fillBefore)), (a_ruler, .inr (3, [.ref a_items, .int ruler_start, .int ruler_stretch, .int ruler_shrink, .int ruler_fill, .int ruler_excess]))]) (w1 := []) hP hD [] [0, 1, 2, 3, 4] rfl rfl (by decide) (by decide) hk1 hFc hP1 hD1
        generalize H1 = H at hP hS ⊢
        have hP : va_P (dC, dI) vwCl [(a_items, .inr (1, [.int items_count, .ref a_items_kinds, .ref a_items_penaltyWidths, .ref a_items_costs, .ref a_items_flags, .ref a_items_widthBefore, .ref a_items_stretchBefore, .ref a_items_shrinkBefore, .ref a_items_fillBefore])), (a_items_stretchBefore, .inl (c_items_stretchBefore, 401, .inl items_stretchBefore)), (a_items_shrinkBefore, .inl (c_items_shrinkBefore, 401, .inl items_shrinkBefore)), (a_items_fillBefore, .inl (c_items_fillBefore, 401, .inl items_fillBefore)), (a_ruler, .inr (3, [.ref a_items, .int ruler_start, .int ruler_stretch, .int ruler_shrink, .int ruler_fill, .int ruler_excess]))] H := hP
        have hD : va_D A [(a_items, .inr (1, [.int items_count, .ref a_items_kinds, .ref a_items_penaltyWidths, .ref a_items_costs, .ref a_items_flags, .ref a_items_widthBefore, .ref a_items_stretchBefore, .ref a_items_shrinkBefore, .ref a_items_fillBefore])), (a_items_stretchBefore, .inl (c_items_stretchBefore, 401, .inl items_stretchBefore)), (a_items_shrinkBefore, .inl (c_items_shrinkBefore, 401, .inl items_shrinkBefore)), (a_items_fillBefore, .inl (c_items_fillBefore, 401, .inl items_fillBefore)), (a_ruler, .inr (3, [.ref a_items, .int ruler_start, .int ruler_stretch, .int ruler_shrink, .int ruler_fill, .int ruler_excess]))] := hD
        refine W.widen (k := 0) (n := 0) (Nat.le_of_ble_eq_true rfl) (Nat.le_of_ble_eq_true rfl) ?_
        refine lv_ineg hx hb dRuler_partBefore_130 ?_
        obtain rfl := Option.some.inj h
        have hP9 := hP.sub (ws' := [(a_items, .inr (1, [.int items_count, .ref a_items_kinds, .ref a_items_penaltyWidths, .ref a_items_costs, .ref a_items_flags, .ref a_items_widthBefore, .ref a_items_stretchBefore, .ref a_items_shrinkBefore, .ref a_items_fillBefore])), (a_items_stretchBefore, .inl (c_items_stretchBefore, 401, .inl items_stretchBefore)), (a_items_shrinkBefore, .inl (c_items_shrinkBefore, 401, .inl items_shrinkBefore)), (a_items_fillBefore, .inl (c_items_fillBefore, 401, .inl items_fillBefore)), (a_ruler, .inr (3, [.ref a_items, .int ruler_start, .int ruler_stretch, .int ruler_shrink, .int ruler_fill, .int ruler_excess]))]) [0, 1, 2, 3, 4] rfl
        have hD9 := hD.sub (ws' := [(a_items, .inr (1, [.int items_count, .ref a_items_kinds, .ref a_items_penaltyWidths, .ref a_items_costs, .ref a_items_flags, .ref a_items_widthBefore, .ref a_items_stretchBefore, .ref a_items_shrinkBefore, .ref a_items_fillBefore])), (a_items_stretchBefore, .inl (c_items_stretchBefore, 401, .inl items_stretchBefore)), (a_items_shrinkBefore, .inl (c_items_shrinkBefore, 401, .inl items_shrinkBefore)), (a_items_fillBefore, .inl (c_items_fillBefore, 401, .inl items_fillBefore)), (a_ruler, .inr (3, [.ref a_items, .int ruler_start, .int ruler_stretch, .int ruler_shrink, .int ruler_fill, .int ruler_excess]))]) [0, 1, 2, 3, 4] (by decide) rfl
        have hK9 := hK.sub (tys' := [(c_items_stretchBefore, .int), (c_items_shrinkBefore, .int), (c_items_fillBefore, .int)]) [0, 1, 2] rfl
        exact W.iret (v := -u7) hx hb hr (fun t ht hW => ⟨⟨_, (), rfl, rfl, by rw [ht]; exact hP9, va_K.moved hW.alike hK9, hD9⟩, hS.F ht⟩) hS.2.2 dRuler_partBefore_131
      · have h := om_f g6 h
        refine lv_aload_n hx hb dRuler_partBefore_55 rfl (lv_at hl 0 rfl) ?_
        refine va_get (D := (dC, dI)) (ci := 3) (v := .int ruler_excess) (C := RRuler) (T := TRuler) (N := 6) hx hb hts (fun w h => om_m (inRuler w h)) hown hK hP 4 rfl rfl 5 (by decide) (hts _ (om_m w_112)) (fun _ h9 => h9) rfl dRuler_partBefore_56 ?_
        refine lv_aload_n hx hb dRuler_partBefore_59 rfl (lv_at hl 0 rfl) ?_
        refine va_get (D := (dC, dI)) (ci := 3) (v := .ref a_items) (C := RRuler) (T := TRuler) (N := 6) hx hb hts (fun w h => om_m (inRuler w h)) hown hK hP 4 rfl rfl 0 (by decide) (hts _ (om_m w_107)) (fun _ h9 => h9) rfl dRuler_partBefore_60 ?_
        refine va_get (D := (dC, dI)) (ci := 1) (v := .ref a_items_stretchBefore) (C := RItems) (T := TItems) (N := 9) hx hb hts (fun w h => om_m (inItems w h)) hown hK hP 0 rfl rfl 6 (by decide) (hts _ (om_m w_43)) (fun _ h9 => h9) rfl dRuler_partBefore_63 ?_
        refine lv_iload_n hx hb dRuler_partBefore_66 rfl (lv_at hl 1 rfl) ?_
        obtain ⟨hi, h⟩ := om_g h
        refine va_iald (D := (dC, dI)) hx hb hK hP 1 0 rfl rfl (om_ok hi) dRuler_partBefore_67 ?_
        refine lv_aload_n hx hb dRuler_partBefore_68 rfl (lv_at hl 0 rfl) ?_
        refine va_get (D := (dC, dI)) (ci := 3) (v := .ref a_items) (C := RRuler) (T := TRuler) (N := 6) hx hb hts (fun w h => om_m (inRuler w h)) hown hK hP 4 rfl rfl 0 (by decide) (hts _ (om_m w_107)) (fun _ h9 => h9) rfl dRuler_partBefore_69 ?_
        refine va_get (D := (dC, dI)) (ci := 1) (v := .ref a_items_stretchBefore) (C := RItems) (T := TItems) (N := 9) hx hb hts (fun w h => om_m (inItems w h)) hown hK hP 0 rfl rfl 6 (by decide) (hts _ (om_m w_43)) (fun _ h9 => h9) rfl dRuler_partBefore_72 ?_
        refine lv_aload_n hx hb dRuler_partBefore_75 rfl (lv_at hl 0 rfl) ?_
        refine va_get (D := (dC, dI)) (ci := 3) (v := .int ruler_start) (C := RRuler) (T := TRuler) (N := 6) hx hb hts (fun w h => om_m (inRuler w h)) hown hK hP 4 rfl rfl 1 (by decide) (hts _ (om_m w_108)) (fun _ h9 => h9) rfl dRuler_partBefore_76 ?_
        obtain ⟨hi, h⟩ := om_g h
        refine va_iald (D := (dC, dI)) hx hb hK hP 1 0 rfl rfl (om_ok hi) dRuler_partBefore_79 ?_
        refine lv_isub hx hb dRuler_partBefore_80 ?_
        refine lv_aload_n hx hb dRuler_partBefore_81 rfl (lv_at hl 0 rfl) ?_
        refine va_get (D := (dC, dI)) (ci := 3) (v := .int ruler_stretch) (C := RRuler) (T := TRuler) (N := 6) hx hb hts (fun w h => om_m (inRuler w h)) hown hK hP 4 rfl rfl 2 (by decide) (hts _ (om_m w_109)) (fun _ h9 => h9) rfl dRuler_partBefore_82 ?_
        obtain ⟨u8, hu8, h⟩ := om_b h
        have hPc := hP.sub (ws' := []) [] rfl
        have hDc := hD.sub (ws' := []) [] (by decide) rfl
        have hKc := hK.sub (tys' := []) [] rfl
        have hFc := va_free (wc := []) hD hS hA [] rfl
        refine va_calli (va_runS (As := [.int ruler_excess, .int ((items_stretchBefore x1.toNatClampNeg) - (items_stretchBefore ruler_start.toNatClampNeg)), .int ruler_stretch]) (rest := []) ⟨hx, hb, hml, hown, hts⟩ (om_k_Ruler_share l dC dI s.heap.size ruler_excess ((items_stretchBefore x1.toNatClampNeg) - (items_stretchBefore ruler_start.toNatClampNeg)) ruler_stretch u8 hu8) (va_cwS 3 hts (om_gs w_546 w_547 w_7 w_548) rfl rfl rfl (by decide +kernel) ⟨Nat.le_of_ble_eq_true rfl, Nat.le_of_ble_eq_true rfl⟩) ⟨fun a U g mk q => by obtain ⟨q0, q1, qP, qK, qD⟩ := q; exact ⟨q0, q1, qP, va_K.moved (u := U) (U := U.calling g mk a) (Vm.Alike.refl U.vm) qK, qD⟩, fun U hU hW => ⟨rfl, by rw [hU], by rw [hU]; exact hPc, va_K.moved hW.alike hKc, hDc.weaken (fun _ _ _ _ => trivial)⟩⟩ rfl rfl hl.1 rfl (lv_room (Nat.le_of_ble_eq_true rfl)) dRuler_partBefore_85 ⟨Nat.le_of_ble_eq_true rfl, Nat.le_of_ble_eq_true rfl⟩) hS (fun q _ h => hFc q h) hFc (fun r9 uz t H1 locs ht hvm hw hB hz1 hk1 hS => ?_)
        replace hw := hw.symm
        subst hw
        obtain ⟨hP1, hK1, hD1⟩ := hB
        rw [ht] at hP1
        obtain ⟨hP, hD⟩ := va_join (wr := [(a_items, .inr (1, [.int items_count, .ref a_items_kinds, .ref a_items_penaltyWidths, .ref a_items_costs, .ref a_items_flags, .ref a_items_widthBefore, .ref a_items_stretchBefore, .ref a_items_shrinkBefore, .ref a_items_fillBefore])), (a_items_stretchBefore, .inl (c_items_stretchBefore, 401, .inl items_stretchBefore)), (a_items_shrinkBefore, .inl (c_items_shrinkBefore, 401, .inl items_shrinkBefore)), (a_items_fillBefore, .inl (c_items_fillBefore, 401, .inl items_fillBefore)), (a_ruler, .inr (3, [.ref a_items, .int ruler_start, .int ruler_stretch, .int ruler_shrink, .int ruler_fill, .int ruler_excess]))]) (w1 := []) hP hD [] [0, 1, 2, 3, 4] rfl rfl (by decide) (by decide) hk1 hFc hP1 hD1
        generalize H1 = H at hP hS ⊢
        have hP : va_P (dC, dI) vwCl [(a_items, .inr (1, [.int items_count, .ref a_items_kinds, .ref a_items_penaltyWidths, .ref a_items_costs, .ref a_items_flags, .ref a_items_widthBefore, .ref a_items_stretchBefore, .ref a_items_shrinkBefore, .ref a_items_fillBefore])), (a_items_stretchBefore, .inl (c_items_stretchBefore, 401, .inl items_stretchBefore)), (a_items_shrinkBefore, .inl (c_items_shrinkBefore, 401, .inl items_shrinkBefore)), (a_items_fillBefore, .inl (c_items_fillBefore, 401, .inl items_fillBefore)), (a_ruler, .inr (3, [.ref a_items, .int ruler_start, .int ruler_stretch, .int ruler_shrink, .int ruler_fill, .int ruler_excess]))] H := hP
        have hD : va_D A [(a_items, .inr (1, [.int items_count, .ref a_items_kinds, .ref a_items_penaltyWidths, .ref a_items_costs, .ref a_items_flags, .ref a_items_widthBefore, .ref a_items_stretchBefore, .ref a_items_shrinkBefore, .ref a_items_fillBefore])), (a_items_stretchBefore, .inl (c_items_stretchBefore, 401, .inl items_stretchBefore)), (a_items_shrinkBefore, .inl (c_items_shrinkBefore, 401, .inl items_shrinkBefore)), (a_items_fillBefore, .inl (c_items_fillBefore, 401, .inl items_fillBefore)), (a_ruler, .inr (3, [.ref a_items, .int ruler_start, .int ruler_stretch, .int ruler_shrink, .int ruler_fill, .int ruler_excess]))] := hD
        refine W.widen (k := 0) (n := 0) (Nat.le_of_ble_eq_true rfl) (Nat.le_of_ble_eq_true rfl) ?_
        obtain rfl := Option.some.inj h
        have hP9 := hP.sub (ws' := [(a_items, .inr (1, [.int items_count, .ref a_items_kinds, .ref a_items_penaltyWidths, .ref a_items_costs, .ref a_items_flags, .ref a_items_widthBefore, .ref a_items_stretchBefore, .ref a_items_shrinkBefore, .ref a_items_fillBefore])), (a_items_stretchBefore, .inl (c_items_stretchBefore, 401, .inl items_stretchBefore)), (a_items_shrinkBefore, .inl (c_items_shrinkBefore, 401, .inl items_shrinkBefore)), (a_items_fillBefore, .inl (c_items_fillBefore, 401, .inl items_fillBefore)), (a_ruler, .inr (3, [.ref a_items, .int ruler_start, .int ruler_stretch, .int ruler_shrink, .int ruler_fill, .int ruler_excess]))]) [0, 1, 2, 3, 4] rfl
        have hD9 := hD.sub (ws' := [(a_items, .inr (1, [.int items_count, .ref a_items_kinds, .ref a_items_penaltyWidths, .ref a_items_costs, .ref a_items_flags, .ref a_items_widthBefore, .ref a_items_stretchBefore, .ref a_items_shrinkBefore, .ref a_items_fillBefore])), (a_items_stretchBefore, .inl (c_items_stretchBefore, 401, .inl items_stretchBefore)), (a_items_shrinkBefore, .inl (c_items_shrinkBefore, 401, .inl items_shrinkBefore)), (a_items_fillBefore, .inl (c_items_fillBefore, 401, .inl items_fillBefore)), (a_ruler, .inr (3, [.ref a_items, .int ruler_start, .int ruler_stretch, .int ruler_shrink, .int ruler_fill, .int ruler_excess]))]) [0, 1, 2, 3, 4] (by decide) rfl
        have hK9 := hK.sub (tys' := [(c_items_stretchBefore, .int), (c_items_shrinkBefore, .int), (c_items_fillBefore, .int)]) [0, 1, 2] rfl
        exact W.iret (v := u8) hx hb hr (fun t ht hW => ⟨⟨_, (), rfl, rfl, by rw [ht]; exact hP9, va_K.moved hW.alike hK9, hD9⟩, hS.F ht⟩) hS.2.2 dRuler_partBefore_88
    · have h := om_f g5 h
      refine lv_aload_n hx hb dRuler_partBefore_14 rfl (lv_at hl 0 rfl) ?_
      refine va_get (D := (dC, dI)) (ci := 3) (v := .int ruler_excess) (C := RRuler) (T := TRuler) (N := 6) hx hb hts (fun w h => om_m (inRuler w h)) hown hK hP 4 rfl rfl 5 (by decide) (hts _ (om_m w_112)) (fun _ h9 => h9) rfl dRuler_partBefore_15 ?_
      refine lv_aload_n hx hb dRuler_partBefore_18 rfl (lv_at hl 0 rfl) ?_
      refine va_get (D := (dC, dI)) (ci := 3) (v := .ref a_items) (C := RRuler) (T := TRuler) (N := 6) hx hb hts (fun w h => om_m (inRuler w h)) hown hK hP 4 rfl rfl 0 (by decide) (hts _ (om_m w_107)) (fun _ h9 => h9) rfl dRuler_partBefore_19 ?_
      refine va_get (D := (dC, dI)) (ci := 1) (v := .ref a_items_fillBefore) (C := RItems) (T := TItems) (N := 9) hx hb hts (fun w h => om_m (inItems w h)) hown hK hP 0 rfl rfl 8 (by decide) (hts _ (om_m w_48)) (fun _ h9 => h9) rfl dRuler_partBefore_22 ?_
      refine lv_iload_n hx hb dRuler_partBefore_25 rfl (lv_at hl 1 rfl) ?_
      obtain ⟨hi, h⟩ := om_g h
      refine va_iald (D := (dC, dI)) hx hb hK hP 3 2 rfl rfl (om_ok hi) dRuler_partBefore_26 ?_
      refine lv_aload_n hx hb dRuler_partBefore_27 rfl (lv_at hl 0 rfl) ?_
      refine va_get (D := (dC, dI)) (ci := 3) (v := .ref a_items) (C := RRuler) (T := TRuler) (N := 6) hx hb hts (fun w h => om_m (inRuler w h)) hown hK hP 4 rfl rfl 0 (by decide) (hts _ (om_m w_107)) (fun _ h9 => h9) rfl dRuler_partBefore_28 ?_
      refine va_get (D := (dC, dI)) (ci := 1) (v := .ref a_items_fillBefore) (C := RItems) (T := TItems) (N := 9) hx hb hts (fun w h => om_m (inItems w h)) hown hK hP 0 rfl rfl 8 (by decide) (hts _ (om_m w_48)) (fun _ h9 => h9) rfl dRuler_partBefore_31 ?_
      refine lv_aload_n hx hb dRuler_partBefore_34 rfl (lv_at hl 0 rfl) ?_
      refine va_get (D := (dC, dI)) (ci := 3) (v := .int ruler_start) (C := RRuler) (T := TRuler) (N := 6) hx hb hts (fun w h => om_m (inRuler w h)) hown hK hP 4 rfl rfl 1 (by decide) (hts _ (om_m w_108)) (fun _ h9 => h9) rfl dRuler_partBefore_35 ?_
      obtain ⟨hi, h⟩ := om_g h
      refine va_iald (D := (dC, dI)) hx hb hK hP 3 2 rfl rfl (om_ok hi) dRuler_partBefore_38 ?_
      refine lv_isub hx hb dRuler_partBefore_39 ?_
      refine lv_aload_n hx hb dRuler_partBefore_40 rfl (lv_at hl 0 rfl) ?_
      refine va_get (D := (dC, dI)) (ci := 3) (v := .int ruler_fill) (C := RRuler) (T := TRuler) (N := 6) hx hb hts (fun w h => om_m (inRuler w h)) hown hK hP 4 rfl rfl 4 (by decide) (hts _ (om_m w_111)) (fun _ h9 => h9) rfl dRuler_partBefore_41 ?_
      obtain ⟨u9, hu9, h⟩ := om_b h
      have hPc := hP.sub (ws' := []) [] rfl
      have hDc := hD.sub (ws' := []) [] (by decide) rfl
      have hKc := hK.sub (tys' := []) [] rfl
      have hFc := va_free (wc := []) hD hS hA [] rfl
      refine va_calli (va_runS (As := [.int ruler_excess, .int ((items_fillBefore x1.toNatClampNeg) - (items_fillBefore ruler_start.toNatClampNeg)), .int ruler_fill]) (rest := []) ⟨hx, hb, hml, hown, hts⟩ (om_k_Ruler_share l dC dI s.heap.size ruler_excess ((items_fillBefore x1.toNatClampNeg) - (items_fillBefore ruler_start.toNatClampNeg)) ruler_fill u9 hu9) (va_cwS 3 hts (om_gs w_546 w_547 w_7 w_548) rfl rfl rfl (by decide +kernel) ⟨Nat.le_of_ble_eq_true rfl, Nat.le_of_ble_eq_true rfl⟩) ⟨fun a U g mk q => by obtain ⟨q0, q1, qP, qK, qD⟩ := q; exact ⟨q0, q1, qP, va_K.moved (u := U) (U := U.calling g mk a) (Vm.Alike.refl U.vm) qK, qD⟩, fun U hU hW => ⟨rfl, by rw [hU], by rw [hU]; exact hPc, va_K.moved hW.alike hKc, hDc.weaken (fun _ _ _ _ => trivial)⟩⟩ rfl rfl hl.1 rfl (lv_room (Nat.le_of_ble_eq_true rfl)) dRuler_partBefore_44 ⟨Nat.le_of_ble_eq_true rfl, Nat.le_of_ble_eq_true rfl⟩) hS (fun q _ h => hFc q h) hFc (fun r9 uz t H1 locs ht hvm hw hB hz1 hk1 hS => ?_)
      replace hw := hw.symm
      subst hw
      obtain ⟨hP1, hK1, hD1⟩ := hB
      rw [ht] at hP1
      obtain ⟨hP, hD⟩ := va_join (wr := [(a_items, .inr (1, [.int items_count, .ref a_items_kinds, .ref a_items_penaltyWidths, .ref a_items_costs, .ref a_items_flags, .ref a_items_widthBefore, .ref a_items_stretchBefore, .ref a_items_shrinkBefore, .ref a_items_fillBefore])), (a_items_stretchBefore, .inl (c_items_stretchBefore, 401, .inl items_stretchBefore)), (a_items_shrinkBefore, .inl (c_items_shrinkBefore, 401, .inl items_shrinkBefore)), (a_items_fillBefore, .inl (c_items_fillBefore, 401, .inl items_fillBefore)), (a_ruler, .inr (3, [.ref a_items, .int ruler_start, .int ruler_stretch, .int ruler_shrink, .int ruler_fill, .int ruler_excess]))]) (w1 := []) hP hD [] [0, 1, 2, 3, 4] rfl rfl (by decide) (by decide) hk1 hFc hP1 hD1
      generalize H1 = H at hP hS ⊢
      have hP : va_P (dC, dI) vwCl [(a_items, .inr (1, [.int items_count, .ref a_items_kinds, .ref a_items_penaltyWidths, .ref a_items_costs, .ref a_items_flags, .ref a_items_widthBefore, .ref a_items_stretchBefore, .ref a_items_shrinkBefore, .ref a_items_fillBefore])), (a_items_stretchBefore, .inl (c_items_stretchBefore, 401, .inl items_stretchBefore)), (a_items_shrinkBefore, .inl (c_items_shrinkBefore, 401, .inl items_shrinkBefore)), (a_items_fillBefore, .inl (c_items_fillBefore, 401, .inl items_fillBefore)), (a_ruler, .inr (3, [.ref a_items, .int ruler_start, .int ruler_stretch, .int ruler_shrink, .int ruler_fill, .int ruler_excess]))] H := hP
      have hD : va_D A [(a_items, .inr (1, [.int items_count, .ref a_items_kinds, .ref a_items_penaltyWidths, .ref a_items_costs, .ref a_items_flags, .ref a_items_widthBefore, .ref a_items_stretchBefore, .ref a_items_shrinkBefore, .ref a_items_fillBefore])), (a_items_stretchBefore, .inl (c_items_stretchBefore, 401, .inl items_stretchBefore)), (a_items_shrinkBefore, .inl (c_items_shrinkBefore, 401, .inl items_shrinkBefore)), (a_items_fillBefore, .inl (c_items_fillBefore, 401, .inl items_fillBefore)), (a_ruler, .inr (3, [.ref a_items, .int ruler_start, .int ruler_stretch, .int ruler_shrink, .int ruler_fill, .int ruler_excess]))] := hD
      refine W.widen (k := 0) (n := 0) (Nat.le_of_ble_eq_true rfl) (Nat.le_of_ble_eq_true rfl) ?_
      obtain rfl := Option.some.inj h
      have hP9 := hP.sub (ws' := [(a_items, .inr (1, [.int items_count, .ref a_items_kinds, .ref a_items_penaltyWidths, .ref a_items_costs, .ref a_items_flags, .ref a_items_widthBefore, .ref a_items_stretchBefore, .ref a_items_shrinkBefore, .ref a_items_fillBefore])), (a_items_stretchBefore, .inl (c_items_stretchBefore, 401, .inl items_stretchBefore)), (a_items_shrinkBefore, .inl (c_items_shrinkBefore, 401, .inl items_shrinkBefore)), (a_items_fillBefore, .inl (c_items_fillBefore, 401, .inl items_fillBefore)), (a_ruler, .inr (3, [.ref a_items, .int ruler_start, .int ruler_stretch, .int ruler_shrink, .int ruler_fill, .int ruler_excess]))]) [0, 1, 2, 3, 4] rfl
      have hD9 := hD.sub (ws' := [(a_items, .inr (1, [.int items_count, .ref a_items_kinds, .ref a_items_penaltyWidths, .ref a_items_costs, .ref a_items_flags, .ref a_items_widthBefore, .ref a_items_stretchBefore, .ref a_items_shrinkBefore, .ref a_items_fillBefore])), (a_items_stretchBefore, .inl (c_items_stretchBefore, 401, .inl items_stretchBefore)), (a_items_shrinkBefore, .inl (c_items_shrinkBefore, 401, .inl items_shrinkBefore)), (a_items_fillBefore, .inl (c_items_fillBefore, 401, .inl items_fillBefore)), (a_ruler, .inr (3, [.ref a_items, .int ruler_start, .int ruler_stretch, .int ruler_shrink, .int ruler_fill, .int ruler_excess]))]) [0, 1, 2, 3, 4] (by decide) rfl
      have hK9 := hK.sub (tys' := [(c_items_stretchBefore, .int), (c_items_shrinkBefore, .int), (c_items_fillBefore, .int)]) [0, 1, 2] rfl
      exact W.iret (v := u9) hx hb hr (fun t ht hW => ⟨⟨_, (), rfl, rfl, by rw [ht]; exact hP9, va_K.moved hW.alike hK9, hD9⟩, hS.F ht⟩) hS.2.2 dRuler_partBefore_47
def om_f_Ruler_placeOf (items_widthBefore : (Nat → Int32)) (items_stretchBefore : (Nat → Int32)) (items_shrinkBefore : (Nat → Int32)) (items_fillBefore : (Nat → Int32)) (ruler_start : Int32) (ruler_stretch : Int32) (ruler_shrink : Int32) (ruler_fill : Int32) (ruler_excess : Int32) (x1 : Int32) : Option Int32 := if om_in x1 401 = true then if om_in ruler_start 401 = true then (om_f_Ruler_partBefore items_stretchBefore items_shrinkBefore items_fillBefore ruler_start ruler_stretch ruler_shrink ruler_fill ruler_excess x1).bind fun u1 => some (((items_widthBefore x1.toNatClampNeg) - (items_widthBefore ruler_start.toNatClampNeg)) + u1) else none else none
set_option maxHeartbeats 4000000 in
set_option maxRecDepth 100000 in
theorem om_k_Ruler_placeOf (l : Launch) (dC : Nat → ClassId) (dI : Nat → Nat → Nat) (a_items : Nat) (a_items_widthBefore : Nat) (a_items_stretchBefore : Nat) (a_items_shrinkBefore : Nat) (a_items_fillBefore : Nat) (a_ruler : Nat) (a_items_kinds : Nat) (a_items_penaltyWidths : Nat) (a_items_costs : Nat) (a_items_flags : Nat) (c_items_widthBefore : ClassId) (c_items_stretchBefore : ClassId) (c_items_shrinkBefore : ClassId) (c_items_fillBefore : ClassId)  (sz : Nat) (items_count : Int32) (items_widthBefore : (Nat → Int32)) (items_stretchBefore : (Nat → Int32)) (items_shrinkBefore : (Nat → Int32)) (items_fillBefore : (Nat → Int32)) (ruler_start : Int32) (ruler_stretch : Int32) (ruler_shrink : Int32) (ruler_fill : Int32) (ruler_excess : Int32) (x1 : Int32) (o : Int32) (h : om_f_Ruler_placeOf items_widthBefore items_stretchBefore items_shrinkBefore items_fillBefore ruler_start ruler_stretch ruler_shrink ruler_fill ruler_excess x1 = some o) : Met l yRuler_placeOf wsRuler_placeOf ({ frames := 2, cells := 0, slots := 0, locals := 43 }) (va_Pc [.ref a_ruler, .int x1] (fun U => U.heap.size = sz ∧ va_P (dC, dI) vwCl [(a_items, .inr (1, [.int items_count, .ref a_items_kinds, .ref a_items_penaltyWidths, .ref a_items_costs, .ref a_items_flags, .ref a_items_widthBefore, .ref a_items_stretchBefore, .ref a_items_shrinkBefore, .ref a_items_fillBefore])), (a_items_widthBefore, .inl (c_items_widthBefore, 401, .inl items_widthBefore)), (a_items_stretchBefore, .inl (c_items_stretchBefore, 401, .inl items_stretchBefore)), (a_items_shrinkBefore, .inl (c_items_shrinkBefore, 401, .inl items_shrinkBefore)), (a_items_fillBefore, .inl (c_items_fillBefore, 401, .inl items_fillBefore)), (a_ruler, .inr (3, [.ref a_items, .int ruler_start, .int ruler_stretch, .int ruler_shrink, .int ruler_fill, .int ruler_excess]))] U.heap ∧ va_K (dC, dI) vwCl [(c_items_widthBefore, .int), (c_items_stretchBefore, .int), (c_items_shrinkBefore, .int), (c_items_fillBefore, .int)] U ∧ va_D (fun _ => True) [(a_items, .inr (1, [.int items_count, .ref a_items_kinds, .ref a_items_penaltyWidths, .ref a_items_costs, .ref a_items_flags, .ref a_items_widthBefore, .ref a_items_stretchBefore, .ref a_items_shrinkBefore, .ref a_items_fillBefore])), (a_items_widthBefore, .inl (c_items_widthBefore, 401, .inl items_widthBefore)), (a_items_stretchBefore, .inl (c_items_stretchBefore, 401, .inl items_stretchBefore)), (a_items_shrinkBefore, .inl (c_items_shrinkBefore, 401, .inl items_shrinkBefore)), (a_items_fillBefore, .inl (c_items_fillBefore, 401, .inl items_fillBefore)), (a_ruler, .inr (3, [.ref a_items, .int ruler_start, .int ruler_stretch, .int ruler_shrink, .int ruler_fill, .int ruler_excess]))])) (va_Qi (fun (r : Int32) (_ : Unit) => r = o) (fun (_ : Unit) t => va_P (dC, dI) vwCl [(a_items, .inr (1, [.int items_count, .ref a_items_kinds, .ref a_items_penaltyWidths, .ref a_items_costs, .ref a_items_flags, .ref a_items_widthBefore, .ref a_items_stretchBefore, .ref a_items_shrinkBefore, .ref a_items_fillBefore])), (a_items_widthBefore, .inl (c_items_widthBefore, 401, .inl items_widthBefore)), (a_items_stretchBefore, .inl (c_items_stretchBefore, 401, .inl items_stretchBefore)), (a_items_shrinkBefore, .inl (c_items_shrinkBefore, 401, .inl items_shrinkBefore)), (a_items_fillBefore, .inl (c_items_fillBefore, 401, .inl items_fillBefore)), (a_ruler, .inr (3, [.ref a_items, .int ruler_start, .int ruler_stretch, .int ruler_shrink, .int ruler_fill, .int ruler_excess]))] t.heap ∧ va_K (dC, dI) vwCl [(c_items_widthBefore, .int), (c_items_stretchBefore, .int), (c_items_shrinkBefore, .int), (c_items_fillBefore, .int)] t ∧ va_D (va_A [(a_items, .inr (1, [.int items_count, .ref a_items_kinds, .ref a_items_penaltyWidths, .ref a_items_costs, .ref a_items_flags, .ref a_items_widthBefore, .ref a_items_stretchBefore, .ref a_items_shrinkBefore, .ref a_items_fillBefore])), (a_items_widthBefore, .inl (c_items_widthBefore, 401, .inl items_widthBefore)), (a_items_stretchBefore, .inl (c_items_stretchBefore, 401, .inl items_stretchBefore)), (a_items_shrinkBefore, .inl (c_items_shrinkBefore, 401, .inl items_shrinkBefore)), (a_items_fillBefore, .inl (c_items_fillBefore, 401, .inl items_fillBefore)), (a_ruler, .inr (3, [.ref a_items, .int ruler_start, .int ruler_stretch, .int ruler_shrink, .int ruler_fill, .int ruler_excess]))] sz) [(a_items, .inr (1, [.int items_count, .ref a_items_kinds, .ref a_items_penaltyWidths, .ref a_items_costs, .ref a_items_flags, .ref a_items_widthBefore, .ref a_items_stretchBefore, .ref a_items_shrinkBefore, .ref a_items_fillBefore])), (a_items_widthBefore, .inl (c_items_widthBefore, 401, .inl items_widthBefore)), (a_items_stretchBefore, .inl (c_items_stretchBefore, 401, .inl items_stretchBefore)), (a_items_shrinkBefore, .inl (c_items_shrinkBefore, 401, .inl items_shrinkBefore)), (a_items_fillBefore, .inl (c_items_fillBefore, 401, .inl items_fillBefore)), (a_ruler, .inr (3, [.ref a_items, .int ruler_start, .int ruler_stretch, .int ruler_shrink, .int ruler_fill, .int ruler_excess]))]) (va_A [(a_items, .inr (1, [.int items_count, .ref a_items_kinds, .ref a_items_penaltyWidths, .ref a_items_costs, .ref a_items_flags, .ref a_items_widthBefore, .ref a_items_stretchBefore, .ref a_items_shrinkBefore, .ref a_items_fillBefore])), (a_items_widthBefore, .inl (c_items_widthBefore, 401, .inl items_widthBefore)), (a_items_stretchBefore, .inl (c_items_stretchBefore, 401, .inl items_stretchBefore)), (a_items_shrinkBefore, .inl (c_items_shrinkBefore, 401, .inl items_shrinkBefore)), (a_items_fillBefore, .inl (c_items_fillBefore, 401, .inl items_fillBefore)), (a_ruler, .inr (3, [.ref a_items, .int ruler_start, .int ruler_stretch, .int ruler_shrink, .int ruler_fill, .int ruler_excess]))] sz)) 0 0 (va_A [(a_items, .inr (1, [.int items_count, .ref a_items_kinds, .ref a_items_penaltyWidths, .ref a_items_costs, .ref a_items_flags, .ref a_items_widthBefore, .ref a_items_stretchBefore, .ref a_items_shrinkBefore, .ref a_items_fillBefore])), (a_items_widthBefore, .inl (c_items_widthBefore, 401, .inl items_widthBefore)), (a_items_stretchBefore, .inl (c_items_stretchBefore, 401, .inl items_stretchBefore)), (a_items_shrinkBefore, .inl (c_items_shrinkBefore, 401, .inl items_shrinkBefore)), (a_items_fillBefore, .inl (c_items_fillBefore, 401, .inl items_fillBefore)), (a_ruler, .inr (3, [.ref a_items, .int ruler_start, .int ruler_stretch, .int ruler_shrink, .int ruler_fill, .int ruler_excess]))] sz) := by
  refine Met.ofW (cc := cRuler_placeOf) (maxL := 2) (ret := (some .int)) (by decide) rfl ?_
  intro p e s m args below meth c s₁ B hml hv
  obtain ⟨rfl, hsz, hP, hK, hD0⟩ := hv
  have hx := B.exec
  have hb := B.bytes
  have hr := B.returns
  have hts := atoms_spec (ws := wsRuler_placeOf) B.pre
  have hown : s.vm.findClass RRuler = some m.cls := findClass_of_methodNamed B.named
  have hlocks := B.notSynchronized
  subst hsz
  have hD := hD0.self (sz := s.heap.size)
  generalize hAe : va_A [(a_items, .inr (1, [.int items_count, .ref a_items_kinds, .ref a_items_penaltyWidths, .ref a_items_costs, .ref a_items_flags, .ref a_items_widthBefore, .ref a_items_stretchBefore, .ref a_items_shrinkBefore, .ref a_items_fillBefore])), (a_items_widthBefore, .inl (c_items_widthBefore, 401, .inl items_widthBefore)), (a_items_stretchBefore, .inl (c_items_stretchBefore, 401, .inl items_stretchBefore)), (a_items_shrinkBefore, .inl (c_items_shrinkBefore, 401, .inl items_shrinkBefore)), (a_items_fillBefore, .inl (c_items_fillBefore, 401, .inl items_fillBefore)), (a_ruler, .inr (3, [.ref a_items, .int ruler_start, .int ruler_stretch, .int ruler_shrink, .int ruler_fill, .int ruler_excess]))] s.heap.size = A at hD ⊢
  have hA : ∀ q : Nat, s.heap.size ≤ q → A q := fun q h => by rw [← hAe]; exact Or.inr h
  have hS : va_S A s.heap s.heap [] := va_S.rf
  have hP : va_P (dC, dI) vwCl [(a_items, .inr (1, [.int items_count, .ref a_items_kinds, .ref a_items_penaltyWidths, .ref a_items_costs, .ref a_items_flags, .ref a_items_widthBefore, .ref a_items_stretchBefore, .ref a_items_shrinkBefore, .ref a_items_fillBefore])), (a_items_widthBefore, .inl (c_items_widthBefore, 401, .inl items_widthBefore)), (a_items_stretchBefore, .inl (c_items_stretchBefore, 401, .inl items_stretchBefore)), (a_items_shrinkBefore, .inl (c_items_shrinkBefore, 401, .inl items_shrinkBefore)), (a_items_fillBefore, .inl (c_items_fillBefore, 401, .inl items_fillBefore)), (a_ruler, .inr (3, [.ref a_items, .int ruler_start, .int ruler_stretch, .int ruler_shrink, .int ruler_fill, .int ruler_excess]))] s.heap := hP
  have hl := lv_entry ([.ref a_ruler, .int x1]) (n := 2) (Nat.le_of_ble_eq_true rfl)
  rw [lg_entry_eq]
  generalize (lg_sl ([.ref a_ruler, .int x1]) ++ List.replicate (2 - (lg_sl ([.ref a_ruler, .int x1])).length) Slot.unset).toArray = ls at hl ⊢
  have hl : lv_has ls 2 [(0, .ref a_ruler), (1, .int x1)] := hl
  unfold om_f_Ruler_placeOf at h
  refine lv_aload_n hx hb dRuler_placeOf_0 rfl (lv_at hl 0 rfl) ?_
  refine va_get (D := (dC, dI)) (ci := 3) (v := .ref a_items) (C := RRuler) (T := TRuler) (N := 6) hx hb hts (fun w h => om_m (inRuler w h)) hown hK hP 5 rfl rfl 0 (by decide) (hts _ (om_m w_107)) (fun _ h9 => h9) rfl dRuler_placeOf_1 ?_
  refine va_get (D := (dC, dI)) (ci := 1) (v := .ref a_items_widthBefore) (C := RItems) (T := TItems) (N := 9) hx hb hts (fun w h => om_m (inItems w h)) hown hK hP 0 rfl rfl 5 (by decide) (hts _ (om_m w_40)) (fun _ h9 => h9) rfl dRuler_placeOf_4 ?_
  refine lv_iload_n hx hb dRuler_placeOf_7 rfl (lv_at hl 1 rfl) ?_
  obtain ⟨hi, h⟩ := om_g h
  refine va_iald (D := (dC, dI)) hx hb hK hP 1 0 rfl rfl (om_ok hi) dRuler_placeOf_8 ?_
  refine lv_aload_n hx hb dRuler_placeOf_9 rfl (lv_at hl 0 rfl) ?_
  refine va_get (D := (dC, dI)) (ci := 3) (v := .ref a_items) (C := RRuler) (T := TRuler) (N := 6) hx hb hts (fun w h => om_m (inRuler w h)) hown hK hP 5 rfl rfl 0 (by decide) (hts _ (om_m w_107)) (fun _ h9 => h9) rfl dRuler_placeOf_10 ?_
  refine va_get (D := (dC, dI)) (ci := 1) (v := .ref a_items_widthBefore) (C := RItems) (T := TItems) (N := 9) hx hb hts (fun w h => om_m (inItems w h)) hown hK hP 0 rfl rfl 5 (by decide) (hts _ (om_m w_40)) (fun _ h9 => h9) rfl dRuler_placeOf_13 ?_
  refine lv_aload_n hx hb dRuler_placeOf_16 rfl (lv_at hl 0 rfl) ?_
  refine va_get (D := (dC, dI)) (ci := 3) (v := .int ruler_start) (C := RRuler) (T := TRuler) (N := 6) hx hb hts (fun w h => om_m (inRuler w h)) hown hK hP 5 rfl rfl 1 (by decide) (hts _ (om_m w_108)) (fun _ h9 => h9) rfl dRuler_placeOf_17 ?_
  obtain ⟨hi, h⟩ := om_g h
  refine va_iald (D := (dC, dI)) hx hb hK hP 1 0 rfl rfl (om_ok hi) dRuler_placeOf_20 ?_
  refine lv_isub hx hb dRuler_placeOf_21 ?_
  refine lv_aload_n hx hb dRuler_placeOf_22 rfl (lv_at hl 0 rfl) ?_
  refine lv_iload_n hx hb dRuler_placeOf_23 rfl (lv_at hl 1 rfl) ?_
  obtain ⟨u1, hu1, h⟩ := om_b h
  have hPc := hP.sub (ws' := [(a_items, .inr (1, [.int items_count, .ref a_items_kinds, .ref a_items_penaltyWidths, .ref a_items_costs, .ref a_items_flags, .ref a_items_widthBefore, .ref a_items_stretchBefore, .ref a_items_shrinkBefore, .ref a_items_fillBefore])), (a_items_stretchBefore, .inl (c_items_stretchBefore, 401, .inl items_stretchBefore)), (a_items_shrinkBefore, .inl (c_items_shrinkBefore, 401, .inl items_shrinkBefore)), (a_items_fillBefore, .inl (c_items_fillBefore, 401, .inl items_fillBefore)), (a_ruler, .inr (3, [.ref a_items, .int ruler_start, .int ruler_stretch, .int ruler_shrink, .int ruler_fill, .int ruler_excess]))]) [0, 2, 3, 4, 5] rfl
  have hDc := hD.sub (ws' := [(a_items, .inr (1, [.int items_count, .ref a_items_kinds, .ref a_items_penaltyWidths, .ref a_items_costs, .ref a_items_flags, .ref a_items_widthBefore, .ref a_items_stretchBefore, .ref a_items_shrinkBefore, .ref a_items_fillBefore])), (a_items_stretchBefore, .inl (c_items_stretchBefore, 401, .inl items_stretchBefore)), (a_items_shrinkBefore, .inl (c_items_shrinkBefore, 401, .inl items_shrinkBefore)), (a_items_fillBefore, .inl (c_items_fillBefore, 401, .inl items_fillBefore)), (a_ruler, .inr (3, [.ref a_items, .int ruler_start, .int ruler_stretch, .int ruler_shrink, .int ruler_fill, .int ruler_excess]))]) [0, 2, 3, 4, 5] (by decide) rfl
  have hKc := hK.sub (tys' := [(c_items_stretchBefore, .int), (c_items_shrinkBefore, .int), (c_items_fillBefore, .int)]) [1, 2, 3] rfl
  have hFc := va_free (wc := [(a_items, .inr (1, [.int items_count, .ref a_items_kinds, .ref a_items_penaltyWidths, .ref a_items_costs, .ref a_items_flags, .ref a_items_widthBefore, .ref a_items_stretchBefore, .ref a_items_shrinkBefore, .ref a_items_fillBefore])), (a_items_stretchBefore, .inl (c_items_stretchBefore, 401, .inl items_stretchBefore)), (a_items_shrinkBefore, .inl (c_items_shrinkBefore, 401, .inl items_shrinkBefore)), (a_items_fillBefore, .inl (c_items_fillBefore, 401, .inl items_fillBefore)), (a_ruler, .inr (3, [.ref a_items, .int ruler_start, .int ruler_stretch, .int ruler_shrink, .int ruler_fill, .int ruler_excess]))]) hD hS hA [0, 2, 3, 4, 5] rfl
  refine va_calli (va_runV (As := [.int x1]) (rest := [.int ((items_widthBefore x1.toNatClampNeg) - (items_widthBefore ruler_start.toNatClampNeg))]) ⟨hx, hb, hml, hown, hts⟩ (om_k_Ruler_partBefore l dC dI a_items a_items_stretchBefore a_items_shrinkBefore a_items_fillBefore a_ruler a_items_kinds a_items_penaltyWidths a_items_costs a_items_flags a_items_widthBefore c_items_stretchBefore c_items_shrinkBefore c_items_fillBefore s.heap.size items_count items_stretchBefore items_shrinkBefore items_fillBefore ruler_start ruler_stretch ruler_shrink ruler_fill ruler_excess x1 u1 hu1) (cwV 1 hts (om_gv w_543 w_544 w_795 w_7 w_545) rfl rfl rfl (by decide +kernel) ⟨Nat.le_of_ble_eq_true rfl, Nat.le_of_ble_eq_true rfl⟩) ⟨fun a U g mk q => by obtain ⟨q0, q1, qP, qK, qD⟩ := q; exact ⟨q0, q1, qP, va_K.moved (u := U) (U := U.calling g mk a) (Vm.Alike.refl U.vm) qK, qD⟩, va_recv hKc hPc (ci := 3) (q0 := 4) rfl rfl, fun U hU hW => ⟨rfl, by rw [hU], by rw [hU]; exact hPc, va_K.moved hW.alike hKc, hDc.weaken (fun _ _ _ _ => trivial)⟩⟩ rfl rfl hl.1 rfl (lv_room (Nat.le_of_ble_eq_true rfl)) dRuler_placeOf_24 ⟨Nat.le_of_ble_eq_true rfl, Nat.le_of_ble_eq_true rfl⟩) hS (fun q _ h => hFc q h) hFc (fun r9 uz t H1 locs ht hvm hw hB hz1 hk1 hS => ?_)
  replace hw := hw.symm
  subst hw
  obtain ⟨hP1, hK1, hD1⟩ := hB
  rw [ht] at hP1
  obtain ⟨hP, hD⟩ := va_join (wr := [(a_items_widthBefore, .inl (c_items_widthBefore, 401, .inl items_widthBefore))]) (w1 := [(a_items, .inr (1, [.int items_count, .ref a_items_kinds, .ref a_items_penaltyWidths, .ref a_items_costs, .ref a_items_flags, .ref a_items_widthBefore, .ref a_items_stretchBefore, .ref a_items_shrinkBefore, .ref a_items_fillBefore])), (a_items_stretchBefore, .inl (c_items_stretchBefore, 401, .inl items_stretchBefore)), (a_items_shrinkBefore, .inl (c_items_shrinkBefore, 401, .inl items_shrinkBefore)), (a_items_fillBefore, .inl (c_items_fillBefore, 401, .inl items_fillBefore)), (a_ruler, .inr (3, [.ref a_items, .int ruler_start, .int ruler_stretch, .int ruler_shrink, .int ruler_fill, .int ruler_excess]))]) hP hD [0, 2, 3, 4, 5] [1] rfl rfl (by decide) (by decide) hk1 hFc hP1 hD1
  generalize H1 = H at hP hS ⊢
  have hP : va_P (dC, dI) vwCl [(a_items_widthBefore, .inl (c_items_widthBefore, 401, .inl items_widthBefore)), (a_items, .inr (1, [.int items_count, .ref a_items_kinds, .ref a_items_penaltyWidths, .ref a_items_costs, .ref a_items_flags, .ref a_items_widthBefore, .ref a_items_stretchBefore, .ref a_items_shrinkBefore, .ref a_items_fillBefore])), (a_items_stretchBefore, .inl (c_items_stretchBefore, 401, .inl items_stretchBefore)), (a_items_shrinkBefore, .inl (c_items_shrinkBefore, 401, .inl items_shrinkBefore)), (a_items_fillBefore, .inl (c_items_fillBefore, 401, .inl items_fillBefore)), (a_ruler, .inr (3, [.ref a_items, .int ruler_start, .int ruler_stretch, .int ruler_shrink, .int ruler_fill, .int ruler_excess]))] H := hP
  have hD : va_D A [(a_items_widthBefore, .inl (c_items_widthBefore, 401, .inl items_widthBefore)), (a_items, .inr (1, [.int items_count, .ref a_items_kinds, .ref a_items_penaltyWidths, .ref a_items_costs, .ref a_items_flags, .ref a_items_widthBefore, .ref a_items_stretchBefore, .ref a_items_shrinkBefore, .ref a_items_fillBefore])), (a_items_stretchBefore, .inl (c_items_stretchBefore, 401, .inl items_stretchBefore)), (a_items_shrinkBefore, .inl (c_items_shrinkBefore, 401, .inl items_shrinkBefore)), (a_items_fillBefore, .inl (c_items_fillBefore, 401, .inl items_fillBefore)), (a_ruler, .inr (3, [.ref a_items, .int ruler_start, .int ruler_stretch, .int ruler_shrink, .int ruler_fill, .int ruler_excess]))] := hD
  refine W.widen (k := 0) (n := 0) (Nat.le_of_ble_eq_true rfl) (Nat.le_of_ble_eq_true rfl) ?_
  refine lv_iadd hx hb dRuler_placeOf_27 ?_
  obtain rfl := Option.some.inj h
  have hP9 := hP.sub (ws' := [(a_items, .inr (1, [.int items_count, .ref a_items_kinds, .ref a_items_penaltyWidths, .ref a_items_costs, .ref a_items_flags, .ref a_items_widthBefore, .ref a_items_stretchBefore, .ref a_items_shrinkBefore, .ref a_items_fillBefore])), (a_items_widthBefore, .inl (c_items_widthBefore, 401, .inl items_widthBefore)), (a_items_stretchBefore, .inl (c_items_stretchBefore, 401, .inl items_stretchBefore)), (a_items_shrinkBefore, .inl (c_items_shrinkBefore, 401, .inl items_shrinkBefore)), (a_items_fillBefore, .inl (c_items_fillBefore, 401, .inl items_fillBefore)), (a_ruler, .inr (3, [.ref a_items, .int ruler_start, .int ruler_stretch, .int ruler_shrink, .int ruler_fill, .int ruler_excess]))]) [1, 0, 2, 3, 4, 5] rfl
  have hD9 := hD.sub (ws' := [(a_items, .inr (1, [.int items_count, .ref a_items_kinds, .ref a_items_penaltyWidths, .ref a_items_costs, .ref a_items_flags, .ref a_items_widthBefore, .ref a_items_stretchBefore, .ref a_items_shrinkBefore, .ref a_items_fillBefore])), (a_items_widthBefore, .inl (c_items_widthBefore, 401, .inl items_widthBefore)), (a_items_stretchBefore, .inl (c_items_stretchBefore, 401, .inl items_stretchBefore)), (a_items_shrinkBefore, .inl (c_items_shrinkBefore, 401, .inl items_shrinkBefore)), (a_items_fillBefore, .inl (c_items_fillBefore, 401, .inl items_fillBefore)), (a_ruler, .inr (3, [.ref a_items, .int ruler_start, .int ruler_stretch, .int ruler_shrink, .int ruler_fill, .int ruler_excess]))]) [1, 0, 2, 3, 4, 5] (by decide) rfl
  have hK9 := hK.sub (tys' := [(c_items_widthBefore, .int), (c_items_stretchBefore, .int), (c_items_shrinkBefore, .int), (c_items_fillBefore, .int)]) [0, 1, 2, 3] rfl
  exact W.iret (v := ((items_widthBefore x1.toNatClampNeg) - (items_widthBefore ruler_start.toNatClampNeg)) + u1) hx hb hr (fun t ht hW => ⟨⟨_, (), rfl, rfl, by rw [ht]; exact hP9, va_K.moved hW.alike hK9, hD9⟩, hS.F ht⟩) hS.2.2 dRuler_placeOf_28
