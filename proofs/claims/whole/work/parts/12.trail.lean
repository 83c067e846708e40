set_option maxHeartbeats 4000000 in
set_option maxRecDepth 100000 in
theorem om_k_Trail_init (l : Launch) (dC : Nat → ClassId) (dI : Nat → Nat → Nat) (a_trail : Nat)  (sz : Nat) : Met l yTrail_init wsTrail_init ({ frames := 1, cells := 1, slots := 16080, locals := 12 }) (va_Pc [.ref a_trail] (fun U => U.heap.size = sz ∧ va_P (dC, dI) vwCl [(a_trail, .inr (5, [.null]))] U.heap ∧ va_K (dC, dI) vwCl [] U ∧ va_D (fun _ => True) [(a_trail, .inr (5, [.null]))])) (va_Qv (fun (_ : Unit) => True) (fun (_ : Unit) t => ∃ (b_trail_roots : Nat) (bc_trail_roots : ClassId), va_P (dC, dI) vwCl [(a_trail, .inr (5, [.ref b_trail_roots])), (b_trail_roots, .inl (bc_trail_roots, 16080, .inr (.inl (fun _ => 0))))] t.heap ∧ va_K (dC, dI) vwCl [(bc_trail_roots, .long)] t ∧ va_D (va_A [(a_trail, .inr (5, [.null]))] sz) [(a_trail, .inr (5, [.ref b_trail_roots])), (b_trail_roots, .inl (bc_trail_roots, 16080, .inr (.inl (fun _ => 0))))]) (va_A [(a_trail, .inr (5, [.null]))] sz)) 1 16080 (va_A [(a_trail, .inr (5, [.null]))] sz) := by
  refine Met.ofW (cc := cTrail_init) (maxL := 1) (ret := none) (by decide) rfl ?_
  intro p e s m args below meth c s₁ B hml hv
  obtain ⟨rfl, hsz, hP, hK, hD0⟩ := hv
  have hx := B.exec
  have hb := B.bytes
  have hr := B.returns
  have hts := atoms_spec (ws := wsTrail_init) B.pre
  have hown : s.vm.findClass RTrail = some m.cls := findClass_of_methodNamed B.named
  have hlocks := B.notSynchronized
  have hin : meth.name = "<init>" := (name_of_methodNamed B.named B.method).1
  subst hsz
  have hD := hD0.self (sz := s.heap.size)
  generalize hAe : va_A [(a_trail, .inr (5, [.null]))] s.heap.size = A at hD ⊢
  have hA : ∀ q : Nat, s.heap.size ≤ q → A q := fun q h => by rw [← hAe]; exact Or.inr h
  have hS : va_S A s.heap s.heap [] := va_S.rf
  have hP : va_P (dC, dI) vwCl [(a_trail, .inr (5, [.null]))] s.heap := hP
  have hl := lv_entry ([.ref a_trail]) (n := 1) (Nat.le_of_ble_eq_true rfl)
  rw [lg_entry_eq]
  generalize (lg_sl ([.ref a_trail]) ++ List.replicate (1 - (lg_sl ([.ref a_trail])).length) Slot.unset).toArray = ls at hl ⊢
  have hl : lv_has ls 1 [(0, .ref a_trail)] := hl
  refine lv_aload_n hx hb dTrail_init_0 rfl (lv_at hl 0 rfl) ?_
  refine W.objInit hx hb hown (hts _ (om_m w_130)) (hts _ (om_m w_24)) (hts _ (om_m w_25)) rfl (by rw [hml]; exact hl.1) rfl dTrail_init_1 (Nat.le_of_ble_eq_true rfl) (Nat.le_of_ble_eq_true rfl) ?_
  refine W.eq (g2 := F0 m 4 ls []) rfl ?_
  refine lv_aload_n hx hb dTrail_init_4 rfl (lv_at hl 0 rfl) ?_
  refine lv_sipush (v := 16080) hx hb dTrail_init_5 (by decide) ?_
  refine va_newa (atype := .long) (N' := 16080) (a0 := (16080, .inr (.inl (fun _ => 0)))) (ty := .long) (n := 16080) hx hb (hts _ (om_m w_133)) rfl hK hP hD hS hA (fun _ => rfl) (by decide) (by decide) (by decide) (Nat.le_of_ble_eq_true rfl) (Nat.le_of_ble_eq_true rfl) dTrail_init_8 (fun q1 qc2 H hK hP hD hS => ?_)
  have hK : va_K (dC, dI) vwCl [(qc2, .long)] s := hK
  have hP : va_P (dC, dI) vwCl [(a_trail, .inr (5, [.null])), (q1, .inl (qc2, 16080, .inr (.inl (fun _ => 0))))] H := hP
  have hD : va_D A [(a_trail, .inr (5, [.null])), (q1, .inl (qc2, 16080, .inr (.inl (fun _ => 0))))] := hD
  refine W.widen (k := 1) (n := 16080) (Nat.le_of_ble_eq_true rfl) (Nat.le_of_ble_eq_true rfl) ?_
  refine va_putF (D := (dC, dI)) (ci := 5) (v := .ref q1) (ty := .array .long) (C := RTrail) (T := TTrail) (N := 1) hx hb hts (fun w h => om_m (inTrail w h)) tyTrail tyTrail_ok nmTrail hown hK hP hD hS 0 rfl rfl 0 (by decide) (hts _ (om_m w_131)) (fun _ h9 => h9) rfl hin rfl (by decide +kernel) rfl rfl (Nat.le_of_ble_eq_true rfl) dTrail_init_10 (fun H locs hP hD hS => ?_)
  have hP : va_P (dC, dI) vwCl [(a_trail, .inr (5, [.ref q1])), (q1, .inl (qc2, 16080, .inr (.inl (fun _ => 0))))] H := hP
  have hD : va_D A [(a_trail, .inr (5, [.ref q1])), (q1, .inl (qc2, 16080, .inr (.inl (fun _ => 0))))] := hD
  have hP9 := hP.sub (ws' := [(a_trail, .inr (5, [.ref q1])), (q1, .inl (qc2, 16080, .inr (.inl (fun _ => 0))))]) [0, 1] rfl
  have hD9 := hD.sub (ws' := [(a_trail, .inr (5, [.ref q1])), (q1, .inl (qc2, 16080, .inr (.inl (fun _ => 0))))]) [0, 1] (by decide) rfl
  have hK9 := hK.sub (tys' := [(qc2, .long)]) [0] rfl
  exact W.vret hx hb hr (fun t ht hW => ⟨⟨(), rfl, trivial, q1, qc2, by rw [ht]; exact hP9, va_K.moved hW.alike hK9, hD9⟩, hS.F ht⟩) hS.2.2 dTrail_init_13
def om_f_Trail_keep (trail_roots : (Nat → Int64)) (x1 : Int32) (x2 : Int32) (x3 : Int32) (x4 : Int32) : Option (Nat → Int64) := if om_in ((x1 * 402) + x2) 16080 = true then if om_in ((x1 * 402) + x2) 16080 = true then some (vp_updL trail_roots ((x1 * 402) + x2).toNatClampNeg (((trail_roots ((x1 * 402) + x2).toNatClampNeg) &&& ((65535 <<< ((16 * x3).toInt64 &&& 63)) ^^^ (-1))) ||| (x4.toInt64 <<< ((16 * x3).toInt64 &&& 63)))) else none else none
set_option maxHeartbeats 4000000 in
set_option maxRecDepth 100000 in
theorem om_k_Trail_keep (l : Launch) (dC : Nat → ClassId) (dI : Nat → Nat → Nat) (a_trail : Nat) (a_trail_roots : Nat) (c_trail_roots : ClassId)  (sz : Nat) (trail_roots : (Nat → Int64)) (x1 : Int32) (x2 : Int32) (x3 : Int32) (x4 : Int32) (o : (Nat → Int64)) (h : om_f_Trail_keep trail_roots x1 x2 x3 x4 = some o) : Met l yTrail_keep wsTrail_keep ({ frames := 0, cells := 0, slots := 0, locals := 0 }) (va_Pc [.ref a_trail, .int x1, .int x2, .int x3, .int x4] (fun U => U.heap.size = sz ∧ va_P (dC, dI) vwCl [(a_trail, .inr (5, [.ref a_trail_roots])), (a_trail_roots, .inl (c_trail_roots, 16080, .inr (.inl trail_roots)))] U.heap ∧ va_K (dC, dI) vwCl [(c_trail_roots, .long)] U ∧ va_D (fun _ => True) [(a_trail, .inr (5, [.ref a_trail_roots])), (a_trail_roots, .inl (c_trail_roots, 16080, .inr (.inl trail_roots)))])) (va_Qv (fun (_ : Unit) => True) (fun (_ : Unit) t => va_P (dC, dI) vwCl [(a_trail, .inr (5, [.ref a_trail_roots])), (a_trail_roots, .inl (c_trail_roots, 16080, .inr (.inl o)))] t.heap ∧ va_K (dC, dI) vwCl [(c_trail_roots, .long)] t ∧ va_D (va_A [(a_trail, .inr (5, [.ref a_trail_roots])), (a_trail_roots, .inl (c_trail_roots, 16080, .inr (.inl trail_roots)))] sz) [(a_trail, .inr (5, [.ref a_trail_roots])), (a_trail_roots, .inl (c_trail_roots, 16080, .inr (.inl o)))]) (va_A [(a_trail, .inr (5, [.ref a_trail_roots])), (a_trail_roots, .inl (c_trail_roots, 16080, .inr (.inl trail_roots)))] sz)) 0 0 (va_A [(a_trail, .inr (5, [.ref a_trail_roots])), (a_trail_roots, .inl (c_trail_roots, 16080, .inr (.inl trail_roots)))] sz) := by
  refine Met.ofW (cc := cTrail_keep) (maxL := 7) (ret := none) (by decide) rfl ?_
  intro p e s m args below meth c s₁ B hml hv
  obtain ⟨rfl, hsz, hP, hK, hD0⟩ := hv
  have hx := B.exec
  have hb := B.bytes
  have hr := B.returns
  have hts := atoms_spec (ws := wsTrail_keep) B.pre
  have hown : s.vm.findClass RTrail = some m.cls := findClass_of_methodNamed B.named
  have hlocks := B.notSynchronized
  subst hsz
  have hD := hD0.self (sz := s.heap.size)
  generalize hAe : va_A [(a_trail, .inr (5, [.ref a_trail_roots])), (a_trail_roots, .inl (c_trail_roots, 16080, .inr (.inl trail_roots)))] s.heap.size = A at hD ⊢
  have hA : ∀ q : Nat, s.heap.size ≤ q → A q := fun q h => by rw [← hAe]; exact Or.inr h
  have hS : va_S A s.heap s.heap [] := va_S.rf
  have hP : va_P (dC, dI) vwCl [(a_trail, .inr (5, [.ref a_trail_roots])), (a_trail_roots, .inl (c_trail_roots, 16080, .inr (.inl trail_roots)))] s.heap := hP
  have hl := lv_entry ([.ref a_trail, .int x1, .int x2, .int x3, .int x4]) (n := 7) (Nat.le_of_ble_eq_true rfl)
  rw [lg_entry_eq]
  generalize (lg_sl ([.ref a_trail, .int x1, .int x2, .int x3, .int x4]) ++ List.replicate (7 - (lg_sl ([.ref a_trail, .int x1, .int x2, .int x3, .int x4])).length) Slot.unset).toArray = ls at hl ⊢
  have hl : lv_has ls 7 [(0, .ref a_trail), (1, .int x1), (2, .int x2), (3, .int x3), (4, .int x4)] := hl
  unfold om_f_Trail_keep at h
  refine lv_iload_n hx hb dTrail_keep_0 rfl (lv_at hl 1 rfl) ?_
  refine lv_sipush (v := 402) hx hb dTrail_keep_1 (by decide) ?_
  refine lv_imul hx hb dTrail_keep_4 ?_
  refine lv_iload_n hx hb dTrail_keep_5 rfl (lv_at hl 2 rfl) ?_
  refine lv_iadd hx hb dTrail_keep_6 ?_
  refine lv_istore (lv' := [(5, .int ((x1 * 402) + x2)), (0, .ref a_trail), (1, .int x1), (2, .int x2), (3, .int x3), (4, .int x4)]) hx hb dTrail_keep_7 hl (by decide) rfl (fun ls hl => ?_)
  refine lv_bipush (v := 16) hx hb dTrail_keep_9 (by decide) ?_
  refine lv_iload_n hx hb dTrail_keep_11 rfl (lv_at hl 4 rfl) ?_
  refine lv_imul hx hb dTrail_keep_12 ?_
  refine lv_istore (lv' := [(6, .int (16 * x3)), (5, .int ((x1 * 402) + x2)), (0, .ref a_trail), (1, .int x1), (2, .int x2), (3, .int x3), (4, .int x4)]) hx hb dTrail_keep_13 hl (by decide) rfl (fun ls hl => ?_)
  refine lv_aload_n hx hb dTrail_keep_15 rfl (lv_at hl 2 rfl) ?_
  refine va_get (D := (dC, dI)) (ci := 5) (v := .ref a_trail_roots) (C := RTrail) (T := TTrail) (N := 1) hx hb hts (fun w h => om_m (inTrail w h)) hown hK hP 0 rfl rfl 0 (by decide) (hts _ (om_m w_131)) (fun _ h9 => h9) rfl dTrail_keep_16 ?_
  refine lv_iload hx hb dTrail_keep_19 (lv_at hl 1 rfl) ?_
  refine lv_aload_n hx hb dTrail_keep_21 rfl (lv_at hl 2 rfl) ?_
  refine va_get (D := (dC, dI)) (ci := 5) (v := .ref a_trail_roots) (C := RTrail) (T := TTrail) (N := 1) hx hb hts (fun w h => om_m (inTrail w h)) hown hK hP 0 rfl rfl 0 (by decide) (hts _ (om_m w_131)) (fun _ h9 => h9) rfl dTrail_keep_22 ?_
  refine lv_iload hx hb dTrail_keep_25 (lv_at hl 1 rfl) ?_
  obtain ⟨hi, h⟩ := om_g h
  refine va_lald (D := (dC, dI)) hx hb hK hP 1 0 rfl rfl (om_ok hi) dTrail_keep_27 ?_
  refine lv_ldc2 (v := 65535) hx hb hown (hts _ (om_m w_391)) dTrail_keep_28 ?_
  refine lv_iload hx hb dTrail_keep_31 (lv_at hl 0 rfl) ?_
  refine lv_lshl hx hb dTrail_keep_33 rfl ?_
  refine lv_ldc2 (v := (-1)) hx hb hown (hts _ (om_m w_446)) dTrail_keep_34 ?_
  refine lv_lxor hx hb dTrail_keep_37 ?_
  refine lv_land hx hb dTrail_keep_38 ?_
  refine lv_iload hx hb dTrail_keep_39 (lv_at hl 6 rfl) ?_
  refine lv_i2l hx hb dTrail_keep_41 rfl ?_
  refine lv_iload hx hb dTrail_keep_42 (lv_at hl 0 rfl) ?_
  refine lv_lshl hx hb dTrail_keep_44 rfl ?_
  refine lv_lor hx hb dTrail_keep_45 ?_
  obtain ⟨hi, h⟩ := om_g h
  refine va_last (D := (dC, dI)) hx hb hK hP hD hS 1 0 rfl rfl (om_ok hi) dTrail_keep_46 (fun H locs hP hD hS => ?_)
  have hP : va_P (dC, dI) vwCl [(a_trail, .inr (5, [.ref a_trail_roots])), (a_trail_roots, .inl (c_trail_roots, 16080, .inr (.inl (vp_updL trail_roots ((x1 * 402) + x2).toNatClampNeg (((trail_roots ((x1 * 402) + x2).toNatClampNeg) &&& ((65535 <<< ((16 * x3).toInt64 &&& 63)) ^^^ (-1))) ||| (x4.toInt64 <<< ((16 * x3).toInt64 &&& 63)))))))] H := hP
  have hD : va_D A [(a_trail, .inr (5, [.ref a_trail_roots])), (a_trail_roots, .inl (c_trail_roots, 16080, .inr (.inl (vp_updL trail_roots ((x1 * 402) + x2).toNatClampNeg (((trail_roots ((x1 * 402) + x2).toNatClampNeg) &&& ((65535 <<< ((16 * x3).toInt64 &&& 63)) ^^^ (-1))) ||| (x4.toInt64 <<< ((16 * x3).toInt64 &&& 63)))))))] := hD
  obtain rfl := Option.some.inj h
  have hP9 := hP.sub (ws' := [(a_trail, .inr (5, [.ref a_trail_roots])), (a_trail_roots, .inl (c_trail_roots, 16080, .inr (.inl (vp_updL trail_roots ((x1 * 402) + x2).toNatClampNeg (((trail_roots ((x1 * 402) + x2).toNatClampNeg) &&& ((65535 <<< ((16 * x3).toInt64 &&& 63)) ^^^ (-1))) ||| (x4.toInt64 <<< ((16 * x3).toInt64 &&& 63)))))))]) [0, 1] rfl
  have hD9 := hD.sub (ws' := [(a_trail, .inr (5, [.ref a_trail_roots])), (a_trail_roots, .inl (c_trail_roots, 16080, .inr (.inl (vp_updL trail_roots ((x1 * 402) + x2).toNatClampNeg (((trail_roots ((x1 * 402) + x2).toNatClampNeg) &&& ((65535 <<< ((16 * x3).toInt64 &&& 63)) ^^^ (-1))) ||| (x4.toInt64 <<< ((16 * x3).toInt64 &&& 63)))))))]) [0, 1] (by decide) rfl
  have hK9 := hK.sub (tys' := [(c_trail_roots, .long)]) [0] rfl
  exact W.vret hx hb hr (fun t ht hW => ⟨⟨(), rfl, trivial, by rw [ht]; exact hP9, va_K.moved hW.alike hK9, hD9⟩, hS.F ht⟩) hS.2.2 dTrail_keep_47
def om_f_Trail_root (trail_roots : (Nat → Int64)) (x1 : Int32) (x2 : Int32) (x3 : Int32) : Option Int32 := if om_in ((x1 * 402) + x2) 16080 = true then some (((((trail_roots ((x1 * 402) + x2).toNatClampNeg).toUInt64 >>> ((16 * x3).toInt64.toUInt64 &&& Int64.toUInt64 63)).toInt64) &&& 65535).toInt32) else none
set_option maxHeartbeats 4000000 in
set_option maxRecDepth 100000 in
theorem om_k_Trail_root (l : Launch) (dC : Nat → ClassId) (dI : Nat → Nat → Nat) (a_trail : Nat) (a_trail_roots : Nat) (c_trail_roots : ClassId)  (sz : Nat) (trail_roots : (Nat → Int64)) (x1 : Int32) (x2 : Int32) (x3 : Int32) (o : Int32) (h : om_f_Trail_root trail_roots x1 x2 x3 = some o) : Met l yTrail_root wsTrail_root ({ frames := 0, cells := 0, slots := 0, locals := 0 }) (va_Pc [.ref a_trail, .int x1, .int x2, .int x3] (fun U => U.heap.size = sz ∧ va_P (dC, dI) vwCl [(a_trail, .inr (5, [.ref a_trail_roots])), (a_trail_roots, .inl (c_trail_roots, 16080, .inr (.inl trail_roots)))] U.heap ∧ va_K (dC, dI) vwCl [(c_trail_roots, .long)] U ∧ va_D (fun _ => True) [(a_trail, .inr (5, [.ref a_trail_roots])), (a_trail_roots, .inl (c_trail_roots, 16080, .inr (.inl trail_roots)))])) (va_Qi (fun (r : Int32) (_ : Unit) => r = o) (fun (_ : Unit) t => va_P (dC, dI) vwCl [(a_trail, .inr (5, [.ref a_trail_roots])), (a_trail_roots, .inl (c_trail_roots, 16080, .inr (.inl trail_roots)))] t.heap ∧ va_K (dC, dI) vwCl [(c_trail_roots, .long)] t ∧ va_D (va_A [(a_trail, .inr (5, [.ref a_trail_roots])), (a_trail_roots, .inl (c_trail_roots, 16080, .inr (.inl trail_roots)))] sz) [(a_trail, .inr (5, [.ref a_trail_roots])), (a_trail_roots, .inl (c_trail_roots, 16080, .inr (.inl trail_roots)))]) (va_A [(a_trail, .inr (5, [.ref a_trail_roots])), (a_trail_roots, .inl (c_trail_roots, 16080, .inr (.inl trail_roots)))] sz)) 0 0 (va_A [(a_trail, .inr (5, [.ref a_trail_roots])), (a_trail_roots, .inl (c_trail_roots, 16080, .inr (.inl trail_roots)))] sz) := by
  refine Met.ofW (cc := cTrail_root) (maxL := 4) (ret := (some .int)) (by decide) rfl ?_
  intro p e s m args below meth c s₁ B hml hv
  obtain ⟨rfl, hsz, hP, hK, hD0⟩ := hv
  have hx := B.exec
  have hb := B.bytes
  have hr := B.returns
  have hts := atoms_spec (ws := wsTrail_root) B.pre
  have hown : s.vm.findClass RTrail = some m.cls := findClass_of_methodNamed B.named
  have hlocks := B.notSynchronized
  subst hsz
  have hD := hD0.self (sz := s.heap.size)
  generalize hAe : va_A [(a_trail, .inr (5, [.ref a_trail_roots])), (a_trail_roots, .inl (c_trail_roots, 16080, .inr (.inl trail_roots)))] s.heap.size = A at hD ⊢
  have hA : ∀ q : Nat, s.heap.size ≤ q → A q := fun q h => by rw [← hAe]; exact Or.inr h
  have hS : va_S A s.heap s.heap [] := va_S.rf
  have hP : va_P (dC, dI) vwCl [(a_trail, .inr (5, [.ref a_trail_roots])), (a_trail_roots, .inl (c_trail_roots, 16080, .inr (.inl trail_roots)))] s.heap := hP
  have hl := lv_entry ([.ref a_trail, .int x1, .int x2, .int x3]) (n := 4) (Nat.le_of_ble_eq_true rfl)
  rw [lg_entry_eq]
  generalize (lg_sl ([.ref a_trail, .int x1, .int x2, .int x3]) ++ List.replicate (4 - (lg_sl ([.ref a_trail, .int x1, .int x2, .int x3])).length) Slot.unset).toArray = ls at hl ⊢
  have hl : lv_has ls 4 [(0, .ref a_trail), (1, .int x1), (2, .int x2), (3, .int x3)] := hl
  unfold om_f_Trail_root at h
  refine lv_aload_n hx hb dTrail_root_0 rfl (lv_at hl 0 rfl) ?_
  refine va_get (D := (dC, dI)) (ci := 5) (v := .ref a_trail_roots) (C := RTrail) (T := TTrail) (N := 1) hx hb hts (fun w h => om_m (inTrail w h)) hown hK hP 0 rfl rfl 0 (by decide) (hts _ (om_m w_131)) (fun _ h9 => h9) rfl dTrail_root_1 ?_
  refine lv_iload_n hx hb dTrail_root_4 rfl (lv_at hl 1 rfl) ?_
  refine lv_sipush (v := 402) hx hb dTrail_root_5 (by decide) ?_
  refine lv_imul hx hb dTrail_root_8 ?_
  refine lv_iload_n hx hb dTrail_root_9 rfl (lv_at hl 2 rfl) ?_
  refine lv_iadd hx hb dTrail_root_10 ?_
  obtain ⟨hi, h⟩ := om_g h
  refine va_lald (D := (dC, dI)) hx hb hK hP 1 0 rfl rfl (om_ok hi) dTrail_root_11 ?_
  refine lv_bipush (v := 16) hx hb dTrail_root_12 (by decide) ?_
  refine lv_iload_n hx hb dTrail_root_14 rfl (lv_at hl 3 rfl) ?_
  refine lv_imul hx hb dTrail_root_15 ?_
  refine lv_lushr hx hb dTrail_root_16 rfl ?_
  refine lv_ldc2 (v := 65535) hx hb hown (hts _ (om_m w_391)) dTrail_root_17 ?_
  refine lv_land hx hb dTrail_root_20 ?_
  refine lv_l2i hx hb dTrail_root_21 rfl ?_
  obtain rfl := Option.some.inj h
  have hP9 := hP.sub (ws' := [(a_trail, .inr (5, [.ref a_trail_roots])), (a_trail_roots, .inl (c_trail_roots, 16080, .inr (.inl trail_roots)))]) [0, 1] rfl
  have hD9 := hD.sub (ws' := [(a_trail, .inr (5, [.ref a_trail_roots])), (a_trail_roots, .inl (c_trail_roots, 16080, .inr (.inl trail_roots)))]) [0, 1] (by decide) rfl
  have hK9 := hK.sub (tys' := [(c_trail_roots, .long)]) [0] rfl
  exact W.iret (v := ((((trail_roots ((x1 * 402) + x2).toNatClampNeg).toUInt64 >>> ((16 * x3).toInt64.toUInt64 &&& Int64.toUInt64 63)).toInt64) &&& 65535).toInt32) hx hb hr (fun t ht hW => ⟨⟨_, (), rfl, rfl, by rw [ht]; exact hP9, va_K.moved hW.alike hK9, hD9⟩, hS.F ht⟩) hS.2.2 dTrail_root_22
