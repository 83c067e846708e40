def om_f_OL_setting (ol_settings : (Nat → Int32)) (x1 : Int32) (x2 : Int32) : Option (Nat ⊕ ((Nat → Int32) × Int32 × Int32)) := (om_f_OL_requireWithin x1 0 7).bind fun u1 => om_c u1 (fun k9 => some (.inl k9)) (fun u1w => if om_in x1 8 = true then if om_in x1 8 = true then (om_f_OL_requireWithin x2 (om_least x1.toNatClampNeg) (om_most x1.toNatClampNeg)).bind fun u4 => om_c u4 (fun k9 => some (.inl k9)) (fun u4w => om_r (if om_in x1 8 = true then if om_in x1 8 = true then some (upd ol_settings x1.toNatClampNeg x2, 0, ol_settings x1.toNatClampNeg) else none else none)) else none else none)
set_option maxHeartbeats 4000000 in
set_option maxRecDepth 100000 in
theorem om_k_OL_setting (l : Launch) (dC : Nat → ClassId) (dI : Nat → Nat → Nat) (a_ol : Nat) (a_ol_settings : Nat) (a_layout : Nat) (a_items : Nat) (a_ol_lineWidths : Nat) (a_breaks : Nat) (a_ruler : Nat) (a_search : Nat) (a_layout_starts : Nat) (a_layout_ends : Nat) (c_ol_settings : ClassId)  (sz : Nat) (ol_settings : (Nat → Int32)) (layout_known : Int32) (layout_lines : Int32) (layout_passTaken : Int32) (layout_extraStretch : Int32) (layout_demeritSum : Int64) (x1 : Int32) (x2 : Int32) (o : ((Nat → Int32) × Int32 × Int32)) (h : om_f_OL_setting ol_settings x1 x2 = some (.inr o)) : Met l yOL_setting wsOL_setting ({ frames := 1, cells := 0, slots := 0, locals := 22 }) (va_Pc [.ref a_ol, .int x1, .int x2] (fun U => U.heap.size = sz ∧ va_P (dC, dI) vwCl [(a_ol, .inr (0, [.ref a_items, .ref a_ol_lineWidths, .ref a_ol_settings, .ref a_breaks, .ref a_ruler, .ref a_search, .ref a_layout])), (a_ol_settings, .inl (c_ol_settings, 8, .inl ol_settings)), (a_layout, .inr (6, [.int layout_known, .int layout_lines, .int layout_passTaken, .int layout_extraStretch, .long layout_demeritSum, .ref a_layout_starts, .ref a_layout_ends]))] U.heap ∧ va_K (dC, dI) vwCl [(c_ol_settings, .int)] U ∧ va_D (fun _ => True) [(a_ol, .inr (0, [.ref a_items, .ref a_ol_lineWidths, .ref a_ol_settings, .ref a_breaks, .ref a_ruler, .ref a_search, .ref a_layout])), (a_ol_settings, .inl (c_ol_settings, 8, .inl ol_settings)), (a_layout, .inr (6, [.int layout_known, .int layout_lines, .int layout_passTaken, .int layout_extraStretch, .long layout_demeritSum, .ref a_layout_starts, .ref a_layout_ends]))] ∧ om_Z (va_A [(a_ol, .inr (0, [.ref a_items, .ref a_ol_lineWidths, .ref a_ol_settings, .ref a_breaks, .ref a_ruler, .ref a_search, .ref a_layout])), (a_ol_settings, .inl (c_ol_settings, 8, .inl ol_settings)), (a_layout, .inr (6, [.int layout_known, .int layout_lines, .int layout_passTaken, .int layout_extraStretch, .long layout_demeritSum, .ref a_layout_starts, .ref a_layout_ends]))] sz) U)) (va_Qi (fun (r : Int32) (_ : Unit) => r = o.2.2) (fun (_ : Unit) t => va_P (dC, dI) vwCl [(a_ol, .inr (0, [.ref a_items, .ref a_ol_lineWidths, .ref a_ol_settings, .ref a_breaks, .ref a_ruler, .ref a_search, .ref a_layout])), (a_ol_settings, .inl (c_ol_settings, 8, .inl o.1)), (a_layout, .inr (6, [.int o.2.1, .int layout_lines, .int layout_passTaken, .int layout_extraStretch, .long layout_demeritSum, .ref a_layout_starts, .ref a_layout_ends]))] t.heap ∧ va_K (dC, dI) vwCl [(c_ol_settings, .int)] t ∧ va_D (va_A [(a_ol, .inr (0, [.ref a_items, .ref a_ol_lineWidths, .ref a_ol_settings, .ref a_breaks, .ref a_ruler, .ref a_search, .ref a_layout])), (a_ol_settings, .inl (c_ol_settings, 8, .inl ol_settings)), (a_layout, .inr (6, [.int layout_known, .int layout_lines, .int layout_passTaken, .int layout_extraStretch, .long layout_demeritSum, .ref a_layout_starts, .ref a_layout_ends]))] sz) [(a_ol, .inr (0, [.ref a_items, .ref a_ol_lineWidths, .ref a_ol_settings, .ref a_breaks, .ref a_ruler, .ref a_search, .ref a_layout])), (a_ol_settings, .inl (c_ol_settings, 8, .inl o.1)), (a_layout, .inr (6, [.int o.2.1, .int layout_lines, .int layout_passTaken, .int layout_extraStretch, .long layout_demeritSum, .ref a_layout_starts, .ref a_layout_ends]))]) (va_A [(a_ol, .inr (0, [.ref a_items, .ref a_ol_lineWidths, .ref a_ol_settings, .ref a_breaks, .ref a_ruler, .ref a_search, .ref a_layout])), (a_ol_settings, .inl (c_ol_settings, 8, .inl ol_settings)), (a_layout, .inr (6, [.int layout_known, .int layout_lines, .int layout_passTaken, .int layout_extraStretch, .long layout_demeritSum, .ref a_layout_starts, .ref a_layout_ends]))] sz)) 0 0 (va_A [(a_ol, .inr (0, [.ref a_items, .ref a_ol_lineWidths, .ref a_ol_settings, .ref a_breaks, .ref a_ruler, .ref a_search, .ref a_layout])), (a_ol_settings, .inl (c_ol_settings, 8, .inl ol_settings)), (a_layout, .inr (6, [.int layout_known, .int layout_lines, .int layout_passTaken, .int layout_extraStretch, .long layout_demeritSum, .ref a_layout_starts, .ref a_layout_ends]))] sz) := by
  refine Met.ofW (cc := cOL_setting) (maxL := 4) (ret := (some .int)) (by decide) rfl ?_
  intro p e s m args below meth c s₁ B hml hv
  obtain ⟨rfl, hsz, hP, hK, hD0, hZ⟩ := hv
  have hx := B.exec
  have hb := B.bytes
  have hr := B.returns
  have hts := atoms_spec (ws := wsOL_setting) B.pre
  have hown : s.vm.findClass ROL = some m.cls := findClass_of_methodNamed B.named
  have hlocks := B.notSynchronized
  subst hsz
  have hD := hD0.self (sz := s.heap.size)
  generalize hAe : va_A [(a_ol, .inr (0, [.ref a_items, .ref a_ol_lineWidths, .ref a_ol_settings, .ref a_breaks, .ref a_ruler, .ref a_search, .ref a_layout])), (a_ol_settings, .inl (c_ol_settings, 8, .inl ol_settings)), (a_layout, .inr (6, [.int layout_known, .int layout_lines, .int layout_passTaken, .int layout_extraStretch, .long layout_demeritSum, .ref a_layout_starts, .ref a_layout_ends]))] s.heap.size = A at hD hZ ⊢
  have hA : ∀ q : Nat, s.heap.size ≤ q → A q := fun q h => by rw [← hAe]; exact Or.inr h
  have hS : va_S A s.heap s.heap [] := va_S.rf
  have hP : va_P (dC, dI) vwCl [(a_ol, .inr (0, [.ref a_items, .ref a_ol_lineWidths, .ref a_ol_settings, .ref a_breaks, .ref a_ruler, .ref a_search, .ref a_layout])), (a_ol_settings, .inl (c_ol_settings, 8, .inl ol_settings)), (a_layout, .inr (6, [.int layout_known, .int layout_lines, .int layout_passTaken, .int layout_extraStretch, .long layout_demeritSum, .ref a_layout_starts, .ref a_layout_ends]))] s.heap := hP
  have hl := lv_entry ([.ref a_ol, .int x1, .int x2]) (n := 4) (Nat.le_of_ble_eq_true rfl)
  rw [lg_entry_eq]
  generalize (lg_sl ([.ref a_ol, .int x1, .int x2]) ++ List.replicate (4 - (lg_sl ([.ref a_ol, .int x1, .int x2])).length) Slot.unset).toArray = ls at hl ⊢
  have hl : lv_has ls 4 [(0, .ref a_ol), (1, .int x1), (2, .int x2)] := hl
  unfold om_f_OL_setting at h
  refine lv_iload_n hx hb dOL_setting_0 rfl (lv_at hl 1 rfl) ?_
  refine lv_iconst (v := 0) hx hb dOL_setting_1 (by decide) ?_
  refine lv_bipush (v := 7) hx hb dOL_setting_2 (by decide) ?_
  obtain ⟨u1, hu1, h⟩ := om_b h
  rcases u1 with k9 | u1w
  · cases om_cl rfl h
  have h := om_cr rfl h
  have hPc := hP.sub (ws' := []) [] rfl
  have hDc := hD.sub (ws' := []) [] (by decide) rfl
  have hKc := hK.sub (tys' := []) [] rfl
  have hFc := va_free (wc := []) hD hS hA [] rfl
  refine va_callv (va_runS (As := [.int x1, .int 0, .int 7]) (rest := []) ⟨hx, hb, hml, hown, hts⟩ (om_k_OL_requireWithin l dC dI s.heap.size x1 0 7 u1w hu1) (va_cwS 3 hts (om_gs w_220 w_221 w_1 w_222) rfl rfl rfl (by decide +kernel) ⟨Nat.le_of_ble_eq_true rfl, Nat.le_of_ble_eq_true rfl⟩) ⟨fun a U g mk q => by obtain ⟨q0, q1, qP, qK, qD⟩ := q; exact ⟨q0, q1, qP, va_K.moved (u := U) (U := U.calling g mk a) (Vm.Alike.refl U.vm) qK, qD⟩, fun U hU hW => ⟨rfl, by rw [hU], by rw [hU]; exact hPc, va_K.moved hW.alike hKc, hDc.weaken (fun _ _ _ _ => trivial)⟩⟩ rfl rfl hl.1 rfl (lv_room (Nat.le_of_ble_eq_true rfl)) dOL_setting_4 ⟨Nat.le_of_ble_eq_true rfl, Nat.le_of_ble_eq_true rfl⟩) hS (fun q _ h => hFc q h) hFc (fun uz t H1 locs ht hvm hw hB hz1 hk1 hS => ?_)
  obtain ⟨hP1, hK1, hD1⟩ := hB
  rw [ht] at hP1
  obtain ⟨hP, hD⟩ := va_join (wr := [(a_ol, .inr (0, [.ref a_items, .ref a_ol_lineWidths, .ref a_ol_settings, .ref a_breaks, .ref a_ruler, .ref a_search, .ref a_layout])), (a_ol_settings, .inl (c_ol_settings, 8, .inl ol_settings)), (a_layout, .inr (6, [.int layout_known, .int layout_lines, .int layout_passTaken, .int layout_extraStretch, .long layout_demeritSum, .ref a_layout_starts, .ref a_layout_ends]))]) (w1 := []) hP hD [] [0, 1, 2] rfl rfl (by decide) (by decide) hk1 hFc hP1 hD1
  generalize H1 = H at hP hS ⊢
  have hP : va_P (dC, dI) vwCl [(a_ol, .inr (0, [.ref a_items, .ref a_ol_lineWidths, .ref a_ol_settings, .ref a_breaks, .ref a_ruler, .ref a_search, .ref a_layout])), (a_ol_settings, .inl (c_ol_settings, 8, .inl ol_settings)), (a_layout, .inr (6, [.int layout_known, .int layout_lines, .int layout_passTaken, .int layout_extraStretch, .long layout_demeritSum, .ref a_layout_starts, .ref a_layout_ends]))] H := hP
  have hD : va_D A [(a_ol, .inr (0, [.ref a_items, .ref a_ol_lineWidths, .ref a_ol_settings, .ref a_breaks, .ref a_ruler, .ref a_search, .ref a_layout])), (a_ol_settings, .inl (c_ol_settings, 8, .inl ol_settings)), (a_layout, .inr (6, [.int layout_known, .int layout_lines, .int layout_passTaken, .int layout_extraStretch, .long layout_demeritSum, .ref a_layout_starts, .ref a_layout_ends]))] := hD
  refine W.widen (k := 0) (n := 0) (Nat.le_of_ble_eq_true rfl) (Nat.le_of_ble_eq_true rfl) ?_
  refine lv_iload_n hx hb dOL_setting_7 rfl (lv_at hl 2 rfl) ?_
  obtain ⟨tb2, hZtb2, hTtb2⟩ := hZ.2.2.1
  refine va_gets (C := ROL) (n := "SETTING_LEAST") (d := "[I") (v := .ref tb2) hx hb hZtb2 hS hown (hts _ (om_m w_327)) (fun _ h9 => h9) dOL_setting_8 ?_
  refine lv_iload_n hx hb dOL_setting_11 rfl (lv_at hl 1 rfl) ?_
  obtain ⟨hi, h⟩ := om_g h
  refine va_ti (v := .int (om_least x1.toNatClampNeg)) hx hb hTtb2 hS (om_ok hi) rfl dOL_setting_12 ?_
  obtain ⟨tb3, hZtb3, hTtb3⟩ := hZ.2.2.2.1
  refine va_gets (C := ROL) (n := "SETTING_MOST") (d := "[I") (v := .ref tb3) hx hb hZtb3 hS hown (hts _ (om_m w_328)) (fun _ h9 => h9) dOL_setting_13 ?_
  refine lv_iload_n hx hb dOL_setting_16 rfl (lv_at hl 1 rfl) ?_
  obtain ⟨hi, h⟩ := om_g h
  refine va_ti (v := .int (om_most x1.toNatClampNeg)) hx hb hTtb3 hS (om_ok hi) rfl dOL_setting_17 ?_
  obtain ⟨u4, hu4, h⟩ := om_b h
  rcases u4 with k9 | u4w
  · cases om_cl rfl h
  have h := om_cr rfl h
  have hPc := hP.sub (ws' := []) [] rfl
  have hDc := hD.sub (ws' := []) [] (by decide) rfl
  have hKc := hK.sub (tys' := []) [] rfl
  have hFc := va_free (wc := []) hD hS hA [] rfl
  refine va_callv (va_runS (As := [.int x2, .int (om_least x1.toNatClampNeg), .int (om_most x1.toNatClampNeg)]) (rest := []) ⟨hx, hb, hml, hown, hts⟩ (om_k_OL_requireWithin l dC dI H.size x2 (om_least x1.toNatClampNeg) (om_most x1.toNatClampNeg) u4w hu4) (va_cwS 3 hts (om_gs w_220 w_221 w_1 w_222) rfl rfl rfl (by decide +kernel) ⟨Nat.le_of_ble_eq_true rfl, Nat.le_of_ble_eq_true rfl⟩) ⟨fun a U g mk q => by obtain ⟨q0, q1, qP, qK, qD⟩ := q; exact ⟨q0, q1, qP, va_K.moved (u := U) (U := U.calling g mk a) (Vm.Alike.refl U.vm) qK, qD⟩, fun U hU hW => ⟨rfl, by rw [hU], by rw [hU]; exact hPc, va_K.moved hW.alike hKc, hDc.weaken (fun _ _ _ _ => trivial)⟩⟩ rfl rfl hl.1 rfl (lv_room (Nat.le_of_ble_eq_true rfl)) dOL_setting_18 ⟨Nat.le_of_ble_eq_true rfl, Nat.le_of_ble_eq_true rfl⟩) hS (fun q _ h => hFc q h) hFc (fun uz t H1 locs ht hvm hw hB hz1 hk1 hS => ?_)
  obtain ⟨hP1, hK1, hD1⟩ := hB
  rw [ht] at hP1
  obtain ⟨hP, hD⟩ := va_join (wr := [(a_ol, .inr (0, [.ref a_items, .ref a_ol_lineWidths, .ref a_ol_settings, .ref a_breaks, .ref a_ruler, .ref a_search, .ref a_layout])), (a_ol_settings, .inl (c_ol_settings, 8, .inl ol_settings)), (a_layout, .inr (6, [.int layout_known, .int layout_lines, .int layout_passTaken, .int layout_extraStretch, .long layout_demeritSum, .ref a_layout_starts, .ref a_layout_ends]))]) (w1 := []) hP hD [] [0, 1, 2] rfl rfl (by decide) (by decide) hk1 hFc hP1 hD1
  generalize H1 = H at hP hS ⊢
  have hP : va_P (dC, dI) vwCl [(a_ol, .inr (0, [.ref a_items, .ref a_ol_lineWidths, .ref a_ol_settings, .ref a_breaks, .ref a_ruler, .ref a_search, .ref a_layout])), (a_ol_settings, .inl (c_ol_settings, 8, .inl ol_settings)), (a_layout, .inr (6, [.int layout_known, .int layout_lines, .int layout_passTaken, .int layout_extraStretch, .long layout_demeritSum, .ref a_layout_starts, .ref a_layout_ends]))] H := hP
  have hD : va_D A [(a_ol, .inr (0, [.ref a_items, .ref a_ol_lineWidths, .ref a_ol_settings, .ref a_breaks, .ref a_ruler, .ref a_search, .ref a_layout])), (a_ol_settings, .inl (c_ol_settings, 8, .inl ol_settings)), (a_layout, .inr (6, [.int layout_known, .int layout_lines, .int layout_passTaken, .int layout_extraStretch, .long layout_demeritSum, .ref a_layout_starts, .ref a_layout_ends]))] := hD
  refine W.widen (k := 0) (n := 0) (Nat.le_of_ble_eq_true rfl) (Nat.le_of_ble_eq_true rfl) ?_
  have h := om_ri h
  refine lv_aload_n hx hb dOL_setting_21 rfl (lv_at hl 0 rfl) ?_
  refine va_get (D := (dC, dI)) (ci := 0) (v := .ref a_layout) (C := ROL) (T := TOL) (N := 7) hx hb hts (fun w h => om_m (inOL w h)) hown hK hP 0 rfl rfl 6 (by decide) (hts _ (om_m w_192)) (fun _ h9 => h9) rfl dOL_setting_22 ?_
  refine lv_iconst (v := 0) hx hb dOL_setting_25 (by decide) ?_
  refine va_put (D := (dC, dI)) (ci := 6) (v := .int 0) (ty := .boolean) (C := RLayout) (T := TLayout) (N := 7) hx hb hts (fun w h => om_m (inLayout w h)) tyLayout tyLayout_ok nmLayout hown hK hP hD hS 2 rfl rfl 0 (by decide) (hts _ (om_m w_165)) (fun _ h9 => h9) rfl (by decide +kernel) rfl rfl (Nat.le_of_ble_eq_true rfl) dOL_setting_26 (fun H locs hP hD hS => ?_)
  have hP : va_P (dC, dI) vwCl [(a_ol, .inr (0, [.ref a_items, .ref a_ol_lineWidths, .ref a_ol_settings, .ref a_breaks, .ref a_ruler, .ref a_search, .ref a_layout])), (a_ol_settings, .inl (c_ol_settings, 8, .inl ol_settings)), (a_layout, .inr (6, [.int 0, .int layout_lines, .int layout_passTaken, .int layout_extraStretch, .long layout_demeritSum, .ref a_layout_starts, .ref a_layout_ends]))] H := hP
  have hD : va_D A [(a_ol, .inr (0, [.ref a_items, .ref a_ol_lineWidths, .ref a_ol_settings, .ref a_breaks, .ref a_ruler, .ref a_search, .ref a_layout])), (a_ol_settings, .inl (c_ol_settings, 8, .inl ol_settings)), (a_layout, .inr (6, [.int 0, .int layout_lines, .int layout_passTaken, .int layout_extraStretch, .long layout_demeritSum, .ref a_layout_starts, .ref a_layout_ends]))] := hD
  refine lv_aload_n hx hb dOL_setting_29 rfl (lv_at hl 0 rfl) ?_
  refine va_get (D := (dC, dI)) (ci := 0) (v := .ref a_ol_settings) (C := ROL) (T := TOL) (N := 7) hx hb hts (fun w h => om_m (inOL w h)) hown hK hP 0 rfl rfl 2 (by decide) (hts _ (om_m w_188)) (fun _ h9 => h9) rfl dOL_setting_30 ?_
  refine lv_iload_n hx hb dOL_setting_33 rfl (lv_at hl 1 rfl) ?_
  obtain ⟨hi, h⟩ := om_g h
  refine va_iald (D := (dC, dI)) hx hb hK hP 1 0 rfl rfl (om_ok hi) dOL_setting_34 ?_
  refine lv_istore_n (lv' := [(3, .int (ol_settings x1.toNatClampNeg)), (0, .ref a_ol), (1, .int x1), (2, .int x2)]) hx hb dOL_setting_35 rfl hl (by decide) rfl (fun ls hl => ?_)
  refine lv_aload_n hx hb dOL_setting_36 rfl (lv_at hl 1 rfl) ?_
  refine va_get (D := (dC, dI)) (ci := 0) (v := .ref a_ol_settings) (C := ROL) (T := TOL) (N := 7) hx hb hts (fun w h => om_m (inOL w h)) hown hK hP 0 rfl rfl 2 (by decide) (hts _ (om_m w_188)) (fun _ h9 => h9) rfl dOL_setting_37 ?_
  refine lv_iload_n hx hb dOL_setting_40 rfl (lv_at hl 2 rfl) ?_
  refine lv_iload_n hx hb dOL_setting_41 rfl (lv_at hl 3 rfl) ?_
  obtain ⟨hi, h⟩ := om_g h
  refine va_iast (D := (dC, dI)) hx hb hK hP hD hS 1 0 rfl rfl (om_ok hi) dOL_setting_42 (fun H locs hP hD hS => ?_)
  have hP : va_P (dC, dI) vwCl [(a_ol, .inr (0, [.ref a_items, .ref a_ol_lineWidths, .ref a_ol_settings, .ref a_breaks, .ref a_ruler, .ref a_search, .ref a_layout])), (a_ol_settings, .inl (c_ol_settings, 8, .inl (upd ol_settings x1.toNatClampNeg x2))), (a_layout, .inr (6, [.int 0, .int layout_lines, .int layout_passTaken, .int layout_extraStretch, .long layout_demeritSum, .ref a_layout_starts, .ref a_layout_ends]))] H := hP
  have hD : va_D A [(a_ol, .inr (0, [.ref a_items, .ref a_ol_lineWidths, .ref a_ol_settings, .ref a_breaks, .ref a_ruler, .ref a_search, .ref a_layout])), (a_ol_settings, .inl (c_ol_settings, 8, .inl (upd ol_settings x1.toNatClampNeg x2))), (a_layout, .inr (6, [.int 0, .int layout_lines, .int layout_passTaken, .int layout_extraStretch, .long layout_demeritSum, .ref a_layout_starts, .ref a_layout_ends]))] := hD
  refine lv_iload_n hx hb dOL_setting_43 rfl (lv_at hl 0 rfl) ?_
  obtain rfl := Option.some.inj h
  have hP9 := hP.sub (ws' := [(a_ol, .inr (0, [.ref a_items, .ref a_ol_lineWidths, .ref a_ol_settings, .ref a_breaks, .ref a_ruler, .ref a_search, .ref a_layout])), (a_ol_settings, .inl (c_ol_settings, 8, .inl (upd ol_settings x1.toNatClampNeg x2))), (a_layout, .inr (6, [.int 0, .int layout_lines, .int layout_passTaken, .int layout_extraStretch, .long layout_demeritSum, .ref a_layout_starts, .ref a_layout_ends]))]) [0, 1, 2] rfl
  have hD9 := hD.sub (ws' := [(a_ol, .inr (0, [.ref a_items, .ref a_ol_lineWidths, .ref a_ol_settings, .ref a_breaks, .ref a_ruler, .ref a_search, .ref a_layout])), (a_ol_settings, .inl (c_ol_settings, 8, .inl (upd ol_settings x1.toNatClampNeg x2))), (a_layout, .inr (6, [.int 0, .int layout_lines, .int layout_passTaken, .int layout_extraStretch, .long layout_demeritSum, .ref a_layout_starts, .ref a_layout_ends]))]) [0, 1, 2] (by decide) rfl
  have hK9 := hK.sub (tys' := [(c_ol_settings, .int)]) [0] rfl
  exact W.iret (v := ol_settings x1.toNatClampNeg) hx hb hr (fun t ht hW => ⟨⟨_, (), rfl, rfl, by rw [ht]; exact hP9, va_K.moved hW.alike hK9, hD9⟩, hS.F ht⟩) hS.2.2 dOL_setting_44
theorem om_nA {n q : Nat} (h : va_A [] n q) : n ≤ q := by
  rcases h with ⟨k, e, h⟩ | h
  · simp at h
  · exact h
theorem om_gvV {c1 c2 : Cond} {own C : String} {idx : Nat} {y : MethodName} (h1 : Cond.methodLink own idx y ∈ om_W) (h2 : Cond.instanceMethod y ∈ om_W) (h3 : Cond.selects C y y ∈ om_W) (h4 : Cond.initialized C ∈ om_W) (h5 : c2 ∈ om_W) : GoodIn (c1 :: om_V) (wsV own idx C y (c2 :: om_V)) := by
  intro w h
  unfold wsV at h
  rcases List.mem_append.mp h with h | h
  · simp only [List.mem_cons, List.not_mem_nil, or_false] at h
    rcases h with rfl | rfl | rfl | rfl
    · exact om_gdV (List.mem_append_left _ h1)
    · exact om_gdV (List.mem_append_left _ h2)
    · exact om_gdV (List.mem_append_left _ h3)
    · exact om_gdV (List.mem_append_left _ h4)
  · exact om_giV h5 w h
theorem om_gsV {c1 c2 : Cond} {own : String} {idx : Nat} {y : MethodName} (h1 : Cond.methodLink own idx y ∈ om_W) (h2 : Cond.static y ∈ om_W) (h4 : Cond.initialized y.cls ∈ om_W) (h5 : c2 ∈ om_W) : GoodIn (c1 :: om_V) (va_wsS own idx y (c2 :: om_V)) := by
  intro w h
  unfold va_wsS at h
  rcases List.mem_append.mp h with h | h
  · simp only [List.mem_cons, List.not_mem_nil, or_false] at h
    rcases h with rfl | rfl | rfl
    · exact om_gdV (List.mem_append_left _ h1)
    · exact om_gdV (List.mem_append_left _ h2)
    · exact om_gdV (List.mem_append_left _ h4)
  · exact om_giV h5 w h

set_option maxHeartbeats 4000000 in
set_option maxRecDepth 100000 in
theorem om_p_OL_requireRoom (l : Launch) (dC : Nat → ClassId) (dI : Nat → Nat → Nat) (a_ol : Nat) (a_items : Nat) (a_ol_lineWidths : Nat) (a_ol_settings : Nat) (a_breaks : Nat) (a_ruler : Nat) (a_search : Nat) (a_layout : Nat) (a_items_kinds : Nat) (a_items_penaltyWidths : Nat) (a_items_costs : Nat) (a_items_flags : Nat) (a_items_widthBefore : Nat) (a_items_stretchBefore : Nat) (a_items_shrinkBefore : Nat) (a_items_fillBefore : Nat)   (sz : Nat) (items_count : Int32)  (o : Unit) (h : om_f_OL_requireRoom items_count = some (.inr o)) : Met l yOL_requireRoom wsOL_requireRoom ({ frames := 0, cells := 0, slots := 0, locals := 0 }) (va_Pc [.ref a_ol] (fun U => U.heap.size = sz ∧ va_P (dC, dI) vwCl [(a_ol, .inr (0, [.ref a_items, .ref a_ol_lineWidths, .ref a_ol_settings, .ref a_breaks, .ref a_ruler, .ref a_search, .ref a_layout])), (a_items, .inr (1, [.int items_count, .ref a_items_kinds, .ref a_items_penaltyWidths, .ref a_items_costs, .ref a_items_flags, .ref a_items_widthBefore, .ref a_items_stretchBefore, .ref a_items_shrinkBefore, .ref a_items_fillBefore]))] U.heap ∧ va_K (dC, dI) vwCl [] U ∧ va_D (fun _ => True) [(a_ol, .inr (0, [.ref a_items, .ref a_ol_lineWidths, .ref a_ol_settings, .ref a_breaks, .ref a_ruler, .ref a_search, .ref a_layout])), (a_items, .inr (1, [.int items_count, .ref a_items_kinds, .ref a_items_penaltyWidths, .ref a_items_costs, .ref a_items_flags, .ref a_items_widthBefore, .ref a_items_stretchBefore, .ref a_items_shrinkBefore, .ref a_items_fillBefore]))])) (va_Qv (fun (_ : Unit) => True) (fun (_ : Unit) t => va_P (dC, dI) vwCl [(a_ol, .inr (0, [.ref a_items, .ref a_ol_lineWidths, .ref a_ol_settings, .ref a_breaks, .ref a_ruler, .ref a_search, .ref a_layout])), (a_items, .inr (1, [.int items_count, .ref a_items_kinds, .ref a_items_penaltyWidths, .ref a_items_costs, .ref a_items_flags, .ref a_items_widthBefore, .ref a_items_stretchBefore, .ref a_items_shrinkBefore, .ref a_items_fillBefore]))] t.heap ∧ va_K (dC, dI) vwCl [] t) (va_A [] sz)) 0 0 (va_A [] sz) := by
  refine Met.ofW (cc := cOL_requireRoom) (maxL := 1) (ret := none) (by decide) rfl ?_
  intro p e s m args below meth c s₁ B hml hv
  obtain ⟨rfl, hsz, hP, hK, hD⟩ := hv
  have hx := B.exec
  have hb := B.bytes
  have hr := B.returns
  have hts := atoms_spec (ws := wsOL_requireRoom) B.pre
  subst hsz
  have hS : va_S (va_A [] s.heap.size) s.heap s.heap [] := va_S.rf
  have hown : s.vm.findClass ROL = some m.cls := findClass_of_methodNamed B.named
  have hlocks := B.notSynchronized
  have hP : va_P (dC, dI) vwCl [(a_ol, .inr (0, [.ref a_items, .ref a_ol_lineWidths, .ref a_ol_settings, .ref a_breaks, .ref a_ruler, .ref a_search, .ref a_layout])), (a_items, .inr (1, [.int items_count, .ref a_items_kinds, .ref a_items_penaltyWidths, .ref a_items_costs, .ref a_items_flags, .ref a_items_widthBefore, .ref a_items_stretchBefore, .ref a_items_shrinkBefore, .ref a_items_fillBefore]))] s.heap := hP
  have hl := lv_entry ([.ref a_ol]) (n := 1) (Nat.le_of_ble_eq_true rfl)
  rw [lg_entry_eq]
  generalize (lg_sl ([.ref a_ol]) ++ List.replicate (1 - (lg_sl ([.ref a_ol])).length) Slot.unset).toArray = ls at hl ⊢
  have hl : lv_has ls 1 [(0, .ref a_ol)] := hl
  unfold om_f_OL_requireRoom at h
  refine lv_aload_n hx hb dOL_requireRoom_0 rfl (lv_at hl 0 rfl) ?_
  refine va_get (D := (dC, dI)) (ci := 0) (v := .ref a_items) (C := ROL) (T := TOL) (N := 7) hx hb hts (fun w h => om_m (inOL w h)) hown hK hP 0 rfl rfl 0 (by decide) (hts _ (om_m w_186)) (fun _ h9 => h9) rfl dOL_requireRoom_1 ?_
  refine va_get (D := (dC, dI)) (ci := 1) (v := .int items_count) (C := RItems) (T := TItems) (N := 9) hx hb hts (fun w h => om_m (inItems w h)) hown hK hP 1 rfl rfl 0 (by decide) (hts _ (om_m w_33)) (fun _ h9 => h9) rfl dOL_requireRoom_4 ?_
  refine lv_sipush (v := 400) hx hb dOL_requireRoom_7 (by decide) ?_
  refine lv_icmp_lt (tgt := 23) hx hb dOL_requireRoom_10 (by decide) (fun g1 => ?_) (fun g1 => ?_)
  · have h := om_t g1 h
    have h := om_ri h
    obtain rfl := Option.some.inj h
    exact W.vret hx hb hr (fun t ht hW => ⟨⟨(), rfl, trivial, by rw [ht]; exact hP, va_K.moved hW.alike hK⟩, hS.F ht⟩) hS.2.2 dOL_requireRoom_23
  · have h := om_f g1 h
    cases h
set_option maxHeartbeats 4000000 in
set_option maxRecDepth 100000 in
theorem om_p_OL_requireLines (l : Launch) (dC : Nat → ClassId) (dI : Nat → Nat → Nat) (a_ol : Nat) (a_layout : Nat) (a_items : Nat) (a_ol_lineWidths : Nat) (a_ol_settings : Nat) (a_breaks : Nat) (a_ruler : Nat) (a_search : Nat) (a_layout_starts : Nat) (a_layout_ends : Nat)   (sz : Nat) (layout_known : Int32) (layout_lines : Int32) (layout_passTaken : Int32) (layout_extraStretch : Int32) (layout_demeritSum : Int64)  (o : Unit) (h : om_f_OL_requireLines layout_known = some (.inr o)) : Met l yOL_requireLines wsOL_requireLines ({ frames := 0, cells := 0, slots := 0, locals := 0 }) (va_Pc [.ref a_ol] (fun U => U.heap.size = sz ∧ va_P (dC, dI) vwCl [(a_ol, .inr (0, [.ref a_items, .ref a_ol_lineWidths, .ref a_ol_settings, .ref a_breaks, .ref a_ruler, .ref a_search, .ref a_layout])), (a_layout, .inr (6, [.int layout_known, .int layout_lines, .int layout_passTaken, .int layout_extraStretch, .long layout_demeritSum, .ref a_layout_starts, .ref a_layout_ends]))] U.heap ∧ va_K (dC, dI) vwCl [] U ∧ va_D (fun _ => True) [(a_ol, .inr (0, [.ref a_items, .ref a_ol_lineWidths, .ref a_ol_settings, .ref a_breaks, .ref a_ruler, .ref a_search, .ref a_layout])), (a_layout, .inr (6, [.int layout_known, .int layout_lines, .int layout_passTaken, .int layout_extraStretch, .long layout_demeritSum, .ref a_layout_starts, .ref a_layout_ends]))])) (va_Qv (fun (_ : Unit) => True) (fun (_ : Unit) t => va_P (dC, dI) vwCl [(a_ol, .inr (0, [.ref a_items, .ref a_ol_lineWidths, .ref a_ol_settings, .ref a_breaks, .ref a_ruler, .ref a_search, .ref a_layout])), (a_layout, .inr (6, [.int layout_known, .int layout_lines, .int layout_passTaken, .int layout_extraStretch, .long layout_demeritSum, .ref a_layout_starts, .ref a_layout_ends]))] t.heap ∧ va_K (dC, dI) vwCl [] t) (va_A [] sz)) 0 0 (va_A [] sz) := by
  refine Met.ofW (cc := cOL_requireLines) (maxL := 1) (ret := none) (by decide) rfl ?_
  intro p e s m args below meth c s₁ B hml hv
  obtain ⟨rfl, hsz, hP, hK, hD⟩ := hv
  have hx := B.exec
  have hb := B.bytes
  have hr := B.returns
  have hts := atoms_spec (ws := wsOL_requireLines) B.pre
  subst hsz
  have hS : va_S (va_A [] s.heap.size) s.heap s.heap [] := va_S.rf
  have hown : s.vm.findClass ROL = some m.cls := findClass_of_methodNamed B.named
  have hlocks := B.notSynchronized
  have hP : va_P (dC, dI) vwCl [(a_ol, .inr (0, [.ref a_items, .ref a_ol_lineWidths, .ref a_ol_settings, .ref a_breaks, .ref a_ruler, .ref a_search, .ref a_layout])), (a_layout, .inr (6, [.int layout_known, .int layout_lines, .int layout_passTaken, .int layout_extraStretch, .long layout_demeritSum, .ref a_layout_starts, .ref a_layout_ends]))] s.heap := hP
  have hl := lv_entry ([.ref a_ol]) (n := 1) (Nat.le_of_ble_eq_true rfl)
  rw [lg_entry_eq]
  generalize (lg_sl ([.ref a_ol]) ++ List.replicate (1 - (lg_sl ([.ref a_ol])).length) Slot.unset).toArray = ls at hl ⊢
  have hl : lv_has ls 1 [(0, .ref a_ol)] := hl
  unfold om_f_OL_requireLines at h
  refine lv_aload_n hx hb dOL_requireLines_0 rfl (lv_at hl 0 rfl) ?_
  refine va_get (D := (dC, dI)) (ci := 0) (v := .ref a_layout) (C := ROL) (T := TOL) (N := 7) hx hb hts (fun w h => om_m (inOL w h)) hown hK hP 0 rfl rfl 6 (by decide) (hts _ (om_m w_192)) (fun _ h9 => h9) rfl dOL_requireLines_1 ?_
  refine va_get (D := (dC, dI)) (ci := 6) (v := .int layout_known) (C := RLayout) (T := TLayout) (N := 7) hx hb hts (fun w h => om_m (inLayout w h)) hown hK hP 1 rfl rfl 0 (by decide) (hts _ (om_m w_165)) (fun _ h9 => h9) rfl dOL_requireLines_4 ?_
  refine lv_if_ne (tgt := 20) hx hb dOL_requireLines_7 (by decide) (fun g1 => ?_) (fun g1 => ?_)
  · have h := om_f g1 h
    have h := om_ri h
    obtain rfl := Option.some.inj h
    exact W.vret hx hb hr (fun t ht hW => ⟨⟨(), rfl, trivial, by rw [ht]; exact hP, va_K.moved hW.alike hK⟩, hS.F ht⟩) hS.2.2 dOL_requireLines_20
  · have h := om_t g1 h
    cases h
set_option maxHeartbeats 4000000 in
set_option maxRecDepth 100000 in
theorem om_t_OL_requireWithin (l : Launch) (hl9 : l.stackTraces = false) (dC : Nat → ClassId) (dI : Nat → Nat → Nat)    (sz : Nat)  (x0 : Int32) (x1 : Int32) (x2 : Int32) (k : Nat) (h : om_f_OL_requireWithin x0 x1 x2 = some (.inl k)) : om_T l yOL_requireWithin (Cond.code yOL_requireWithin cOL_requireWithin 3 none :: om_V) ({ frames := 6, cells := 1, slots := 6, locals := 82 }) (va_Pc [.int x0, .int x1, .int x2] (fun U => U.heap.size = sz ∧ va_P (dC, dI) vwCl [] U.heap ∧ va_K (dC, dI) vwCl [] U ∧ va_D (fun _ => True) [] ∧ om_Z (fun q => sz ≤ q) U)) (om_E k) om_K 1 6 (fun q => sz ≤ q) := by
  refine om_T.ofW (cc := cOL_requireWithin) (maxL := 3) (ret := none) (by decide) rfl ?_
  intro p e s m args below meth c s₁ B hml hEx hv
  obtain ⟨rfl, hsz, hP, hK, hD, hZ⟩ := hv
  have hx := B.exec
  have hb := B.bytes
  have hr := B.returns
  have htsV := atoms_spec (ws := (Cond.code yOL_requireWithin cOL_requireWithin 3 none :: om_V)) B.pre
  have hts : ∀ w ∈ wsOL_requireWithin, w.before _ s = true := fun w h => htsV w (om_WV w h)
  subst hsz
  have hS : va_S (fun q => s.heap.size ≤ q) s.heap s.heap [] := va_S.rf
  have hHH : om_H s.heap s.heap := om_H.rf
  have hown : s.vm.findClass ROL = some m.cls := findClass_of_methodNamed B.named
  have hlocks := B.notSynchronized
  have hP : va_P (dC, dI) vwCl [] s.heap := hP
  have hl := lv_entry ([.int x0, .int x1, .int x2]) (n := 3) (Nat.le_of_ble_eq_true rfl)
  rw [lg_entry_eq]
  generalize (lg_sl ([.int x0, .int x1, .int x2]) ++ List.replicate (3 - (lg_sl ([.int x0, .int x1, .int x2])).length) Slot.unset).toArray = ls at hl ⊢
  have hl : lv_has ls 3 [(0, .int x0), (1, .int x1), (2, .int x2)] := hl
  unfold om_f_OL_requireWithin at h
  refine lv_iload_n hx hb dOL_requireWithin_0 rfl (lv_at hl 0 rfl) ?_
  refine lv_iload_n hx hb dOL_requireWithin_1 rfl (lv_at hl 1 rfl) ?_
  refine lv_icmp_lt (tgt := 10) hx hb dOL_requireWithin_2 (by decide) (fun g1 => ?_) (fun g1 => ?_)
  · have h := om_t g1 h
    cases h
    obtain ⟨sa, hsa⟩ := hZ.2.1.2 (174, "a value is out of bounds") (by decide)
    exact om_throw (own := ROL) (cls := "java/lang/IllegalArgumentException") (text := "a value is out of bounds") (names := ["java/lang/RuntimeException", "java/lang/Exception"]) hx hb hl9 hown (by decide +kernel) (by decide +kernel) (hts _ (om_m w_223)) (hts _ (om_m w_15)) hsa (om_atoms (X := "java/lang/IllegalArgumentException") htsV hZ (by decide +kernel)) (hl.1.trans hml.symm) dOL_requireWithin_10 dOL_requireWithin_13 dOL_requireWithin_14 dOL_requireWithin_16 dOL_requireWithin_19 hEx (Nat.le_of_ble_eq_true rfl) (Nat.le_of_ble_eq_true rfl) (Nat.le_of_ble_eq_true rfl) (Nat.le_of_ble_eq_true rfl) hlocks (Nat.le_of_ble_eq_true rfl) (Nat.le_of_ble_eq_true rfl)
  · have h := om_f g1 h
    refine lv_iload_n hx hb dOL_requireWithin_5 rfl (lv_at hl 0 rfl) ?_
    refine lv_iload_n hx hb dOL_requireWithin_6 rfl (lv_at hl 2 rfl) ?_
    refine lv_icmp_le (tgt := 20) hx hb dOL_requireWithin_7 (by decide) (fun g2 => ?_) (fun g2 => ?_)
    · have h := om_t g2 h
      exact absurd h om_rn
    · have h := om_f g2 h
      cases h
      obtain ⟨sa, hsa⟩ := hZ.2.1.2 (174, "a value is out of bounds") (by decide)
      exact om_throw (own := ROL) (cls := "java/lang/IllegalArgumentException") (text := "a value is out of bounds") (names := ["java/lang/RuntimeException", "java/lang/Exception"]) hx hb hl9 hown (by decide +kernel) (by decide +kernel) (hts _ (om_m w_223)) (hts _ (om_m w_15)) hsa (om_atoms (X := "java/lang/IllegalArgumentException") htsV hZ (by decide +kernel)) (hl.1.trans hml.symm) dOL_requireWithin_10 dOL_requireWithin_13 dOL_requireWithin_14 dOL_requireWithin_16 dOL_requireWithin_19 hEx (Nat.le_of_ble_eq_true rfl) (Nat.le_of_ble_eq_true rfl) (Nat.le_of_ble_eq_true rfl) (Nat.le_of_ble_eq_true rfl) hlocks (Nat.le_of_ble_eq_true rfl) (Nat.le_of_ble_eq_true rfl)
set_option maxHeartbeats 4000000 in
set_option maxRecDepth 100000 in
theorem om_t_OL_requireSize (l : Launch) (hl9 : l.stackTraces = false) (dC : Nat → ClassId) (dI : Nat → Nat → Nat)    (sz : Nat)  (x0 : Int32) (k : Nat) (h : om_f_OL_requireSize x0 = some (.inl k)) : om_T l yOL_requireSize (Cond.code yOL_requireSize cOL_requireSize 1 none :: om_V) ({ frames := 7, cells := 1, slots := 6, locals := 104 }) (va_Pc [.int x0] (fun U => U.heap.size = sz ∧ va_P (dC, dI) vwCl [] U.heap ∧ va_K (dC, dI) vwCl [] U ∧ va_D (fun _ => True) [] ∧ om_Z (fun q => sz ≤ q) U)) (om_E k) om_K 1 6 (fun q => sz ≤ q) := by
  refine om_T.ofW (cc := cOL_requireSize) (maxL := 1) (ret := none) (by decide) rfl ?_
  intro p e s m args below meth c s₁ B hml hEx hv
  obtain ⟨rfl, hsz, hP, hK, hD, hZ⟩ := hv
  have hx := B.exec
  have hb := B.bytes
  have hr := B.returns
  have htsV := atoms_spec (ws := (Cond.code yOL_requireSize cOL_requireSize 1 none :: om_V)) B.pre
  have hts : ∀ w ∈ wsOL_requireSize, w.before _ s = true := fun w h => htsV w (om_WV w h)
  subst hsz
  have hS : va_S (fun q => s.heap.size ≤ q) s.heap s.heap [] := va_S.rf
  have hHH : om_H s.heap s.heap := om_H.rf
  have hown : s.vm.findClass ROL = some m.cls := findClass_of_methodNamed B.named
  have hlocks := B.notSynchronized
  have hP : va_P (dC, dI) vwCl [] s.heap := hP
  have hl := lv_entry ([.int x0]) (n := 1) (Nat.le_of_ble_eq_true rfl)
  rw [lg_entry_eq]
  generalize (lg_sl ([.int x0]) ++ List.replicate (1 - (lg_sl ([.int x0])).length) Slot.unset).toArray = ls at hl ⊢
  have hl : lv_has ls 1 [(0, .int x0)] := hl
  unfold om_f_OL_requireSize at h
  refine lv_iload_n hx hb dOL_requireSize_0 rfl (lv_at hl 0 rfl) ?_
  refine lv_iconst (v := 0) hx hb dOL_requireSize_1 (by decide) ?_
  refine lv_ldc (v := 100000) hx hb hown (hts _ (om_m w_219)) dOL_requireSize_2 ?_
  obtain ⟨u1, hu1, h⟩ := om_b h
  have hPc := hP.sub (ws' := []) [] rfl
  have hDc := hD.sub (ws' := []) [] (by decide) rfl
  have hKc := hK.sub (tys' := []) [] rfl
  rcases u1 with k9 | u1w
  · have h := om_cl rfl h
    cases h
    exact om_passS (As := [.int x0, .int 0, .int 100000]) (rest := []) ⟨hx, hb, hml, hown, htsV⟩ (om_t_OL_requireWithin l hl9 dC dI s.heap.size x0 0 100000 _ hu1) (va_cwS 3 htsV (om_gsV w_220 w_221 w_1 w_222) rfl rfl rfl (by decide +kernel) ⟨Nat.le_of_ble_eq_true rfl, Nat.le_of_ble_eq_true rfl⟩) ⟨fun a U g mk q => by obtain ⟨q0, q1, qP, qK, qD, qZ⟩ := q; exact ⟨q0, q1, qP, va_K.moved (u := U) (U := U.calling g mk a) (Vm.Alike.refl U.vm) qK, qD, om_Z.same (U := U) (V := U.calling g mk a) rfl rfl qZ⟩, fun U hU hW => ⟨rfl, by rw [hU], by rw [hU]; exact hPc, va_K.moved hW.alike hKc, hDc, om_Z.step hW hZ hS hU (fun q hq => Nat.le_trans hHH.1 hq)⟩⟩ rfl hl.1 rfl (lv_room (Nat.le_of_ble_eq_true rfl)) dOL_requireSize_4 ⟨Nat.le_of_ble_eq_true rfl, Nat.le_of_ble_eq_true rfl⟩ hEx hlocks hHH (fun q hq => Nat.le_trans hHH.1 hq) (Nat.le_of_ble_eq_true rfl) (Nat.le_of_ble_eq_true rfl)
  have h := om_cr rfl h
  refine va_callv (va_runS (As := [.int x0, .int 0, .int 100000]) (rest := []) ⟨hx, hb, hml, hown, hts⟩ (om_k_OL_requireWithin l dC dI s.heap.size x0 0 100000 u1w hu1) (va_cwS 3 hts (om_gs w_220 w_221 w_1 w_222) rfl rfl rfl (by decide +kernel) ⟨Nat.le_of_ble_eq_true rfl, Nat.le_of_ble_eq_true rfl⟩) ⟨fun a U g mk q => by obtain ⟨q0, q1, qP, qK, qD⟩ := q; exact ⟨q0, q1, qP, va_K.moved (u := U) (U := U.calling g mk a) (Vm.Alike.refl U.vm) qK, qD⟩, fun U hU hW => ⟨rfl, by rw [hU], by rw [hU]; exact hPc, va_K.moved hW.alike hKc, hDc⟩⟩ rfl rfl hl.1 rfl (lv_room (Nat.le_of_ble_eq_true rfl)) dOL_requireSize_4 ⟨Nat.le_of_ble_eq_true rfl, Nat.le_of_ble_eq_true rfl⟩) hS (fun q _ hq => Nat.le_trans hHH.1 (om_nA hq)) (fun q hq => Nat.le_trans hHH.1 (om_nA hq)) (fun uz t H1 locs ht hvm hw hB hz1 hk1 hS => ?_)
  have hH1 : om_H s.heap H1 := ⟨hz1, fun q hq => hk1 q hq (fun z => Nat.not_le.mpr hq (om_nA z))⟩
  have hP : va_P (dC, dI) vwCl [] H1 := hP.kept (fun k q hq => hH1.2 q.1 (hP k q hq).lt)
  have hHH := hHH.tr hH1
  refine va_forget (fun q hq => hS.2.2 q hq) ?_
  have hS : va_S (fun q => s.heap.size ≤ q) s.heap H1 [] := ⟨hS.1, hS.2.1, fun l h => by cases h⟩
  clear hH1 hk1 hz1 hB ht
  generalize H1 = H at hP hS hHH ⊢
  refine W.widen (k := 0) (n := 0) (Nat.le_of_ble_eq_true rfl) (Nat.le_of_ble_eq_true rfl) ?_
  exact absurd h om_rn
set_option maxHeartbeats 4000000 in
set_option maxRecDepth 100000 in
theorem om_t_OL_requireRoom (l : Launch) (hl9 : l.stackTraces = false) (dC : Nat → ClassId) (dI : Nat → Nat → Nat) (a_ol : Nat) (a_items : Nat) (a_ol_lineWidths : Nat) (a_ol_settings : Nat) (a_breaks : Nat) (a_ruler : Nat) (a_search : Nat) (a_layout : Nat) (a_items_kinds : Nat) (a_items_penaltyWidths : Nat) (a_items_costs : Nat) (a_items_flags : Nat) (a_items_widthBefore : Nat) (a_items_stretchBefore : Nat) (a_items_shrinkBefore : Nat) (a_items_fillBefore : Nat)   (sz : Nat) (items_count : Int32)  (k : Nat) (h : om_f_OL_requireRoom items_count = some (.inl k)) : om_T l yOL_requireRoom (Cond.code yOL_requireRoom cOL_requireRoom 1 none :: om_V) ({ frames := 6, cells := 1, slots := 6, locals := 82 }) (va_Pc [.ref a_ol] (fun U => U.heap.size = sz ∧ va_P (dC, dI) vwCl [(a_ol, .inr (0, [.ref a_items, .ref a_ol_lineWidths, .ref a_ol_settings, .ref a_breaks, .ref a_ruler, .ref a_search, .ref a_layout])), (a_items, .inr (1, [.int items_count, .ref a_items_kinds, .ref a_items_penaltyWidths, .ref a_items_costs, .ref a_items_flags, .ref a_items_widthBefore, .ref a_items_stretchBefore, .ref a_items_shrinkBefore, .ref a_items_fillBefore]))] U.heap ∧ va_K (dC, dI) vwCl [] U ∧ va_D (fun _ => True) [(a_ol, .inr (0, [.ref a_items, .ref a_ol_lineWidths, .ref a_ol_settings, .ref a_breaks, .ref a_ruler, .ref a_search, .ref a_layout])), (a_items, .inr (1, [.int items_count, .ref a_items_kinds, .ref a_items_penaltyWidths, .ref a_items_costs, .ref a_items_flags, .ref a_items_widthBefore, .ref a_items_stretchBefore, .ref a_items_shrinkBefore, .ref a_items_fillBefore]))] ∧ om_Z (fun q => sz ≤ q) U)) (om_E k) om_K 1 6 (fun q => sz ≤ q) := by
  refine om_T.ofW (cc := cOL_requireRoom) (maxL := 1) (ret := none) (by decide) rfl ?_
  intro p e s m args below meth c s₁ B hml hEx hv
  obtain ⟨rfl, hsz, hP, hK, hD, hZ⟩ := hv
  have hx := B.exec
  have hb := B.bytes
  have hr := B.returns
  have htsV := atoms_spec (ws := (Cond.code yOL_requireRoom cOL_requireRoom 1 none :: om_V)) B.pre
  have hts : ∀ w ∈ wsOL_requireRoom, w.before _ s = true := fun w h => htsV w (om_WV w h)
  subst hsz
  have hS : va_S (fun q => s.heap.size ≤ q) s.heap s.heap [] := va_S.rf
  have hHH : om_H s.heap s.heap := om_H.rf
  have hown : s.vm.findClass ROL = some m.cls := findClass_of_methodNamed B.named
  have hlocks := B.notSynchronized
  have hP : va_P (dC, dI) vwCl [(a_ol, .inr (0, [.ref a_items, .ref a_ol_lineWidths, .ref a_ol_settings, .ref a_breaks, .ref a_ruler, .ref a_search, .ref a_layout])), (a_items, .inr (1, [.int items_count, .ref a_items_kinds, .ref a_items_penaltyWidths, .ref a_items_costs, .ref a_items_flags, .ref a_items_widthBefore, .ref a_items_stretchBefore, .ref a_items_shrinkBefore, .ref a_items_fillBefore]))] s.heap := hP
  have hl := lv_entry ([.ref a_ol]) (n := 1) (Nat.le_of_ble_eq_true rfl)
  rw [lg_entry_eq]
  generalize (lg_sl ([.ref a_ol]) ++ List.replicate (1 - (lg_sl ([.ref a_ol])).length) Slot.unset).toArray = ls at hl ⊢
  have hl : lv_has ls 1 [(0, .ref a_ol)] := hl
  unfold om_f_OL_requireRoom at h
  refine lv_aload_n hx hb dOL_requireRoom_0 rfl (lv_at hl 0 rfl) ?_
  refine va_get (D := (dC, dI)) (ci := 0) (v := .ref a_items) (C := ROL) (T := TOL) (N := 7) hx hb hts (fun w h => om_m (inOL w h)) hown hK hP 0 rfl rfl 0 (by decide) (hts _ (om_m w_186)) (fun _ h9 => h9) rfl dOL_requireRoom_1 ?_
  refine va_get (D := (dC, dI)) (ci := 1) (v := .int items_count) (C := RItems) (T := TItems) (N := 9) hx hb hts (fun w h => om_m (inItems w h)) hown hK hP 1 rfl rfl 0 (by decide) (hts _ (om_m w_33)) (fun _ h9 => h9) rfl dOL_requireRoom_4 ?_
  refine lv_sipush (v := 400) hx hb dOL_requireRoom_7 (by decide) ?_
  refine lv_icmp_lt (tgt := 23) hx hb dOL_requireRoom_10 (by decide) (fun g1 => ?_) (fun g1 => ?_)
  · have h := om_t g1 h
    exact absurd h om_rn
  · have h := om_f g1 h
    cases h
    obtain ⟨sa, hsa⟩ := hZ.2.1.2 (183, "there are 400 items") (by decide)
    exact om_throw (own := ROL) (cls := "java/lang/IllegalStateException") (text := "there are 400 items") (names := ["java/lang/RuntimeException", "java/lang/Exception"]) hx hb hl9 hown (by decide +kernel) (by decide +kernel) (hts _ (om_m w_271)) (hts _ (om_m w_16)) hsa (om_atoms (X := "java/lang/IllegalStateException") htsV hZ (by decide +kernel)) (hl.1.trans hml.symm) dOL_requireRoom_13 dOL_requireRoom_16 dOL_requireRoom_17 dOL_requireRoom_19 dOL_requireRoom_22 hEx (Nat.le_of_ble_eq_true rfl) (Nat.le_of_ble_eq_true rfl) (Nat.le_of_ble_eq_true rfl) (Nat.le_of_ble_eq_true rfl) hlocks (Nat.le_of_ble_eq_true rfl) (Nat.le_of_ble_eq_true rfl)
set_option maxHeartbeats 4000000 in
set_option maxRecDepth 100000 in
theorem om_t_OL_requireLines (l : Launch) (hl9 : l.stackTraces = false) (dC : Nat → ClassId) (dI : Nat → Nat → Nat) (a_ol : Nat) (a_layout : Nat) (a_items : Nat) (a_ol_lineWidths : Nat) (a_ol_settings : Nat) (a_breaks : Nat) (a_ruler : Nat) (a_search : Nat) (a_layout_starts : Nat) (a_layout_ends : Nat)   (sz : Nat) (layout_known : Int32) (layout_lines : Int32) (layout_passTaken : Int32) (layout_extraStretch : Int32) (layout_demeritSum : Int64)  (k : Nat) (h : om_f_OL_requireLines layout_known = some (.inl k)) : om_T l yOL_requireLines (Cond.code yOL_requireLines cOL_requireLines 1 none :: om_V) ({ frames := 6, cells := 1, slots := 6, locals := 82 }) (va_Pc [.ref a_ol] (fun U => U.heap.size = sz ∧ va_P (dC, dI) vwCl [(a_ol, .inr (0, [.ref a_items, .ref a_ol_lineWidths, .ref a_ol_settings, .ref a_breaks, .ref a_ruler, .ref a_search, .ref a_layout])), (a_layout, .inr (6, [.int layout_known, .int layout_lines, .int layout_passTaken, .int layout_extraStretch, .long layout_demeritSum, .ref a_layout_starts, .ref a_layout_ends]))] U.heap ∧ va_K (dC, dI) vwCl [] U ∧ va_D (fun _ => True) [(a_ol, .inr (0, [.ref a_items, .ref a_ol_lineWidths, .ref a_ol_settings, .ref a_breaks, .ref a_ruler, .ref a_search, .ref a_layout])), (a_layout, .inr (6, [.int layout_known, .int layout_lines, .int layout_passTaken, .int layout_extraStretch, .long layout_demeritSum, .ref a_layout_starts, .ref a_layout_ends]))] ∧ om_Z (fun q => sz ≤ q) U)) (om_E k) om_K 1 6 (fun q => sz ≤ q) := by
  refine om_T.ofW (cc := cOL_requireLines) (maxL := 1) (ret := none) (by decide) rfl ?_
  intro p e s m args below meth c s₁ B hml hEx hv
  obtain ⟨rfl, hsz, hP, hK, hD, hZ⟩ := hv
  have hx := B.exec
  have hb := B.bytes
  have hr := B.returns
  have htsV := atoms_spec (ws := (Cond.code yOL_requireLines cOL_requireLines 1 none :: om_V)) B.pre
  have hts : ∀ w ∈ wsOL_requireLines, w.before _ s = true := fun w h => htsV w (om_WV w h)
  subst hsz
  have hS : va_S (fun q => s.heap.size ≤ q) s.heap s.heap [] := va_S.rf
  have hHH : om_H s.heap s.heap := om_H.rf
  have hown : s.vm.findClass ROL = some m.cls := findClass_of_methodNamed B.named
  have hlocks := B.notSynchronized
  have hP : va_P (dC, dI) vwCl [(a_ol, .inr (0, [.ref a_items, .ref a_ol_lineWidths, .ref a_ol_settings, .ref a_breaks, .ref a_ruler, .ref a_search, .ref a_layout])), (a_layout, .inr (6, [.int layout_known, .int layout_lines, .int layout_passTaken, .int layout_extraStretch, .long layout_demeritSum, .ref a_layout_starts, .ref a_layout_ends]))] s.heap := hP
  have hl := lv_entry ([.ref a_ol]) (n := 1) (Nat.le_of_ble_eq_true rfl)
  rw [lg_entry_eq]
  generalize (lg_sl ([.ref a_ol]) ++ List.replicate (1 - (lg_sl ([.ref a_ol])).length) Slot.unset).toArray = ls at hl ⊢
  have hl : lv_has ls 1 [(0, .ref a_ol)] := hl
  unfold om_f_OL_requireLines at h
  refine lv_aload_n hx hb dOL_requireLines_0 rfl (lv_at hl 0 rfl) ?_
  refine va_get (D := (dC, dI)) (ci := 0) (v := .ref a_layout) (C := ROL) (T := TOL) (N := 7) hx hb hts (fun w h => om_m (inOL w h)) hown hK hP 0 rfl rfl 6 (by decide) (hts _ (om_m w_192)) (fun _ h9 => h9) rfl dOL_requireLines_1 ?_
  refine va_get (D := (dC, dI)) (ci := 6) (v := .int layout_known) (C := RLayout) (T := TLayout) (N := 7) hx hb hts (fun w h => om_m (inLayout w h)) hown hK hP 1 rfl rfl 0 (by decide) (hts _ (om_m w_165)) (fun _ h9 => h9) rfl dOL_requireLines_4 ?_
  refine lv_if_ne (tgt := 20) hx hb dOL_requireLines_7 (by decide) (fun g1 => ?_) (fun g1 => ?_)
  · have h := om_f g1 h
    exact absurd h om_rn
  · have h := om_t g1 h
    cases h
    obtain ⟨sa, hsa⟩ := hZ.2.1.2 (185, "nothing was broken since the last change") (by decide)
    exact om_throw (own := ROL) (cls := "java/lang/IllegalStateException") (text := "nothing was broken since the last change") (names := ["java/lang/RuntimeException", "java/lang/Exception"]) hx hb hl9 hown (by decide +kernel) (by decide +kernel) (hts _ (om_m w_271)) (hts _ (om_m w_16)) hsa (om_atoms (X := "java/lang/IllegalStateException") htsV hZ (by decide +kernel)) (hl.1.trans hml.symm) dOL_requireLines_10 dOL_requireLines_13 dOL_requireLines_14 dOL_requireLines_16 dOL_requireLines_19 hEx (Nat.le_of_ble_eq_true rfl) (Nat.le_of_ble_eq_true rfl) (Nat.le_of_ble_eq_true rfl) (Nat.le_of_ble_eq_true rfl) hlocks (Nat.le_of_ble_eq_true rfl) (Nat.le_of_ble_eq_true rfl)
set_option maxHeartbeats 4000000 in
set_option maxRecDepth 100000 in
theorem om_t_OL_requireIndex (l : Launch) (hl9 : l.stackTraces = false) (dC : Nat → ClassId) (dI : Nat → Nat → Nat)    (sz : Nat)  (x0 : Int32) (x1 : Int32) (k : Nat) (h : om_f_OL_requireIndex x0 x1 = some (.inl k)) : om_T l yOL_requireIndex (Cond.code yOL_requireIndex cOL_requireIndex 2 none :: om_V) ({ frames := 6, cells := 1, slots := 6, locals := 82 }) (va_Pc [.int x0, .int x1] (fun U => U.heap.size = sz ∧ va_P (dC, dI) vwCl [] U.heap ∧ va_K (dC, dI) vwCl [] U ∧ va_D (fun _ => True) [] ∧ om_Z (fun q => sz ≤ q) U)) (om_E k) om_K 1 6 (fun q => sz ≤ q) := by
  refine om_T.ofW (cc := cOL_requireIndex) (maxL := 2) (ret := none) (by decide) rfl ?_
  intro p e s m args below meth c s₁ B hml hEx hv
  obtain ⟨rfl, hsz, hP, hK, hD, hZ⟩ := hv
  have hx := B.exec
  have hb := B.bytes
  have hr := B.returns
  have htsV := atoms_spec (ws := (Cond.code yOL_requireIndex cOL_requireIndex 2 none :: om_V)) B.pre
  have hts : ∀ w ∈ wsOL_requireIndex, w.before _ s = true := fun w h => htsV w (om_WV w h)
  subst hsz
  have hS : va_S (fun q => s.heap.size ≤ q) s.heap s.heap [] := va_S.rf
  have hHH : om_H s.heap s.heap := om_H.rf
  have hown : s.vm.findClass ROL = some m.cls := findClass_of_methodNamed B.named
  have hlocks := B.notSynchronized
  have hP : va_P (dC, dI) vwCl [] s.heap := hP
  have hl := lv_entry ([.int x0, .int x1]) (n := 2) (Nat.le_of_ble_eq_true rfl)
  rw [lg_entry_eq]
  generalize (lg_sl ([.int x0, .int x1]) ++ List.replicate (2 - (lg_sl ([.int x0, .int x1])).length) Slot.unset).toArray = ls at hl ⊢
  have hl : lv_has ls 2 [(0, .int x0), (1, .int x1)] := hl
  unfold om_f_OL_requireIndex at h
  refine lv_iload_n hx hb dOL_requireIndex_0 rfl (lv_at hl 0 rfl) ?_
  refine lv_if_lt (tgt := 9) hx hb dOL_requireIndex_1 (by decide) (fun g1 => ?_) (fun g1 => ?_)
  · have h := om_t g1 h
    cases h
    obtain ⟨sa, hsa⟩ := hZ.2.1.2 (180, "there is no such line, item or number of what is asked") (by decide)
    exact om_throw (own := ROL) (cls := "java/lang/IndexOutOfBoundsException") (text := "there is no such line, item or number of what is asked") (names := ["java/lang/RuntimeException", "java/lang/Exception"]) hx hb hl9 hown (by decide +kernel) (by decide +kernel) (hts _ (om_m w_499)) (hts _ (om_m w_17)) hsa (om_atoms (X := "java/lang/IndexOutOfBoundsException") htsV hZ (by decide +kernel)) (hl.1.trans hml.symm) dOL_requireIndex_9 dOL_requireIndex_12 dOL_requireIndex_13 dOL_requireIndex_15 dOL_requireIndex_18 hEx (Nat.le_of_ble_eq_true rfl) (Nat.le_of_ble_eq_true rfl) (Nat.le_of_ble_eq_true rfl) (Nat.le_of_ble_eq_true rfl) hlocks (Nat.le_of_ble_eq_true rfl) (Nat.le_of_ble_eq_true rfl)
  · have h := om_f g1 h
    refine lv_iload_n hx hb dOL_requireIndex_4 rfl (lv_at hl 0 rfl) ?_
    refine lv_iload_n hx hb dOL_requireIndex_5 rfl (lv_at hl 1 rfl) ?_
    refine lv_icmp_lt (tgt := 19) hx hb dOL_requireIndex_6 (by decide) (fun g2 => ?_) (fun g2 => ?_)
    · have h := om_t g2 h
      exact absurd h om_rn
    · have h := om_f g2 h
      cases h
      obtain ⟨sa, hsa⟩ := hZ.2.1.2 (180, "there is no such line, item or number of what is asked") (by decide)
      exact om_throw (own := ROL) (cls := "java/lang/IndexOutOfBoundsException") (text := "there is no such line, item or number of what is asked") (names := ["java/lang/RuntimeException", "java/lang/Exception"]) hx hb hl9 hown (by decide +kernel) (by decide +kernel) (hts _ (om_m w_499)) (hts _ (om_m w_17)) hsa (om_atoms (X := "java/lang/IndexOutOfBoundsException") htsV hZ (by decide +kernel)) (hl.1.trans hml.symm) dOL_requireIndex_9 dOL_requireIndex_12 dOL_requireIndex_13 dOL_requireIndex_15 dOL_requireIndex_18 hEx (Nat.le_of_ble_eq_true rfl) (Nat.le_of_ble_eq_true rfl) (Nat.le_of_ble_eq_true rfl) (Nat.le_of_ble_eq_true rfl) hlocks (Nat.le_of_ble_eq_true rfl) (Nat.le_of_ble_eq_true rfl)
set_option maxHeartbeats 4000000 in
set_option maxRecDepth 100000 in
theorem om_t_OL_box (l : Launch) (hl9 : l.stackTraces = false) (dC : Nat → ClassId) (dI : Nat → Nat → Nat) (a_ol : Nat) (a_items : Nat) (a_items_kinds : Nat) (a_items_penaltyWidths : Nat) (a_items_costs : Nat) (a_items_flags : Nat) (a_items_widthBefore : Nat) (a_items_stretchBefore : Nat) (a_items_shrinkBefore : Nat) (a_items_fillBefore : Nat) (a_layout : Nat) (a_ol_lineWidths : Nat) (a_ol_settings : Nat) (a_breaks : Nat) (a_ruler : Nat) (a_search : Nat) (a_layout_starts : Nat) (a_layout_ends : Nat) (c_items_kinds : ClassId) (c_items_penaltyWidths : ClassId) (c_items_costs : ClassId) (c_items_flags : ClassId) (c_items_widthBefore : ClassId) (c_items_stretchBefore : ClassId) (c_items_shrinkBefore : ClassId) (c_items_fillBefore : ClassId)  (sz : Nat) (items_count : Int32) (items_kinds : (Nat → Int32)) (items_penaltyWidths : (Nat → Int32)) (items_costs : (Nat → Int32)) (items_flags : (Nat → Int32)) (items_widthBefore : (Nat → Int32)) (items_stretchBefore : (Nat → Int32)) (items_shrinkBefore : (Nat → Int32)) (items_fillBefore : (Nat → Int32)) (layout_known : Int32) (layout_lines : Int32) (layout_passTaken : Int32) (layout_extraStretch : Int32) (layout_demeritSum : Int64) (x1 : Int32) (k : Nat) (h : om_f_OL_box items_count items_kinds items_penaltyWidths items_costs items_flags items_widthBefore items_stretchBefore items_shrinkBefore items_fillBefore x1 = some (.inl k)) : om_T l yOL_box (Cond.code yOL_box cOL_box 2 (some .int) :: om_V) ({ frames := 8, cells := 1, slots := 6, locals := 124 }) (va_Pc [.ref a_ol, .int x1] (fun U => U.heap.size = sz ∧ va_P (dC, dI) vwCl [(a_ol, .inr (0, [.ref a_items, .ref a_ol_lineWidths, .ref a_ol_settings, .ref a_breaks, .ref a_ruler, .ref a_search, .ref a_layout])), (a_items, .inr (1, [.int items_count, .ref a_items_kinds, .ref a_items_penaltyWidths, .ref a_items_costs, .ref a_items_flags, .ref a_items_widthBefore, .ref a_items_stretchBefore, .ref a_items_shrinkBefore, .ref a_items_fillBefore])), (a_items_kinds, .inl (c_items_kinds, 400, .inl items_kinds)), (a_items_penaltyWidths, .inl (c_items_penaltyWidths, 400, .inl items_penaltyWidths)), (a_items_costs, .inl (c_items_costs, 400, .inl items_costs)), (a_items_flags, .inl (c_items_flags, 400, .inl items_flags)), (a_items_widthBefore, .inl (c_items_widthBefore, 401, .inl items_widthBefore)), (a_items_stretchBefore, .inl (c_items_stretchBefore, 401, .inl items_stretchBefore)), (a_items_shrinkBefore, .inl (c_items_shrinkBefore, 401, .inl items_shrinkBefore)), (a_items_fillBefore, .inl (c_items_fillBefore, 401, .inl items_fillBefore)), (a_layout, .inr (6, [.int layout_known, .int layout_lines, .int layout_passTaken, .int layout_extraStretch, .long layout_demeritSum, .ref a_layout_starts, .ref a_layout_ends]))] U.heap ∧ va_K (dC, dI) vwCl [(c_items_kinds, .int), (c_items_penaltyWidths, .int), (c_items_costs, .int), (c_items_flags, .boolean), (c_items_widthBefore, .int), (c_items_stretchBefore, .int), (c_items_shrinkBefore, .int), (c_items_fillBefore, .int)] U ∧ va_D (fun _ => True) [(a_ol, .inr (0, [.ref a_items, .ref a_ol_lineWidths, .ref a_ol_settings, .ref a_breaks, .ref a_ruler, .ref a_search, .ref a_layout])), (a_items, .inr (1, [.int items_count, .ref a_items_kinds, .ref a_items_penaltyWidths, .ref a_items_costs, .ref a_items_flags, .ref a_items_widthBefore, .ref a_items_stretchBefore, .ref a_items_shrinkBefore, .ref a_items_fillBefore])), (a_items_kinds, .inl (c_items_kinds, 400, .inl items_kinds)), (a_items_penaltyWidths, .inl (c_items_penaltyWidths, 400, .inl items_penaltyWidths)), (a_items_costs, .inl (c_items_costs, 400, .inl items_costs)), (a_items_flags, .inl (c_items_flags, 400, .inl items_flags)), (a_items_widthBefore, .inl (c_items_widthBefore, 401, .inl items_widthBefore)), (a_items_stretchBefore, .inl (c_items_stretchBefore, 401, .inl items_stretchBefore)), (a_items_shrinkBefore, .inl (c_items_shrinkBefore, 401, .inl items_shrinkBefore)), (a_items_fillBefore, .inl (c_items_fillBefore, 401, .inl items_fillBefore)), (a_layout, .inr (6, [.int layout_known, .int layout_lines, .int layout_passTaken, .int layout_extraStretch, .long layout_demeritSum, .ref a_layout_starts, .ref a_layout_ends]))] ∧ om_Z (fun q => sz ≤ q) U)) (om_E k) om_K 1 6 (fun q => sz ≤ q) := by
  refine om_T.ofW (cc := cOL_box) (maxL := 2) (ret := (some .int)) (by decide) rfl ?_
  intro p e s m args below meth c s₁ B hml hEx hv
  obtain ⟨rfl, hsz, hP, hK, hD, hZ⟩ := hv
  have hx := B.exec
  have hb := B.bytes
  have hr := B.returns
  have htsV := atoms_spec (ws := (Cond.code yOL_box cOL_box 2 (some .int) :: om_V)) B.pre
  have hts : ∀ w ∈ wsOL_box, w.before _ s = true := fun w h => htsV w (om_WV w h)
  subst hsz
  have hS : va_S (fun q => s.heap.size ≤ q) s.heap s.heap [] := va_S.rf
  have hHH : om_H s.heap s.heap := om_H.rf
  have hown : s.vm.findClass ROL = some m.cls := findClass_of_methodNamed B.named
  have hlocks := B.notSynchronized
  have hP : va_P (dC, dI) vwCl [(a_ol, .inr (0, [.ref a_items, .ref a_ol_lineWidths, .ref a_ol_settings, .ref a_breaks, .ref a_ruler, .ref a_search, .ref a_layout])), (a_items, .inr (1, [.int items_count, .ref a_items_kinds, .ref a_items_penaltyWidths, .ref a_items_costs, .ref a_items_flags, .ref a_items_widthBefore, .ref a_items_stretchBefore, .ref a_items_shrinkBefore, .ref a_items_fillBefore])), (a_items_kinds, .inl (c_items_kinds, 400, .inl items_kinds)), (a_items_penaltyWidths, .inl (c_items_penaltyWidths, 400, .inl items_penaltyWidths)), (a_items_costs, .inl (c_items_costs, 400, .inl items_costs)), (a_items_flags, .inl (c_items_flags, 400, .inl items_flags)), (a_items_widthBefore, .inl (c_items_widthBefore, 401, .inl items_widthBefore)), (a_items_stretchBefore, .inl (c_items_stretchBefore, 401, .inl items_stretchBefore)), (a_items_shrinkBefore, .inl (c_items_shrinkBefore, 401, .inl items_shrinkBefore)), (a_items_fillBefore, .inl (c_items_fillBefore, 401, .inl items_fillBefore)), (a_layout, .inr (6, [.int layout_known, .int layout_lines, .int layout_passTaken, .int layout_extraStretch, .long layout_demeritSum, .ref a_layout_starts, .ref a_layout_ends]))] s.heap := hP
  have hl := lv_entry ([.ref a_ol, .int x1]) (n := 2) (Nat.le_of_ble_eq_true rfl)
  rw [lg_entry_eq]
  generalize (lg_sl ([.ref a_ol, .int x1]) ++ List.replicate (2 - (lg_sl ([.ref a_ol, .int x1])).length) Slot.unset).toArray = ls at hl ⊢
  have hl : lv_has ls 2 [(0, .ref a_ol), (1, .int x1)] := hl
  unfold om_f_OL_box at h
  refine lv_iload_n hx hb dOL_box_0 rfl (lv_at hl 1 rfl) ?_
  obtain ⟨u1, hu1, h⟩ := om_b h
  have hPc := hP.sub (ws' := []) [] rfl
  have hDc := hD.sub (ws' := []) [] (by decide) rfl
  have hKc := hK.sub (tys' := []) [] rfl
  rcases u1 with k9 | u1w
  · have h := om_cl rfl h
    cases h
    exact om_passS (As := [.int x1]) (rest := []) ⟨hx, hb, hml, hown, htsV⟩ (om_t_OL_requireSize l hl9 dC dI s.heap.size x1 _ hu1) (va_cwS 1 htsV (om_gsV w_216 w_217 w_1 w_218) rfl rfl rfl (by decide +kernel) ⟨Nat.le_of_ble_eq_true rfl, Nat.le_of_ble_eq_true rfl⟩) ⟨fun a U g mk q => by obtain ⟨q0, q1, qP, qK, qD, qZ⟩ := q; exact ⟨q0, q1, qP, va_K.moved (u := U) (U := U.calling g mk a) (Vm.Alike.refl U.vm) qK, qD, om_Z.same (U := U) (V := U.calling g mk a) rfl rfl qZ⟩, fun U hU hW => ⟨rfl, by rw [hU], by rw [hU]; exact hPc, va_K.moved hW.alike hKc, hDc, om_Z.step hW hZ hS hU (fun q hq => Nat.le_trans hHH.1 hq)⟩⟩ rfl hl.1 rfl (lv_room (Nat.le_of_ble_eq_true rfl)) dOL_box_1 ⟨Nat.le_of_ble_eq_true rfl, Nat.le_of_ble_eq_true rfl⟩ hEx hlocks hHH (fun q hq => Nat.le_trans hHH.1 hq) (Nat.le_of_ble_eq_true rfl) (Nat.le_of_ble_eq_true rfl)
  have h := om_cr rfl h
  refine va_callv (va_runS (As := [.int x1]) (rest := []) ⟨hx, hb, hml, hown, hts⟩ (om_k_OL_requireSize l dC dI s.heap.size x1 u1w hu1) (va_cwS 1 hts (om_gs w_216 w_217 w_1 w_218) rfl rfl rfl (by decide +kernel) ⟨Nat.le_of_ble_eq_true rfl, Nat.le_of_ble_eq_true rfl⟩) ⟨fun a U g mk q => by obtain ⟨q0, q1, qP, qK, qD⟩ := q; exact ⟨q0, q1, qP, va_K.moved (u := U) (U := U.calling g mk a) (Vm.Alike.refl U.vm) qK, qD⟩, fun U hU hW => ⟨rfl, by rw [hU], by rw [hU]; exact hPc, va_K.moved hW.alike hKc, hDc⟩⟩ rfl rfl hl.1 rfl (lv_room (Nat.le_of_ble_eq_true rfl)) dOL_box_1 ⟨Nat.le_of_ble_eq_true rfl, Nat.le_of_ble_eq_true rfl⟩) hS (fun q _ hq => Nat.le_trans hHH.1 (om_nA hq)) (fun q hq => Nat.le_trans hHH.1 (om_nA hq)) (fun uz t H1 locs ht hvm hw hB hz1 hk1 hS => ?_)
  have hH1 : om_H s.heap H1 := ⟨hz1, fun q hq => hk1 q hq (fun z => Nat.not_le.mpr hq (om_nA z))⟩
  have hP : va_P (dC, dI) vwCl [(a_ol, .inr (0, [.ref a_items, .ref a_ol_lineWidths, .ref a_ol_settings, .ref a_breaks, .ref a_ruler, .ref a_search, .ref a_layout])), (a_items, .inr (1, [.int items_count, .ref a_items_kinds, .ref a_items_penaltyWidths, .ref a_items_costs, .ref a_items_flags, .ref a_items_widthBefore, .ref a_items_stretchBefore, .ref a_items_shrinkBefore, .ref a_items_fillBefore])), (a_items_kinds, .inl (c_items_kinds, 400, .inl items_kinds)), (a_items_penaltyWidths, .inl (c_items_penaltyWidths, 400, .inl items_penaltyWidths)), (a_items_costs, .inl (c_items_costs, 400, .inl items_costs)), (a_items_flags, .inl (c_items_flags, 400, .inl items_flags)), (a_items_widthBefore, .inl (c_items_widthBefore, 401, .inl items_widthBefore)), (a_items_stretchBefore, .inl (c_items_stretchBefore, 401, .inl items_stretchBefore)), (a_items_shrinkBefore, .inl (c_items_shrinkBefore, 401, .inl items_shrinkBefore)), (a_items_fillBefore, .inl (c_items_fillBefore, 401, .inl items_fillBefore)), (a_layout, .inr (6, [.int layout_known, .int layout_lines, .int layout_passTaken, .int layout_extraStretch, .long layout_demeritSum, .ref a_layout_starts, .ref a_layout_ends]))] H1 := hP.kept (fun k q hq => hH1.2 q.1 (hP k q hq).lt)
  have hHH := hHH.tr hH1
  refine va_forget (fun q hq => hS.2.2 q hq) ?_
  have hS : va_S (fun q => s.heap.size ≤ q) s.heap H1 [] := ⟨hS.1, hS.2.1, fun l h => by cases h⟩
  clear hH1 hk1 hz1 hB ht
  generalize H1 = H at hP hS hHH ⊢
  refine W.widen (k := 0) (n := 0) (Nat.le_of_ble_eq_true rfl) (Nat.le_of_ble_eq_true rfl) ?_
  refine lv_aload_n hx hb dOL_box_4 rfl (lv_at hl 0 rfl) ?_
  obtain ⟨u2, hu2, h⟩ := om_b h
  have hPc := hP.sub (ws' := [(a_ol, .inr (0, [.ref a_items, .ref a_ol_lineWidths, .ref a_ol_settings, .ref a_breaks, .ref a_ruler, .ref a_search, .ref a_layout])), (a_items, .inr (1, [.int items_count, .ref a_items_kinds, .ref a_items_penaltyWidths, .ref a_items_costs, .ref a_items_flags, .ref a_items_widthBefore, .ref a_items_stretchBefore, .ref a_items_shrinkBefore, .ref a_items_fillBefore]))]) [0, 1] rfl
  have hDc := hD.sub (ws' := [(a_ol, .inr (0, [.ref a_items, .ref a_ol_lineWidths, .ref a_ol_settings, .ref a_breaks, .ref a_ruler, .ref a_search, .ref a_layout])), (a_items, .inr (1, [.int items_count, .ref a_items_kinds, .ref a_items_penaltyWidths, .ref a_items_costs, .ref a_items_flags, .ref a_items_widthBefore, .ref a_items_stretchBefore, .ref a_items_shrinkBefore, .ref a_items_fillBefore]))]) [0, 1] (by decide) rfl
  have hKc := hK.sub (tys' := []) [] rfl
  rcases u2 with k9 | u2w
  · have h := om_cl rfl h
    cases h
    exact om_passV (As := []) (rest := []) ⟨hx, hb, hml, hown, htsV⟩ (om_t_OL_requireRoom l hl9 dC dI a_ol a_items a_ol_lineWidths a_ol_settings a_breaks a_ruler a_search a_layout a_items_kinds a_items_penaltyWidths a_items_costs a_items_flags a_items_widthBefore a_items_stretchBefore a_items_shrinkBefore a_items_fillBefore H.size items_count _ hu2) (cwV 0 htsV (om_gvV w_268 w_269 w_775 w_1 w_270) rfl rfl rfl (by decide +kernel) ⟨Nat.le_of_ble_eq_true rfl, Nat.le_of_ble_eq_true rfl⟩) ⟨fun a U g mk q => by obtain ⟨q0, q1, qP, qK, qD, qZ⟩ := q; exact ⟨q0, q1, qP, va_K.moved (u := U) (U := U.calling g mk a) (Vm.Alike.refl U.vm) qK, qD, om_Z.same (U := U) (V := U.calling g mk a) rfl rfl qZ⟩, va_recv hKc hPc (ci := 0) (q0 := 0) rfl rfl, fun U hU hW => ⟨rfl, by rw [hU], by rw [hU]; exact hPc, va_K.moved hW.alike hKc, hDc, om_Z.step hW hZ hS hU (fun q hq => Nat.le_trans hHH.1 hq)⟩⟩ rfl hl.1 rfl (lv_room (Nat.le_of_ble_eq_true rfl)) dOL_box_5 ⟨Nat.le_of_ble_eq_true rfl, Nat.le_of_ble_eq_true rfl⟩ hEx hlocks hHH (fun q hq => Nat.le_trans hHH.1 hq) (Nat.le_of_ble_eq_true rfl) (Nat.le_of_ble_eq_true rfl)
  have h := om_cr rfl h
  refine va_callv (va_runV (As := []) (rest := []) ⟨hx, hb, hml, hown, hts⟩ (om_p_OL_requireRoom l dC dI a_ol a_items a_ol_lineWidths a_ol_settings a_breaks a_ruler a_search a_layout a_items_kinds a_items_penaltyWidths a_items_costs a_items_flags a_items_widthBefore a_items_stretchBefore a_items_shrinkBefore a_items_fillBefore H.size items_count u2w hu2) (cwV 0 hts (om_gv w_268 w_269 w_775 w_1 w_270) rfl rfl rfl (by decide +kernel) ⟨Nat.le_of_ble_eq_true rfl, Nat.le_of_ble_eq_true rfl⟩) ⟨fun a U g mk q => by obtain ⟨q0, q1, qP, qK, qD⟩ := q; exact ⟨q0, q1, qP, va_K.moved (u := U) (U := U.calling g mk a) (Vm.Alike.refl U.vm) qK, qD⟩, va_recv hKc hPc (ci := 0) (q0 := 0) rfl rfl, fun U hU hW => ⟨rfl, by rw [hU], by rw [hU]; exact hPc, va_K.moved hW.alike hKc, hDc⟩⟩ rfl rfl hl.1 rfl (lv_room (Nat.le_of_ble_eq_true rfl)) dOL_box_5 ⟨Nat.le_of_ble_eq_true rfl, Nat.le_of_ble_eq_true rfl⟩) hS (fun q _ hq => Nat.le_trans hHH.1 (om_nA hq)) (fun q hq => Nat.le_trans hHH.1 (om_nA hq)) (fun uz t H1 locs ht hvm hw hB hz1 hk1 hS => ?_)
  have hH1 : om_H H H1 := ⟨hz1, fun q hq => hk1 q hq (fun z => Nat.not_le.mpr hq (om_nA z))⟩
  have hP : va_P (dC, dI) vwCl [(a_ol, .inr (0, [.ref a_items, .ref a_ol_lineWidths, .ref a_ol_settings, .ref a_breaks, .ref a_ruler, .ref a_search, .ref a_layout])), (a_items, .inr (1, [.int items_count, .ref a_items_kinds, .ref a_items_penaltyWidths, .ref a_items_costs, .ref a_items_flags, .ref a_items_widthBefore, .ref a_items_stretchBefore, .ref a_items_shrinkBefore, .ref a_items_fillBefore])), (a_items_kinds, .inl (c_items_kinds, 400, .inl items_kinds)), (a_items_penaltyWidths, .inl (c_items_penaltyWidths, 400, .inl items_penaltyWidths)), (a_items_costs, .inl (c_items_costs, 400, .inl items_costs)), (a_items_flags, .inl (c_items_flags, 400, .inl items_flags)), (a_items_widthBefore, .inl (c_items_widthBefore, 401, .inl items_widthBefore)), (a_items_stretchBefore, .inl (c_items_stretchBefore, 401, .inl items_stretchBefore)), (a_items_shrinkBefore, .inl (c_items_shrinkBefore, 401, .inl items_shrinkBefore)), (a_items_fillBefore, .inl (c_items_fillBefore, 401, .inl items_fillBefore)), (a_layout, .inr (6, [.int layout_known, .int layout_lines, .int layout_passTaken, .int layout_extraStretch, .long layout_demeritSum, .ref a_layout_starts, .ref a_layout_ends]))] H1 := hP.kept (fun k q hq => hH1.2 q.1 (hP k q hq).lt)
  have hHH := hHH.tr hH1
  refine va_forget (fun q hq => hS.2.2 q hq) ?_
  have hS : va_S (fun q => s.heap.size ≤ q) s.heap H1 [] := ⟨hS.1, hS.2.1, fun l h => by cases h⟩
  clear hH1 hk1 hz1 hB ht
  generalize H1 = H at hP hS hHH ⊢
  refine W.widen (k := 0) (n := 0) (Nat.le_of_ble_eq_true rfl) (Nat.le_of_ble_eq_true rfl) ?_
  exact absurd h om_rn
set_option maxHeartbeats 4000000 in
set_option maxRecDepth 100000 in
theorem om_t_OL_glue (l : Launch) (hl9 : l.stackTraces = false) (dC : Nat → ClassId) (dI : Nat → Nat → Nat) (a_ol : Nat) (a_items : Nat) (a_items_kinds : Nat) (a_items_penaltyWidths : Nat) (a_items_costs : Nat) (a_items_flags : Nat) (a_items_widthBefore : Nat) (a_items_stretchBefore : Nat) (a_items_shrinkBefore : Nat) (a_items_fillBefore : Nat) (a_layout : Nat) (a_ol_lineWidths : Nat) (a_ol_settings : Nat) (a_breaks : Nat) (a_ruler : Nat) (a_search : Nat) (a_layout_starts : Nat) (a_layout_ends : Nat) (c_items_kinds : ClassId) (c_items_penaltyWidths : ClassId) (c_items_costs : ClassId) (c_items_flags : ClassId) (c_items_widthBefore : ClassId) (c_items_stretchBefore : ClassId) (c_items_shrinkBefore : ClassId) (c_items_fillBefore : ClassId)  (sz : Nat) (items_count : Int32) (items_kinds : (Nat → Int32)) (items_penaltyWidths : (Nat → Int32)) (items_costs : (Nat → Int32)) (items_flags : (Nat → Int32)) (items_widthBefore : (Nat → Int32)) (items_stretchBefore : (Nat → Int32)) (items_shrinkBefore : (Nat → Int32)) (items_fillBefore : (Nat → Int32)) (layout_known : Int32) (layout_lines : Int32) (layout_passTaken : Int32) (layout_extraStretch : Int32) (layout_demeritSum : Int64) (x1 : Int32) (x2 : Int32) (x3 : Int32) (x4 : Int32) (k : Nat) (h : om_f_OL_glue items_count items_kinds items_penaltyWidths items_costs items_flags items_widthBefore items_stretchBefore items_shrinkBefore items_fillBefore x1 x2 x3 x4 = some (.inl k)) : om_T l yOL_glue (Cond.code yOL_glue cOL_glue 5 (some .int) :: om_V) ({ frames := 8, cells := 1, slots := 6, locals := 124 }) (va_Pc [.ref a_ol, .int x1, .int x2, .int x3, .int x4] (fun U => U.heap.size = sz ∧ va_P (dC, dI) vwCl [(a_ol, .inr (0, [.ref a_items, .ref a_ol_lineWidths, .ref a_ol_settings, .ref a_breaks, .ref a_ruler, .ref a_search, .ref a_layout])), (a_items, .inr (1, [.int items_count, .ref a_items_kinds, .ref a_items_penaltyWidths, .ref a_items_costs, .ref a_items_flags, .ref a_items_widthBefore, .ref a_items_stretchBefore, .ref a_items_shrinkBefore, .ref a_items_fillBefore])), (a_items_kinds, .inl (c_items_kinds, 400, .inl items_kinds)), (a_items_penaltyWidths, .inl (c_items_penaltyWidths, 400, .inl items_penaltyWidths)), (a_items_costs, .inl (c_items_costs, 400, .inl items_costs)), (a_items_flags, .inl (c_items_flags, 400, .inl items_flags)), (a_items_widthBefore, .inl (c_items_widthBefore, 401, .inl items_widthBefore)), (a_items_stretchBefore, .inl (c_items_stretchBefore, 401, .inl items_stretchBefore)), (a_items_shrinkBefore, .inl (c_items_shrinkBefore, 401, .inl items_shrinkBefore)), (a_items_fillBefore, .inl (c_items_fillBefore, 401, .inl items_fillBefore)), (a_layout, .inr (6, [.int layout_known, .int layout_lines, .int layout_passTaken, .int layout_extraStretch, .long layout_demeritSum, .ref a_layout_starts, .ref a_layout_ends]))] U.heap ∧ va_K (dC, dI) vwCl [(c_items_kinds, .int), (c_items_penaltyWidths, .int), (c_items_costs, .int), (c_items_flags, .boolean), (c_items_widthBefore, .int), (c_items_stretchBefore, .int), (c_items_shrinkBefore, .int), (c_items_fillBefore, .int)] U ∧ va_D (fun _ => True) [(a_ol, .inr (0, [.ref a_items, .ref a_ol_lineWidths, .ref a_ol_settings, .ref a_breaks, .ref a_ruler, .ref a_search, .ref a_layout])), (a_items, .inr (1, [.int items_count, .ref a_items_kinds, .ref a_items_penaltyWidths, .ref a_items_costs, .ref a_items_flags, .ref a_items_widthBefore, .ref a_items_stretchBefore, .ref a_items_shrinkBefore, .ref a_items_fillBefore])), (a_items_kinds, .inl (c_items_kinds, 400, .inl items_kinds)), (a_items_penaltyWidths, .inl (c_items_penaltyWidths, 400, .inl items_penaltyWidths)), (a_items_costs, .inl (c_items_costs, 400, .inl items_costs)), (a_items_flags, .inl (c_items_flags, 400, .inl items_flags)), (a_items_widthBefore, .inl (c_items_widthBefore, 401, .inl items_widthBefore)), (a_items_stretchBefore, .inl (c_items_stretchBefore, 401, .inl items_stretchBefore)), (a_items_shrinkBefore, .inl (c_items_shrinkBefore, 401, .inl items_shrinkBefore)), (a_items_fillBefore, .inl (c_items_fillBefore, 401, .inl items_fillBefore)), (a_layout, .inr (6, [.int layout_known, .int layout_lines, .int layout_passTaken, .int layout_extraStretch, .long layout_demeritSum, .ref a_layout_starts, .ref a_layout_ends]))] ∧ om_Z (fun q => sz ≤ q) U)) (om_E k) om_K 1 6 (fun q => sz ≤ q) := by
  refine om_T.ofW (cc := cOL_glue) (maxL := 5) (ret := (some .int)) (by decide) rfl ?_
  intro p e s m args below meth c s₁ B hml hEx hv
  obtain ⟨rfl, hsz, hP, hK, hD, hZ⟩ := hv
  have hx := B.exec
  have hb := B.bytes
  have hr := B.returns
  have htsV := atoms_spec (ws := (Cond.code yOL_glue cOL_glue 5 (some .int) :: om_V)) B.pre
  have hts : ∀ w ∈ wsOL_glue, w.before _ s = true := fun w h => htsV w (om_WV w h)
  subst hsz
  have hS : va_S (fun q => s.heap.size ≤ q) s.heap s.heap [] := va_S.rf
  have hHH : om_H s.heap s.heap := om_H.rf
  have hown : s.vm.findClass ROL = some m.cls := findClass_of_methodNamed B.named
  have hlocks := B.notSynchronized
  have hP : va_P (dC, dI) vwCl [(a_ol, .inr (0, [.ref a_items, .ref a_ol_lineWidths, .ref a_ol_settings, .ref a_breaks, .ref a_ruler, .ref a_search, .ref a_layout])), (a_items, .inr (1, [.int items_count, .ref a_items_kinds, .ref a_items_penaltyWidths, .ref a_items_costs, .ref a_items_flags, .ref a_items_widthBefore, .ref a_items_stretchBefore, .ref a_items_shrinkBefore, .ref a_items_fillBefore])), (a_items_kinds, .inl (c_items_kinds, 400, .inl items_kinds)), (a_items_penaltyWidths, .inl (c_items_penaltyWidths, 400, .inl items_penaltyWidths)), (a_items_costs, .inl (c_items_costs, 400, .inl items_costs)), (a_items_flags, .inl (c_items_flags, 400, .inl items_flags)), (a_items_widthBefore, .inl (c_items_widthBefore, 401, .inl items_widthBefore)), (a_items_stretchBefore, .inl (c_items_stretchBefore, 401, .inl items_stretchBefore)), (a_items_shrinkBefore, .inl (c_items_shrinkBefore, 401, .inl items_shrinkBefore)), (a_items_fillBefore, .inl (c_items_fillBefore, 401, .inl items_fillBefore)), (a_layout, .inr (6, [.int layout_known, .int layout_lines, .int layout_passTaken, .int layout_extraStretch, .long layout_demeritSum, .ref a_layout_starts, .ref a_layout_ends]))] s.heap := hP
  have hl := lv_entry ([.ref a_ol, .int x1, .int x2, .int x3, .int x4]) (n := 5) (Nat.le_of_ble_eq_true rfl)
  rw [lg_entry_eq]
  generalize (lg_sl ([.ref a_ol, .int x1, .int x2, .int x3, .int x4]) ++ List.replicate (5 - (lg_sl ([.ref a_ol, .int x1, .int x2, .int x3, .int x4])).length) Slot.unset).toArray = ls at hl ⊢
  have hl : lv_has ls 5 [(0, .ref a_ol), (1, .int x1), (2, .int x2), (3, .int x3), (4, .int x4)] := hl
  unfold om_f_OL_glue at h
  refine lv_iload_n hx hb dOL_glue_0 rfl (lv_at hl 1 rfl) ?_
  obtain ⟨u1, hu1, h⟩ := om_b h
  have hPc := hP.sub (ws' := []) [] rfl
  have hDc := hD.sub (ws' := []) [] (by decide) rfl
  have hKc := hK.sub (tys' := []) [] rfl
  rcases u1 with k9 | u1w
  · have h := om_cl rfl h
    cases h
    exact om_passS (As := [.int x1]) (rest := []) ⟨hx, hb, hml, hown, htsV⟩ (om_t_OL_requireSize l hl9 dC dI s.heap.size x1 _ hu1) (va_cwS 1 htsV (om_gsV w_216 w_217 w_1 w_218) rfl rfl rfl (by decide +kernel) ⟨Nat.le_of_ble_eq_true rfl, Nat.le_of_ble_eq_true rfl⟩) ⟨fun a U g mk q => by obtain ⟨q0, q1, qP, qK, qD, qZ⟩ := q; exact ⟨q0, q1, qP, va_K.moved (u := U) (U := U.calling g mk a) (Vm.Alike.refl U.vm) qK, qD, om_Z.same (U := U) (V := U.calling g mk a) rfl rfl qZ⟩, fun U hU hW => ⟨rfl, by rw [hU], by rw [hU]; exact hPc, va_K.moved hW.alike hKc, hDc, om_Z.step hW hZ hS hU (fun q hq => Nat.le_trans hHH.1 hq)⟩⟩ rfl hl.1 rfl (lv_room (Nat.le_of_ble_eq_true rfl)) dOL_glue_1 ⟨Nat.le_of_ble_eq_true rfl, Nat.le_of_ble_eq_true rfl⟩ hEx hlocks hHH (fun q hq => Nat.le_trans hHH.1 hq) (Nat.le_of_ble_eq_true rfl) (Nat.le_of_ble_eq_true rfl)
  have h := om_cr rfl h
  refine va_callv (va_runS (As := [.int x1]) (rest := []) ⟨hx, hb, hml, hown, hts⟩ (om_k_OL_requireSize l dC dI s.heap.size x1 u1w hu1) (va_cwS 1 hts (om_gs w_216 w_217 w_1 w_218) rfl rfl rfl (by decide +kernel) ⟨Nat.le_of_ble_eq_true rfl, Nat.le_of_ble_eq_true rfl⟩) ⟨fun a U g mk q => by obtain ⟨q0, q1, qP, qK, qD⟩ := q; exact ⟨q0, q1, qP, va_K.moved (u := U) (U := U.calling g mk a) (Vm.Alike.refl U.vm) qK, qD⟩, fun U hU hW => ⟨rfl, by rw [hU], by rw [hU]; exact hPc, va_K.moved hW.alike hKc, hDc⟩⟩ rfl rfl hl.1 rfl (lv_room (Nat.le_of_ble_eq_true rfl)) dOL_glue_1 ⟨Nat.le_of_ble_eq_true rfl, Nat.le_of_ble_eq_true rfl⟩) hS (fun q _ hq => Nat.le_trans hHH.1 (om_nA hq)) (fun q hq => Nat.le_trans hHH.1 (om_nA hq)) (fun uz t H1 locs ht hvm hw hB hz1 hk1 hS => ?_)
  have hH1 : om_H s.heap H1 := ⟨hz1, fun q hq => hk1 q hq (fun z => Nat.not_le.mpr hq (om_nA z))⟩
  have hP : va_P (dC, dI) vwCl [(a_ol, .inr (0, [.ref a_items, .ref a_ol_lineWidths, .ref a_ol_settings, .ref a_breaks, .ref a_ruler, .ref a_search, .ref a_layout])), (a_items, .inr (1, [.int items_count, .ref a_items_kinds, .ref a_items_penaltyWidths, .ref a_items_costs, .ref a_items_flags, .ref a_items_widthBefore, .ref a_items_stretchBefore, .ref a_items_shrinkBefore, .ref a_items_fillBefore])), (a_items_kinds, .inl (c_items_kinds, 400, .inl items_kinds)), (a_items_penaltyWidths, .inl (c_items_penaltyWidths, 400, .inl items_penaltyWidths)), (a_items_costs, .inl (c_items_costs, 400, .inl items_costs)), (a_items_flags, .inl (c_items_flags, 400, .inl items_flags)), (a_items_widthBefore, .inl (c_items_widthBefore, 401, .inl items_widthBefore)), (a_items_stretchBefore, .inl (c_items_stretchBefore, 401, .inl items_stretchBefore)), (a_items_shrinkBefore, .inl (c_items_shrinkBefore, 401, .inl items_shrinkBefore)), (a_items_fillBefore, .inl (c_items_fillBefore, 401, .inl items_fillBefore)), (a_layout, .inr (6, [.int layout_known, .int layout_lines, .int layout_passTaken, .int layout_extraStretch, .long layout_demeritSum, .ref a_layout_starts, .ref a_layout_ends]))] H1 := hP.kept (fun k q hq => hH1.2 q.1 (hP k q hq).lt)
  have hHH := hHH.tr hH1
  refine va_forget (fun q hq => hS.2.2 q hq) ?_
  have hS : va_S (fun q => s.heap.size ≤ q) s.heap H1 [] := ⟨hS.1, hS.2.1, fun l h => by cases h⟩
  clear hH1 hk1 hz1 hB ht
  generalize H1 = H at hP hS hHH ⊢
  refine W.widen (k := 0) (n := 0) (Nat.le_of_ble_eq_true rfl) (Nat.le_of_ble_eq_true rfl) ?_
  refine lv_iload_n hx hb dOL_glue_4 rfl (lv_at hl 2 rfl) ?_
  obtain ⟨u2, hu2, h⟩ := om_b h
  have hPc := hP.sub (ws' := []) [] rfl
  have hDc := hD.sub (ws' := []) [] (by decide) rfl
  have hKc := hK.sub (tys' := []) [] rfl
  rcases u2 with k9 | u2w
  · have h := om_cl rfl h
    cases h
    exact om_passS (As := [.int x2]) (rest := []) ⟨hx, hb, hml, hown, htsV⟩ (om_t_OL_requireSize l hl9 dC dI H.size x2 _ hu2) (va_cwS 1 htsV (om_gsV w_216 w_217 w_1 w_218) rfl rfl rfl (by decide +kernel) ⟨Nat.le_of_ble_eq_true rfl, Nat.le_of_ble_eq_true rfl⟩) ⟨fun a U g mk q => by obtain ⟨q0, q1, qP, qK, qD, qZ⟩ := q; exact ⟨q0, q1, qP, va_K.moved (u := U) (U := U.calling g mk a) (Vm.Alike.refl U.vm) qK, qD, om_Z.same (U := U) (V := U.calling g mk a) rfl rfl qZ⟩, fun U hU hW => ⟨rfl, by rw [hU], by rw [hU]; exact hPc, va_K.moved hW.alike hKc, hDc, om_Z.step hW hZ hS hU (fun q hq => Nat.le_trans hHH.1 hq)⟩⟩ rfl hl.1 rfl (lv_room (Nat.le_of_ble_eq_true rfl)) dOL_glue_5 ⟨Nat.le_of_ble_eq_true rfl, Nat.le_of_ble_eq_true rfl⟩ hEx hlocks hHH (fun q hq => Nat.le_trans hHH.1 hq) (Nat.le_of_ble_eq_true rfl) (Nat.le_of_ble_eq_true rfl)
  have h := om_cr rfl h
  refine va_callv (va_runS (As := [.int x2]) (rest := []) ⟨hx, hb, hml, hown, hts⟩ (om_k_OL_requireSize l dC dI H.size x2 u2w hu2) (va_cwS 1 hts (om_gs w_216 w_217 w_1 w_218) rfl rfl rfl (by decide +kernel) ⟨Nat.le_of_ble_eq_true rfl, Nat.le_of_ble_eq_true rfl⟩) ⟨fun a U g mk q => by obtain ⟨q0, q1, qP, qK, qD⟩ := q; exact ⟨q0, q1, qP, va_K.moved (u := U) (U := U.calling g mk a) (Vm.Alike.refl U.vm) qK, qD⟩, fun U hU hW => ⟨rfl, by rw [hU], by rw [hU]; exact hPc, va_K.moved hW.alike hKc, hDc⟩⟩ rfl rfl hl.1 rfl (lv_room (Nat.le_of_ble_eq_true rfl)) dOL_glue_5 ⟨Nat.le_of_ble_eq_true rfl, Nat.le_of_ble_eq_true rfl⟩) hS (fun q _ hq => Nat.le_trans hHH.1 (om_nA hq)) (fun q hq => Nat.le_trans hHH.1 (om_nA hq)) (fun uz t H1 locs ht hvm hw hB hz1 hk1 hS => ?_)
  have hH1 : om_H H H1 := ⟨hz1, fun q hq => hk1 q hq (fun z => Nat.not_le.mpr hq (om_nA z))⟩
  have hP : va_P (dC, dI) vwCl [(a_ol, .inr (0, [.ref a_items, .ref a_ol_lineWidths, .ref a_ol_settings, .ref a_breaks, .ref a_ruler, .ref a_search, .ref a_layout])), (a_items, .inr (1, [.int items_count, .ref a_items_kinds, .ref a_items_penaltyWidths, .ref a_items_costs, .ref a_items_flags, .ref a_items_widthBefore, .ref a_items_stretchBefore, .ref a_items_shrinkBefore, .ref a_items_fillBefore])), (a_items_kinds, .inl (c_items_kinds, 400, .inl items_kinds)), (a_items_penaltyWidths, .inl (c_items_penaltyWidths, 400, .inl items_penaltyWidths)), (a_items_costs, .inl (c_items_costs, 400, .inl items_costs)), (a_items_flags, .inl (c_items_flags, 400, .inl items_flags)), (a_items_widthBefore, .inl (c_items_widthBefore, 401, .inl items_widthBefore)), (a_items_stretchBefore, .inl (c_items_stretchBefore, 401, .inl items_stretchBefore)), (a_items_shrinkBefore, .inl (c_items_shrinkBefore, 401, .inl items_shrinkBefore)), (a_items_fillBefore, .inl (c_items_fillBefore, 401, .inl items_fillBefore)), (a_layout, .inr (6, [.int layout_known, .int layout_lines, .int layout_passTaken, .int layout_extraStretch, .long layout_demeritSum, .ref a_layout_starts, .ref a_layout_ends]))] H1 := hP.kept (fun k q hq => hH1.2 q.1 (hP k q hq).lt)
  have hHH := hHH.tr hH1
  refine va_forget (fun q hq => hS.2.2 q hq) ?_
  have hS : va_S (fun q => s.heap.size ≤ q) s.heap H1 [] := ⟨hS.1, hS.2.1, fun l h => by cases h⟩
  clear hH1 hk1 hz1 hB ht
  generalize H1 = H at hP hS hHH ⊢
  refine W.widen (k := 0) (n := 0) (Nat.le_of_ble_eq_true rfl) (Nat.le_of_ble_eq_true rfl) ?_
  refine lv_iload_n hx hb dOL_glue_8 rfl (lv_at hl 3 rfl) ?_
  obtain ⟨u3, hu3, h⟩ := om_b h
  have hPc := hP.sub (ws' := []) [] rfl
  have hDc := hD.sub (ws' := []) [] (by decide) rfl
  have hKc := hK.sub (tys' := []) [] rfl
  rcases u3 with k9 | u3w
  · have h := om_cl rfl h
    cases h
    exact om_passS (As := [.int x3]) (rest := []) ⟨hx, hb, hml, hown, htsV⟩ (om_t_OL_requireSize l hl9 dC dI H.size x3 _ hu3) (va_cwS 1 htsV (om_gsV w_216 w_217 w_1 w_218) rfl rfl rfl (by decide +kernel) ⟨Nat.le_of_ble_eq_true rfl, Nat.le_of_ble_eq_true rfl⟩) ⟨fun a U g mk q => by obtain ⟨q0, q1, qP, qK, qD, qZ⟩ := q; exact ⟨q0, q1, qP, va_K.moved (u := U) (U := U.calling g mk a) (Vm.Alike.refl U.vm) qK, qD, om_Z.same (U := U) (V := U.calling g mk a) rfl rfl qZ⟩, fun U hU hW => ⟨rfl, by rw [hU], by rw [hU]; exact hPc, va_K.moved hW.alike hKc, hDc, om_Z.step hW hZ hS hU (fun q hq => Nat.le_trans hHH.1 hq)⟩⟩ rfl hl.1 rfl (lv_room (Nat.le_of_ble_eq_true rfl)) dOL_glue_9 ⟨Nat.le_of_ble_eq_true rfl, Nat.le_of_ble_eq_true rfl⟩ hEx hlocks hHH (fun q hq => Nat.le_trans hHH.1 hq) (Nat.le_of_ble_eq_true rfl) (Nat.le_of_ble_eq_true rfl)
  have h := om_cr rfl h
  refine va_callv (va_runS (As := [.int x3]) (rest := []) ⟨hx, hb, hml, hown, hts⟩ (om_k_OL_requireSize l dC dI H.size x3 u3w hu3) (va_cwS 1 hts (om_gs w_216 w_217 w_1 w_218) rfl rfl rfl (by decide +kernel) ⟨Nat.le_of_ble_eq_true rfl, Nat.le_of_ble_eq_true rfl⟩) ⟨fun a U g mk q => by obtain ⟨q0, q1, qP, qK, qD⟩ := q; exact ⟨q0, q1, qP, va_K.moved (u := U) (U := U.calling g mk a) (Vm.Alike.refl U.vm) qK, qD⟩, fun U hU hW => ⟨rfl, by rw [hU], by rw [hU]; exact hPc, va_K.moved hW.alike hKc, hDc⟩⟩ rfl rfl hl.1 rfl (lv_room (Nat.le_of_ble_eq_true rfl)) dOL_glue_9 ⟨Nat.le_of_ble_eq_true rfl, Nat.le_of_ble_eq_true rfl⟩) hS (fun q _ hq => Nat.le_trans hHH.1 (om_nA hq)) (fun q hq => Nat.le_trans hHH.1 (om_nA hq)) (fun uz t H1 locs ht hvm hw hB hz1 hk1 hS => ?_)
  have hH1 : om_H H H1 := ⟨hz1, fun q hq => hk1 q hq (fun z => Nat.not_le.mpr hq (om_nA z))⟩
  have hP : va_P (dC, dI) vwCl [(a_ol, .inr (0, [.ref a_items, .ref a_ol_lineWidths, .ref a_ol_settings, .ref a_breaks, .ref a_ruler, .ref a_search, .ref a_layout])), (a_items, .inr (1, [.int items_count, .ref a_items_kinds, .ref a_items_penaltyWidths, .ref a_items_costs, .ref a_items_flags, .ref a_items_widthBefore, .ref a_items_stretchBefore, .ref a_items_shrinkBefore, .ref a_items_fillBefore])), (a_items_kinds, .inl (c_items_kinds, 400, .inl items_kinds)), (a_items_penaltyWidths, .inl (c_items_penaltyWidths, 400, .inl items_penaltyWidths)), (a_items_costs, .inl (c_items_costs, 400, .inl items_costs)), (a_items_flags, .inl (c_items_flags, 400, .inl items_flags)), (a_items_widthBefore, .inl (c_items_widthBefore, 401, .inl items_widthBefore)), (a_items_stretchBefore, .inl (c_items_stretchBefore, 401, .inl items_stretchBefore)), (a_items_shrinkBefore, .inl (c_items_shrinkBefore, 401, .inl items_shrinkBefore)), (a_items_fillBefore, .inl (c_items_fillBefore, 401, .inl items_fillBefore)), (a_layout, .inr (6, [.int layout_known, .int layout_lines, .int layout_passTaken, .int layout_extraStretch, .long layout_demeritSum, .ref a_layout_starts, .ref a_layout_ends]))] H1 := hP.kept (fun k q hq => hH1.2 q.1 (hP k q hq).lt)
  have hHH := hHH.tr hH1
  refine va_forget (fun q hq => hS.2.2 q hq) ?_
  have hS : va_S (fun q => s.heap.size ≤ q) s.heap H1 [] := ⟨hS.1, hS.2.1, fun l h => by cases h⟩
  clear hH1 hk1 hz1 hB ht
  generalize H1 = H at hP hS hHH ⊢
  refine W.widen (k := 0) (n := 0) (Nat.le_of_ble_eq_true rfl) (Nat.le_of_ble_eq_true rfl) ?_
  refine lv_iload hx hb dOL_glue_12 (lv_at hl 4 rfl) ?_
  refine lv_iconst (v := 0) hx hb dOL_glue_14 (by decide) ?_
  refine lv_bipush (v := 100) hx hb dOL_glue_15 (by decide) ?_
  obtain ⟨u4, hu4, h⟩ := om_b h
  have hPc := hP.sub (ws' := []) [] rfl
  have hDc := hD.sub (ws' := []) [] (by decide) rfl
  have hKc := hK.sub (tys' := []) [] rfl
  rcases u4 with k9 | u4w
  · have h := om_cl rfl h
    cases h
    exact om_passS (As := [.int x4, .int 0, .int 100]) (rest := []) ⟨hx, hb, hml, hown, htsV⟩ (om_t_OL_requireWithin l hl9 dC dI H.size x4 0 100 _ hu4) (va_cwS 3 htsV (om_gsV w_220 w_221 w_1 w_222) rfl rfl rfl (by decide +kernel) ⟨Nat.le_of_ble_eq_true rfl, Nat.le_of_ble_eq_true rfl⟩) ⟨fun a U g mk q => by obtain ⟨q0, q1, qP, qK, qD, qZ⟩ := q; exact ⟨q0, q1, qP, va_K.moved (u := U) (U := U.calling g mk a) (Vm.Alike.refl U.vm) qK, qD, om_Z.same (U := U) (V := U.calling g mk a) rfl rfl qZ⟩, fun U hU hW => ⟨rfl, by rw [hU], by rw [hU]; exact hPc, va_K.moved hW.alike hKc, hDc, om_Z.step hW hZ hS hU (fun q hq => Nat.le_trans hHH.1 hq)⟩⟩ rfl hl.1 rfl (lv_room (Nat.le_of_ble_eq_true rfl)) dOL_glue_17 ⟨Nat.le_of_ble_eq_true rfl, Nat.le_of_ble_eq_true rfl⟩ hEx hlocks hHH (fun q hq => Nat.le_trans hHH.1 hq) (Nat.le_of_ble_eq_true rfl) (Nat.le_of_ble_eq_true rfl)
  have h := om_cr rfl h
  refine va_callv (va_runS (As := [.int x4, .int 0, .int 100]) (rest := []) ⟨hx, hb, hml, hown, hts⟩ (om_k_OL_requireWithin l dC dI H.size x4 0 100 u4w hu4) (va_cwS 3 hts (om_gs w_220 w_221 w_1 w_222) rfl rfl rfl (by decide +kernel) ⟨Nat.le_of_ble_eq_true rfl, Nat.le_of_ble_eq_true rfl⟩) ⟨fun a U g mk q => by obtain ⟨q0, q1, qP, qK, qD⟩ := q; exact ⟨q0, q1, qP, va_K.moved (u := U) (U := U.calling g mk a) (Vm.Alike.refl U.vm) qK, qD⟩, fun U hU hW => ⟨rfl, by rw [hU], by rw [hU]; exact hPc, va_K.moved hW.alike hKc, hDc⟩⟩ rfl rfl hl.1 rfl (lv_room (Nat.le_of_ble_eq_true rfl)) dOL_glue_17 ⟨Nat.le_of_ble_eq_true rfl, Nat.le_of_ble_eq_true rfl⟩) hS (fun q _ hq => Nat.le_trans hHH.1 (om_nA hq)) (fun q hq => Nat.le_trans hHH.1 (om_nA hq)) (fun uz t H1 locs ht hvm hw hB hz1 hk1 hS => ?_)
  have hH1 : om_H H H1 := ⟨hz1, fun q hq => hk1 q hq (fun z => Nat.not_le.mpr hq (om_nA z))⟩
  have hP : va_P (dC, dI) vwCl [(a_ol, .inr (0, [.ref a_items, .ref a_ol_lineWidths, .ref a_ol_settings, .ref a_breaks, .ref a_ruler, .ref a_search, .ref a_layout])), (a_items, .inr (1, [.int items_count, .ref a_items_kinds, .ref a_items_penaltyWidths, .ref a_items_costs, .ref a_items_flags, .ref a_items_widthBefore, .ref a_items_stretchBefore, .ref a_items_shrinkBefore, .ref a_items_fillBefore])), (a_items_kinds, .inl (c_items_kinds, 400, .inl items_kinds)), (a_items_penaltyWidths, .inl (c_items_penaltyWidths, 400, .inl items_penaltyWidths)), (a_items_costs, .inl (c_items_costs, 400, .inl items_costs)), (a_items_flags, .inl (c_items_flags, 400, .inl items_flags)), (a_items_widthBefore, .inl (c_items_widthBefore, 401, .inl items_widthBefore)), (a_items_stretchBefore, .inl (c_items_stretchBefore, 401, .inl items_stretchBefore)), (a_items_shrinkBefore, .inl (c_items_shrinkBefore, 401, .inl items_shrinkBefore)), (a_items_fillBefore, .inl (c_items_fillBefore, 401, .inl items_fillBefore)), (a_layout, .inr (6, [.int layout_known, .int layout_lines, .int layout_passTaken, .int layout_extraStretch, .long layout_demeritSum, .ref a_layout_starts, .ref a_layout_ends]))] H1 := hP.kept (fun k q hq => hH1.2 q.1 (hP k q hq).lt)
  have hHH := hHH.tr hH1
  refine va_forget (fun q hq => hS.2.2 q hq) ?_
  have hS : va_S (fun q => s.heap.size ≤ q) s.heap H1 [] := ⟨hS.1, hS.2.1, fun l h => by cases h⟩
  clear hH1 hk1 hz1 hB ht
  generalize H1 = H at hP hS hHH ⊢
  refine W.widen (k := 0) (n := 0) (Nat.le_of_ble_eq_true rfl) (Nat.le_of_ble_eq_true rfl) ?_
  refine lv_aload_n hx hb dOL_glue_20 rfl (lv_at hl 0 rfl) ?_
  obtain ⟨u5, hu5, h⟩ := om_b h
  have hPc := hP.sub (ws' := [(a_ol, .inr (0, [.ref a_items, .ref a_ol_lineWidths, .ref a_ol_settings, .ref a_breaks, .ref a_ruler, .ref a_search, .ref a_layout])), (a_items, .inr (1, [.int items_count, .ref a_items_kinds, .ref a_items_penaltyWidths, .ref a_items_costs, .ref a_items_flags, .ref a_items_widthBefore, .ref a_items_stretchBefore, .ref a_items_shrinkBefore, .ref a_items_fillBefore]))]) [0, 1] rfl
  have hDc := hD.sub (ws' := [(a_ol, .inr (0, [.ref a_items, .ref a_ol_lineWidths, .ref a_ol_settings, .ref a_breaks, .ref a_ruler, .ref a_search, .ref a_layout])), (a_items, .inr (1, [.int items_count, .ref a_items_kinds, .ref a_items_penaltyWidths, .ref a_items_costs, .ref a_items_flags, .ref a_items_widthBefore, .ref a_items_stretchBefore, .ref a_items_shrinkBefore, .ref a_items_fillBefore]))]) [0, 1] (by decide) rfl
  have hKc := hK.sub (tys' := []) [] rfl
  rcases u5 with k9 | u5w
  · have h := om_cl rfl h
    cases h
    exact om_passV (As := []) (rest := []) ⟨hx, hb, hml, hown, htsV⟩ (om_t_OL_requireRoom l hl9 dC dI a_ol a_items a_ol_lineWidths a_ol_settings a_breaks a_ruler a_search a_layout a_items_kinds a_items_penaltyWidths a_items_costs a_items_flags a_items_widthBefore a_items_stretchBefore a_items_shrinkBefore a_items_fillBefore H.size items_count _ hu5) (cwV 0 htsV (om_gvV w_268 w_269 w_775 w_1 w_270) rfl rfl rfl (by decide +kernel) ⟨Nat.le_of_ble_eq_true rfl, Nat.le_of_ble_eq_true rfl⟩) ⟨fun a U g mk q => by obtain ⟨q0, q1, qP, qK, qD, qZ⟩ := q; exact ⟨q0, q1, qP, va_K.moved (u := U) (U := U.calling g mk a) (Vm.Alike.refl U.vm) qK, qD, om_Z.same (U := U) (V := U.calling g mk a) rfl rfl qZ⟩, va_recv hKc hPc (ci := 0) (q0 := 0) rfl rfl, fun U hU hW => ⟨rfl, by rw [hU], by rw [hU]; exact hPc, va_K.moved hW.alike hKc, hDc, om_Z.step hW hZ hS hU (fun q hq => Nat.le_trans hHH.1 hq)⟩⟩ rfl hl.1 rfl (lv_room (Nat.le_of_ble_eq_true rfl)) dOL_glue_21 ⟨Nat.le_of_ble_eq_true rfl, Nat.le_of_ble_eq_true rfl⟩ hEx hlocks hHH (fun q hq => Nat.le_trans hHH.1 hq) (Nat.le_of_ble_eq_true rfl) (Nat.le_of_ble_eq_true rfl)
  have h := om_cr rfl h
  refine va_callv (va_runV (As := []) (rest := []) ⟨hx, hb, hml, hown, hts⟩ (om_p_OL_requireRoom l dC dI a_ol a_items a_ol_lineWidths a_ol_settings a_breaks a_ruler a_search a_layout a_items_kinds a_items_penaltyWidths a_items_costs a_items_flags a_items_widthBefore a_items_stretchBefore a_items_shrinkBefore a_items_fillBefore H.size items_count u5w hu5) (cwV 0 hts (om_gv w_268 w_269 w_775 w_1 w_270) rfl rfl rfl (by decide +kernel) ⟨Nat.le_of_ble_eq_true rfl, Nat.le_of_ble_eq_true rfl⟩) ⟨fun a U g mk q => by obtain ⟨q0, q1, qP, qK, qD⟩ := q; exact ⟨q0, q1, qP, va_K.moved (u := U) (U := U.calling g mk a) (Vm.Alike.refl U.vm) qK, qD⟩, va_recv hKc hPc (ci := 0) (q0 := 0) rfl rfl, fun U hU hW => ⟨rfl, by rw [hU], by rw [hU]; exact hPc, va_K.moved hW.alike hKc, hDc⟩⟩ rfl rfl hl.1 rfl (lv_room (Nat.le_of_ble_eq_true rfl)) dOL_glue_21 ⟨Nat.le_of_ble_eq_true rfl, Nat.le_of_ble_eq_true rfl⟩) hS (fun q _ hq => Nat.le_trans hHH.1 (om_nA hq)) (fun q hq => Nat.le_trans hHH.1 (om_nA hq)) (fun uz t H1 locs ht hvm hw hB hz1 hk1 hS => ?_)
  have hH1 : om_H H H1 := ⟨hz1, fun q hq => hk1 q hq (fun z => Nat.not_le.mpr hq (om_nA z))⟩
  have hP : va_P (dC, dI) vwCl [(a_ol, .inr (0, [.ref a_items, .ref a_ol_lineWidths, .ref a_ol_settings, .ref a_breaks, .ref a_ruler, .ref a_search, .ref a_layout])), (a_items, .inr (1, [.int items_count, .ref a_items_kinds, .ref a_items_penaltyWidths, .ref a_items_costs, .ref a_items_flags, .ref a_items_widthBefore, .ref a_items_stretchBefore, .ref a_items_shrinkBefore, .ref a_items_fillBefore])), (a_items_kinds, .inl (c_items_kinds, 400, .inl items_kinds)), (a_items_penaltyWidths, .inl (c_items_penaltyWidths, 400, .inl items_penaltyWidths)), (a_items_costs, .inl (c_items_costs, 400, .inl items_costs)), (a_items_flags, .inl (c_items_flags, 400, .inl items_flags)), (a_items_widthBefore, .inl (c_items_widthBefore, 401, .inl items_widthBefore)), (a_items_stretchBefore, .inl (c_items_stretchBefore, 401, .inl items_stretchBefore)), (a_items_shrinkBefore, .inl (c_items_shrinkBefore, 401, .inl items_shrinkBefore)), (a_items_fillBefore, .inl (c_items_fillBefore, 401, .inl items_fillBefore)), (a_layout, .inr (6, [.int layout_known, .int layout_lines, .int layout_passTaken, .int layout_extraStretch, .long layout_demeritSum, .ref a_layout_starts, .ref a_layout_ends]))] H1 := hP.kept (fun k q hq => hH1.2 q.1 (hP k q hq).lt)
  have hHH := hHH.tr hH1
  refine va_forget (fun q hq => hS.2.2 q hq) ?_
  have hS : va_S (fun q => s.heap.size ≤ q) s.heap H1 [] := ⟨hS.1, hS.2.1, fun l h => by cases h⟩
  clear hH1 hk1 hz1 hB ht
  generalize H1 = H at hP hS hHH ⊢
  refine W.widen (k := 0) (n := 0) (Nat.le_of_ble_eq_true rfl) (Nat.le_of_ble_eq_true rfl) ?_
  exact absurd h om_rn
set_option maxHeartbeats 4000000 in
set_option maxRecDepth 100000 in
theorem om_t_OL_penalty (l : Launch) (hl9 : l.stackTraces = false) (dC : Nat → ClassId) (dI : Nat → Nat → Nat) (a_ol : Nat) (a_items : Nat) (a_items_kinds : Nat) (a_items_penaltyWidths : Nat) (a_items_costs : Nat) (a_items_flags : Nat) (a_items_widthBefore : Nat) (a_items_stretchBefore : Nat) (a_items_shrinkBefore : Nat) (a_items_fillBefore : Nat) (a_layout : Nat) (a_ol_lineWidths : Nat) (a_ol_settings : Nat) (a_breaks : Nat) (a_ruler : Nat) (a_search : Nat) (a_layout_starts : Nat) (a_layout_ends : Nat) (c_items_kinds : ClassId) (c_items_penaltyWidths : ClassId) (c_items_costs : ClassId) (c_items_flags : ClassId) (c_items_widthBefore : ClassId) (c_items_stretchBefore : ClassId) (c_items_shrinkBefore : ClassId) (c_items_fillBefore : ClassId)  (sz : Nat) (items_count : Int32) (items_kinds : (Nat → Int32)) (items_penaltyWidths : (Nat → Int32)) (items_costs : (Nat → Int32)) (items_flags : (Nat → Int32)) (items_widthBefore : (Nat → Int32)) (items_stretchBefore : (Nat → Int32)) (items_shrinkBefore : (Nat → Int32)) (items_fillBefore : (Nat → Int32)) (layout_known : Int32) (layout_lines : Int32) (layout_passTaken : Int32) (layout_extraStretch : Int32) (layout_demeritSum : Int64) (x1 : Int32) (x2 : Int32) (x3 : Int32) (k : Nat) (h : om_f_OL_penalty items_count items_kinds items_penaltyWidths items_costs items_flags items_widthBefore items_stretchBefore items_shrinkBefore items_fillBefore x1 x2 x3 = some (.inl k)) : om_T l yOL_penalty (Cond.code yOL_penalty cOL_penalty 4 (some .int) :: om_V) ({ frames := 8, cells := 1, slots := 6, locals := 124 }) (va_Pc [.ref a_ol, .int x1, .int x2, .int x3] (fun U => U.heap.size = sz ∧ va_P (dC, dI) vwCl [(a_ol, .inr (0, [.ref a_items, .ref a_ol_lineWidths, .ref a_ol_settings, .ref a_breaks, .ref a_ruler, .ref a_search, .ref a_layout])), (a_items, .inr (1, [.int items_count, .ref a_items_kinds, .ref a_items_penaltyWidths, .ref a_items_costs, .ref a_items_flags, .ref a_items_widthBefore, .ref a_items_stretchBefore, .ref a_items_shrinkBefore, .ref a_items_fillBefore])), (a_items_kinds, .inl (c_items_kinds, 400, .inl items_kinds)), (a_items_penaltyWidths, .inl (c_items_penaltyWidths, 400, .inl items_penaltyWidths)), (a_items_costs, .inl (c_items_costs, 400, .inl items_costs)), (a_items_flags, .inl (c_items_flags, 400, .inl items_flags)), (a_items_widthBefore, .inl (c_items_widthBefore, 401, .inl items_widthBefore)), (a_items_stretchBefore, .inl (c_items_stretchBefore, 401, .inl items_stretchBefore)), (a_items_shrinkBefore, .inl (c_items_shrinkBefore, 401, .inl items_shrinkBefore)), (a_items_fillBefore, .inl (c_items_fillBefore, 401, .inl items_fillBefore)), (a_layout, .inr (6, [.int layout_known, .int layout_lines, .int layout_passTaken, .int layout_extraStretch, .long layout_demeritSum, .ref a_layout_starts, .ref a_layout_ends]))] U.heap ∧ va_K (dC, dI) vwCl [(c_items_kinds, .int), (c_items_penaltyWidths, .int), (c_items_costs, .int), (c_items_flags, .boolean), (c_items_widthBefore, .int), (c_items_stretchBefore, .int), (c_items_shrinkBefore, .int), (c_items_fillBefore, .int)] U ∧ va_D (fun _ => True) [(a_ol, .inr (0, [.ref a_items, .ref a_ol_lineWidths, .ref a_ol_settings, .ref a_breaks, .ref a_ruler, .ref a_search, .ref a_layout])), (a_items, .inr (1, [.int items_count, .ref a_items_kinds, .ref a_items_penaltyWidths, .ref a_items_costs, .ref a_items_flags, .ref a_items_widthBefore, .ref a_items_stretchBefore, .ref a_items_shrinkBefore, .ref a_items_fillBefore])), (a_items_kinds, .inl (c_items_kinds, 400, .inl items_kinds)), (a_items_penaltyWidths, .inl (c_items_penaltyWidths, 400, .inl items_penaltyWidths)), (a_items_costs, .inl (c_items_costs, 400, .inl items_costs)), (a_items_flags, .inl (c_items_flags, 400, .inl items_flags)), (a_items_widthBefore, .inl (c_items_widthBefore, 401, .inl items_widthBefore)), (a_items_stretchBefore, .inl (c_items_stretchBefore, 401, .inl items_stretchBefore)), (a_items_shrinkBefore, .inl (c_items_shrinkBefore, 401, .inl items_shrinkBefore)), (a_items_fillBefore, .inl (c_items_fillBefore, 401, .inl items_fillBefore)), (a_layout, .inr (6, [.int layout_known, .int layout_lines, .int layout_passTaken, .int layout_extraStretch, .long layout_demeritSum, .ref a_layout_starts, .ref a_layout_ends]))] ∧ om_Z (fun q => sz ≤ q) U)) (om_E k) om_K 1 6 (fun q => sz ≤ q) := by
  refine om_T.ofW (cc := cOL_penalty) (maxL := 4) (ret := (some .int)) (by decide) rfl ?_
  intro p e s m args below meth c s₁ B hml hEx hv
  obtain ⟨rfl, hsz, hP, hK, hD, hZ⟩ := hv
  have hx := B.exec
  have hb := B.bytes
  have hr := B.returns
  have htsV := atoms_spec (ws := (Cond.code yOL_penalty cOL_penalty 4 (some .int) :: om_V)) B.pre
  have hts : ∀ w ∈ wsOL_penalty, w.before _ s = true := fun w h => htsV w (om_WV w h)
  subst hsz
  have hS : va_S (fun q => s.heap.size ≤ q) s.heap s.heap [] := va_S.rf
  have hHH : om_H s.heap s.heap := om_H.rf
  have hown : s.vm.findClass ROL = some m.cls := findClass_of_methodNamed B.named
  have hlocks := B.notSynchronized
  have hP : va_P (dC, dI) vwCl [(a_ol, .inr (0, [.ref a_items, .ref a_ol_lineWidths, .ref a_ol_settings, .ref a_breaks, .ref a_ruler, .ref a_search, .ref a_layout])), (a_items, .inr (1, [.int items_count, .ref a_items_kinds, .ref a_items_penaltyWidths, .ref a_items_costs, .ref a_items_flags, .ref a_items_widthBefore, .ref a_items_stretchBefore, .ref a_items_shrinkBefore, .ref a_items_fillBefore])), (a_items_kinds, .inl (c_items_kinds, 400, .inl items_kinds)), (a_items_penaltyWidths, .inl (c_items_penaltyWidths, 400, .inl items_penaltyWidths)), (a_items_costs, .inl (c_items_costs, 400, .inl items_costs)), (a_items_flags, .inl (c_items_flags, 400, .inl items_flags)), (a_items_widthBefore, .inl (c_items_widthBefore, 401, .inl items_widthBefore)), (a_items_stretchBefore, .inl (c_items_stretchBefore, 401, .inl items_stretchBefore)), (a_items_shrinkBefore, .inl (c_items_shrinkBefore, 401, .inl items_shrinkBefore)), (a_items_fillBefore, .inl (c_items_fillBefore, 401, .inl items_fillBefore)), (a_layout, .inr (6, [.int layout_known, .int layout_lines, .int layout_passTaken, .int layout_extraStretch, .long layout_demeritSum, .ref a_layout_starts, .ref a_layout_ends]))] s.heap := hP
  have hl := lv_entry ([.ref a_ol, .int x1, .int x2, .int x3]) (n := 4) (Nat.le_of_ble_eq_true rfl)
  rw [lg_entry_eq]
  generalize (lg_sl ([.ref a_ol, .int x1, .int x2, .int x3]) ++ List.replicate (4 - (lg_sl ([.ref a_ol, .int x1, .int x2, .int x3])).length) Slot.unset).toArray = ls at hl ⊢
  have hl : lv_has ls 4 [(0, .ref a_ol), (1, .int x1), (2, .int x2), (3, .int x3)] := hl
  unfold om_f_OL_penalty at h
  refine lv_iload_n hx hb dOL_penalty_0 rfl (lv_at hl 1 rfl) ?_
  obtain ⟨u1, hu1, h⟩ := om_b h
  have hPc := hP.sub (ws' := []) [] rfl
  have hDc := hD.sub (ws' := []) [] (by decide) rfl
  have hKc := hK.sub (tys' := []) [] rfl
  rcases u1 with k9 | u1w
  · have h := om_cl rfl h
    cases h
    exact om_passS (As := [.int x1]) (rest := []) ⟨hx, hb, hml, hown, htsV⟩ (om_t_OL_requireSize l hl9 dC dI s.heap.size x1 _ hu1) (va_cwS 1 htsV (om_gsV w_216 w_217 w_1 w_218) rfl rfl rfl (by decide +kernel) ⟨Nat.le_of_ble_eq_true rfl, Nat.le_of_ble_eq_true rfl⟩) ⟨fun a U g mk q => by obtain ⟨q0, q1, qP, qK, qD, qZ⟩ := q; exact ⟨q0, q1, qP, va_K.moved (u := U) (U := U.calling g mk a) (Vm.Alike.refl U.vm) qK, qD, om_Z.same (U := U) (V := U.calling g mk a) rfl rfl qZ⟩, fun U hU hW => ⟨rfl, by rw [hU], by rw [hU]; exact hPc, va_K.moved hW.alike hKc, hDc, om_Z.step hW hZ hS hU (fun q hq => Nat.le_trans hHH.1 hq)⟩⟩ rfl hl.1 rfl (lv_room (Nat.le_of_ble_eq_true rfl)) dOL_penalty_1 ⟨Nat.le_of_ble_eq_true rfl, Nat.le_of_ble_eq_true rfl⟩ hEx hlocks hHH (fun q hq => Nat.le_trans hHH.1 hq) (Nat.le_of_ble_eq_true rfl) (Nat.le_of_ble_eq_true rfl)
  have h := om_cr rfl h
  refine va_callv (va_runS (As := [.int x1]) (rest := []) ⟨hx, hb, hml, hown, hts⟩ (om_k_OL_requireSize l dC dI s.heap.size x1 u1w hu1) (va_cwS 1 hts (om_gs w_216 w_217 w_1 w_218) rfl rfl rfl (by decide +kernel) ⟨Nat.le_of_ble_eq_true rfl, Nat.le_of_ble_eq_true rfl⟩) ⟨fun a U g mk q => by obtain ⟨q0, q1, qP, qK, qD⟩ := q; exact ⟨q0, q1, qP, va_K.moved (u := U) (U := U.calling g mk a) (Vm.Alike.refl U.vm) qK, qD⟩, fun U hU hW => ⟨rfl, by rw [hU], by rw [hU]; exact hPc, va_K.moved hW.alike hKc, hDc⟩⟩ rfl rfl hl.1 rfl (lv_room (Nat.le_of_ble_eq_true rfl)) dOL_penalty_1 ⟨Nat.le_of_ble_eq_true rfl, Nat.le_of_ble_eq_true rfl⟩) hS (fun q _ hq => Nat.le_trans hHH.1 (om_nA hq)) (fun q hq => Nat.le_trans hHH.1 (om_nA hq)) (fun uz t H1 locs ht hvm hw hB hz1 hk1 hS => ?_)
  have hH1 : om_H s.heap H1 := ⟨hz1, fun q hq => hk1 q hq (fun z => Nat.not_le.mpr hq (om_nA z))⟩
  have hP : va_P (dC, dI) vwCl [(a_ol, .inr (0, [.ref a_items, .ref a_ol_lineWidths, .ref a_ol_settings, .ref a_breaks, .ref a_ruler, .ref a_search, .ref a_layout])), (a_items, .inr (1, [.int items_count, .ref a_items_kinds, .ref a_items_penaltyWidths, .ref a_items_costs, .ref a_items_flags, .ref a_items_widthBefore, .ref a_items_stretchBefore, .ref a_items_shrinkBefore, .ref a_items_fillBefore])), (a_items_kinds, .inl (c_items_kinds, 400, .inl items_kinds)), (a_items_penaltyWidths, .inl (c_items_penaltyWidths, 400, .inl items_penaltyWidths)), (a_items_costs, .inl (c_items_costs, 400, .inl items_costs)), (a_items_flags, .inl (c_items_flags, 400, .inl items_flags)), (a_items_widthBefore, .inl (c_items_widthBefore, 401, .inl items_widthBefore)), (a_items_stretchBefore, .inl (c_items_stretchBefore, 401, .inl items_stretchBefore)), (a_items_shrinkBefore, .inl (c_items_shrinkBefore, 401, .inl items_shrinkBefore)), (a_items_fillBefore, .inl (c_items_fillBefore, 401, .inl items_fillBefore)), (a_layout, .inr (6, [.int layout_known, .int layout_lines, .int layout_passTaken, .int layout_extraStretch, .long layout_demeritSum, .ref a_layout_starts, .ref a_layout_ends]))] H1 := hP.kept (fun k q hq => hH1.2 q.1 (hP k q hq).lt)
  have hHH := hHH.tr hH1
  refine va_forget (fun q hq => hS.2.2 q hq) ?_
  have hS : va_S (fun q => s.heap.size ≤ q) s.heap H1 [] := ⟨hS.1, hS.2.1, fun l h => by cases h⟩
  clear hH1 hk1 hz1 hB ht
  generalize H1 = H at hP hS hHH ⊢
  refine W.widen (k := 0) (n := 0) (Nat.le_of_ble_eq_true rfl) (Nat.le_of_ble_eq_true rfl) ?_
  refine lv_iload_n hx hb dOL_penalty_4 rfl (lv_at hl 2 rfl) ?_
  refine lv_sipush (v := (-10000)) hx hb dOL_penalty_5 (by decide) ?_
  refine lv_sipush (v := 10000) hx hb dOL_penalty_8 (by decide) ?_
  obtain ⟨u2, hu2, h⟩ := om_b h
  have hPc := hP.sub (ws' := []) [] rfl
  have hDc := hD.sub (ws' := []) [] (by decide) rfl
  have hKc := hK.sub (tys' := []) [] rfl
  rcases u2 with k9 | u2w
  · have h := om_cl rfl h
    cases h
    exact om_passS (As := [.int x2, .int (-10000), .int 10000]) (rest := []) ⟨hx, hb, hml, hown, htsV⟩ (om_t_OL_requireWithin l hl9 dC dI H.size x2 (-10000) 10000 _ hu2) (va_cwS 3 htsV (om_gsV w_220 w_221 w_1 w_222) rfl rfl rfl (by decide +kernel) ⟨Nat.le_of_ble_eq_true rfl, Nat.le_of_ble_eq_true rfl⟩) ⟨fun a U g mk q => by obtain ⟨q0, q1, qP, qK, qD, qZ⟩ := q; exact ⟨q0, q1, qP, va_K.moved (u := U) (U := U.calling g mk a) (Vm.Alike.refl U.vm) qK, qD, om_Z.same (U := U) (V := U.calling g mk a) rfl rfl qZ⟩, fun U hU hW => ⟨rfl, by rw [hU], by rw [hU]; exact hPc, va_K.moved hW.alike hKc, hDc, om_Z.step hW hZ hS hU (fun q hq => Nat.le_trans hHH.1 hq)⟩⟩ rfl hl.1 rfl (lv_room (Nat.le_of_ble_eq_true rfl)) dOL_penalty_11 ⟨Nat.le_of_ble_eq_true rfl, Nat.le_of_ble_eq_true rfl⟩ hEx hlocks hHH (fun q hq => Nat.le_trans hHH.1 hq) (Nat.le_of_ble_eq_true rfl) (Nat.le_of_ble_eq_true rfl)
  have h := om_cr rfl h
  refine va_callv (va_runS (As := [.int x2, .int (-10000), .int 10000]) (rest := []) ⟨hx, hb, hml, hown, hts⟩ (om_k_OL_requireWithin l dC dI H.size x2 (-10000) 10000 u2w hu2) (va_cwS 3 hts (om_gs w_220 w_221 w_1 w_222) rfl rfl rfl (by decide +kernel) ⟨Nat.le_of_ble_eq_true rfl, Nat.le_of_ble_eq_true rfl⟩) ⟨fun a U g mk q => by obtain ⟨q0, q1, qP, qK, qD⟩ := q; exact ⟨q0, q1, qP, va_K.moved (u := U) (U := U.calling g mk a) (Vm.Alike.refl U.vm) qK, qD⟩, fun U hU hW => ⟨rfl, by rw [hU], by rw [hU]; exact hPc, va_K.moved hW.alike hKc, hDc⟩⟩ rfl rfl hl.1 rfl (lv_room (Nat.le_of_ble_eq_true rfl)) dOL_penalty_11 ⟨Nat.le_of_ble_eq_true rfl, Nat.le_of_ble_eq_true rfl⟩) hS (fun q _ hq => Nat.le_trans hHH.1 (om_nA hq)) (fun q hq => Nat.le_trans hHH.1 (om_nA hq)) (fun uz t H1 locs ht hvm hw hB hz1 hk1 hS => ?_)
  have hH1 : om_H H H1 := ⟨hz1, fun q hq => hk1 q hq (fun z => Nat.not_le.mpr hq (om_nA z))⟩
  have hP : va_P (dC, dI) vwCl [(a_ol, .inr (0, [.ref a_items, .ref a_ol_lineWidths, .ref a_ol_settings, .ref a_breaks, .ref a_ruler, .ref a_search, .ref a_layout])), (a_items, .inr (1, [.int items_count, .ref a_items_kinds, .ref a_items_penaltyWidths, .ref a_items_costs, .ref a_items_flags, .ref a_items_widthBefore, .ref a_items_stretchBefore, .ref a_items_shrinkBefore, .ref a_items_fillBefore])), (a_items_kinds, .inl (c_items_kinds, 400, .inl items_kinds)), (a_items_penaltyWidths, .inl (c_items_penaltyWidths, 400, .inl items_penaltyWidths)), (a_items_costs, .inl (c_items_costs, 400, .inl items_costs)), (a_items_flags, .inl (c_items_flags, 400, .inl items_flags)), (a_items_widthBefore, .inl (c_items_widthBefore, 401, .inl items_widthBefore)), (a_items_stretchBefore, .inl (c_items_stretchBefore, 401, .inl items_stretchBefore)), (a_items_shrinkBefore, .inl (c_items_shrinkBefore, 401, .inl items_shrinkBefore)), (a_items_fillBefore, .inl (c_items_fillBefore, 401, .inl items_fillBefore)), (a_layout, .inr (6, [.int layout_known, .int layout_lines, .int layout_passTaken, .int layout_extraStretch, .long layout_demeritSum, .ref a_layout_starts, .ref a_layout_ends]))] H1 := hP.kept (fun k q hq => hH1.2 q.1 (hP k q hq).lt)
  have hHH := hHH.tr hH1
  refine va_forget (fun q hq => hS.2.2 q hq) ?_
  have hS : va_S (fun q => s.heap.size ≤ q) s.heap H1 [] := ⟨hS.1, hS.2.1, fun l h => by cases h⟩
  clear hH1 hk1 hz1 hB ht
  generalize H1 = H at hP hS hHH ⊢
  refine W.widen (k := 0) (n := 0) (Nat.le_of_ble_eq_true rfl) (Nat.le_of_ble_eq_true rfl) ?_
  refine lv_aload_n hx hb dOL_penalty_14 rfl (lv_at hl 0 rfl) ?_
  obtain ⟨u3, hu3, h⟩ := om_b h
  have hPc := hP.sub (ws' := [(a_ol, .inr (0, [.ref a_items, .ref a_ol_lineWidths, .ref a_ol_settings, .ref a_breaks, .ref a_ruler, .ref a_search, .ref a_layout])), (a_items, .inr (1, [.int items_count, .ref a_items_kinds, .ref a_items_penaltyWidths, .ref a_items_costs, .ref a_items_flags, .ref a_items_widthBefore, .ref a_items_stretchBefore, .ref a_items_shrinkBefore, .ref a_items_fillBefore]))]) [0, 1] rfl
  have hDc := hD.sub (ws' := [(a_ol, .inr (0, [.ref a_items, .ref a_ol_lineWidths, .ref a_ol_settings, .ref a_breaks, .ref a_ruler, .ref a_search, .ref a_layout])), (a_items, .inr (1, [.int items_count, .ref a_items_kinds, .ref a_items_penaltyWidths, .ref a_items_costs, .ref a_items_flags, .ref a_items_widthBefore, .ref a_items_stretchBefore, .ref a_items_shrinkBefore, .ref a_items_fillBefore]))]) [0, 1] (by decide) rfl
  have hKc := hK.sub (tys' := []) [] rfl
  rcases u3 with k9 | u3w
  · have h := om_cl rfl h
    cases h
    exact om_passV (As := []) (rest := []) ⟨hx, hb, hml, hown, htsV⟩ (om_t_OL_requireRoom l hl9 dC dI a_ol a_items a_ol_lineWidths a_ol_settings a_breaks a_ruler a_search a_layout a_items_kinds a_items_penaltyWidths a_items_costs a_items_flags a_items_widthBefore a_items_stretchBefore a_items_shrinkBefore a_items_fillBefore H.size items_count _ hu3) (cwV 0 htsV (om_gvV w_268 w_269 w_775 w_1 w_270) rfl rfl rfl (by decide +kernel) ⟨Nat.le_of_ble_eq_true rfl, Nat.le_of_ble_eq_true rfl⟩) ⟨fun a U g mk q => by obtain ⟨q0, q1, qP, qK, qD, qZ⟩ := q; exact ⟨q0, q1, qP, va_K.moved (u := U) (U := U.calling g mk a) (Vm.Alike.refl U.vm) qK, qD, om_Z.same (U := U) (V := U.calling g mk a) rfl rfl qZ⟩, va_recv hKc hPc (ci := 0) (q0 := 0) rfl rfl, fun U hU hW => ⟨rfl, by rw [hU], by rw [hU]; exact hPc, va_K.moved hW.alike hKc, hDc, om_Z.step hW hZ hS hU (fun q hq => Nat.le_trans hHH.1 hq)⟩⟩ rfl hl.1 rfl (lv_room (Nat.le_of_ble_eq_true rfl)) dOL_penalty_15 ⟨Nat.le_of_ble_eq_true rfl, Nat.le_of_ble_eq_true rfl⟩ hEx hlocks hHH (fun q hq => Nat.le_trans hHH.1 hq) (Nat.le_of_ble_eq_true rfl) (Nat.le_of_ble_eq_true rfl)
  have h := om_cr rfl h
  refine va_callv (va_runV (As := []) (rest := []) ⟨hx, hb, hml, hown, hts⟩ (om_p_OL_requireRoom l dC dI a_ol a_items a_ol_lineWidths a_ol_settings a_breaks a_ruler a_search a_layout a_items_kinds a_items_penaltyWidths a_items_costs a_items_flags a_items_widthBefore a_items_stretchBefore a_items_shrinkBefore a_items_fillBefore H.size items_count u3w hu3) (cwV 0 hts (om_gv w_268 w_269 w_775 w_1 w_270) rfl rfl rfl (by decide +kernel) ⟨Nat.le_of_ble_eq_true rfl, Nat.le_of_ble_eq_true rfl⟩) ⟨fun a U g mk q => by obtain ⟨q0, q1, qP, qK, qD⟩ := q; exact ⟨q0, q1, qP, va_K.moved (u := U) (U := U.calling g mk a) (Vm.Alike.refl U.vm) qK, qD⟩, va_recv hKc hPc (ci := 0) (q0 := 0) rfl rfl, fun U hU hW => ⟨rfl, by rw [hU], by rw [hU]; exact hPc, va_K.moved hW.alike hKc, hDc⟩⟩ rfl rfl hl.1 rfl (lv_room (Nat.le_of_ble_eq_true rfl)) dOL_penalty_15 ⟨Nat.le_of_ble_eq_true rfl, Nat.le_of_ble_eq_true rfl⟩) hS (fun q _ hq => Nat.le_trans hHH.1 (om_nA hq)) (fun q hq => Nat.le_trans hHH.1 (om_nA hq)) (fun uz t H1 locs ht hvm hw hB hz1 hk1 hS => ?_)
  have hH1 : om_H H H1 := ⟨hz1, fun q hq => hk1 q hq (fun z => Nat.not_le.mpr hq (om_nA z))⟩
  have hP : va_P (dC, dI) vwCl [(a_ol, .inr (0, [.ref a_items, .ref a_ol_lineWidths, .ref a_ol_settings, .ref a_breaks, .ref a_ruler, .ref a_search, .ref a_layout])), (a_items, .inr (1, [.int items_count, .ref a_items_kinds, .ref a_items_penaltyWidths, .ref a_items_costs, .ref a_items_flags, .ref a_items_widthBefore, .ref a_items_stretchBefore, .ref a_items_shrinkBefore, .ref a_items_fillBefore])), (a_items_kinds, .inl (c_items_kinds, 400, .inl items_kinds)), (a_items_penaltyWidths, .inl (c_items_penaltyWidths, 400, .inl items_penaltyWidths)), (a_items_costs, .inl (c_items_costs, 400, .inl items_costs)), (a_items_flags, .inl (c_items_flags, 400, .inl items_flags)), (a_items_widthBefore, .inl (c_items_widthBefore, 401, .inl items_widthBefore)), (a_items_stretchBefore, .inl (c_items_stretchBefore, 401, .inl items_stretchBefore)), (a_items_shrinkBefore, .inl (c_items_shrinkBefore, 401, .inl items_shrinkBefore)), (a_items_fillBefore, .inl (c_items_fillBefore, 401, .inl items_fillBefore)), (a_layout, .inr (6, [.int layout_known, .int layout_lines, .int layout_passTaken, .int layout_extraStretch, .long layout_demeritSum, .ref a_layout_starts, .ref a_layout_ends]))] H1 := hP.kept (fun k q hq => hH1.2 q.1 (hP k q hq).lt)
  have hHH := hHH.tr hH1
  refine va_forget (fun q hq => hS.2.2 q hq) ?_
  have hS : va_S (fun q => s.heap.size ≤ q) s.heap H1 [] := ⟨hS.1, hS.2.1, fun l h => by cases h⟩
  clear hH1 hk1 hz1 hB ht
  generalize H1 = H at hP hS hHH ⊢
  refine W.widen (k := 0) (n := 0) (Nat.le_of_ble_eq_true rfl) (Nat.le_of_ble_eq_true rfl) ?_
  exact absurd h om_rn
set_option maxHeartbeats 4000000 in
set_option maxRecDepth 100000 in
theorem om_t_OL_width (l : Launch) (hl9 : l.stackTraces = false) (dC : Nat → ClassId) (dI : Nat → Nat → Nat) (a_ol : Nat) (a_ol_lineWidths : Nat) (a_layout : Nat) (a_items : Nat) (a_ol_settings : Nat) (a_breaks : Nat) (a_ruler : Nat) (a_search : Nat) (a_layout_starts : Nat) (a_layout_ends : Nat) (c_ol_lineWidths : ClassId)  (sz : Nat) (ol_lineWidths : (Nat → Int32)) (layout_known : Int32) (layout_lines : Int32) (layout_passTaken : Int32) (layout_extraStretch : Int32) (layout_demeritSum : Int64) (x1 : Int32) (x2 : Int32) (n : Nat) (k : Nat) (h : om_f_OL_width n ol_lineWidths x1 x2 = some (.inl k)) : om_T l yOL_width (Cond.code yOL_width cOL_width 4 none :: om_V) ({ frames := 7, cells := 1, slots := 6, locals := 104 }) (va_Pc [.ref a_ol, .int x1, .int x2] (fun U => U.heap.size = sz ∧ va_P (dC, dI) vwCl [(a_ol, .inr (0, [.ref a_items, .ref a_ol_lineWidths, .ref a_ol_settings, .ref a_breaks, .ref a_ruler, .ref a_search, .ref a_layout])), (a_ol_lineWidths, .inl (c_ol_lineWidths, 41, .inl ol_lineWidths)), (a_layout, .inr (6, [.int layout_known, .int layout_lines, .int layout_passTaken, .int layout_extraStretch, .long layout_demeritSum, .ref a_layout_starts, .ref a_layout_ends]))] U.heap ∧ va_K (dC, dI) vwCl [(c_ol_lineWidths, .int)] U ∧ va_D (fun _ => True) [(a_ol, .inr (0, [.ref a_items, .ref a_ol_lineWidths, .ref a_ol_settings, .ref a_breaks, .ref a_ruler, .ref a_search, .ref a_layout])), (a_ol_lineWidths, .inl (c_ol_lineWidths, 41, .inl ol_lineWidths)), (a_layout, .inr (6, [.int layout_known, .int layout_lines, .int layout_passTaken, .int layout_extraStretch, .long layout_demeritSum, .ref a_layout_starts, .ref a_layout_ends]))] ∧ om_Z (fun q => sz ≤ q) U)) (om_E k) om_K 1 6 (fun q => sz ≤ q) := by
  refine om_T.ofW (cc := cOL_width) (maxL := 4) (ret := none) (by decide) rfl ?_
  intro p e s m args below meth c s₁ B hml hEx hv
  obtain ⟨rfl, hsz, hP, hK, hD, hZ⟩ := hv
  have hx := B.exec
  have hb := B.bytes
  have hr := B.returns
  have htsV := atoms_spec (ws := (Cond.code yOL_width cOL_width 4 none :: om_V)) B.pre
  have hts : ∀ w ∈ wsOL_width, w.before _ s = true := fun w h => htsV w (om_WV w h)
  subst hsz
  have hS : va_S (fun q => s.heap.size ≤ q) s.heap s.heap [] := va_S.rf
  have hHH : om_H s.heap s.heap := om_H.rf
  have hown : s.vm.findClass ROL = some m.cls := findClass_of_methodNamed B.named
  have hlocks := B.notSynchronized
  have hP : va_P (dC, dI) vwCl [(a_ol, .inr (0, [.ref a_items, .ref a_ol_lineWidths, .ref a_ol_settings, .ref a_breaks, .ref a_ruler, .ref a_search, .ref a_layout])), (a_ol_lineWidths, .inl (c_ol_lineWidths, 41, .inl ol_lineWidths)), (a_layout, .inr (6, [.int layout_known, .int layout_lines, .int layout_passTaken, .int layout_extraStretch, .long layout_demeritSum, .ref a_layout_starts, .ref a_layout_ends]))] s.heap := hP
  have hl := lv_entry ([.ref a_ol, .int x1, .int x2]) (n := 4) (Nat.le_of_ble_eq_true rfl)
  rw [lg_entry_eq]
  generalize (lg_sl ([.ref a_ol, .int x1, .int x2]) ++ List.replicate (4 - (lg_sl ([.ref a_ol, .int x1, .int x2])).length) Slot.unset).toArray = ls at hl ⊢
  have hl : lv_has ls 4 [(0, .ref a_ol), (1, .int x1), (2, .int x2)] := hl
  unfold om_f_OL_width at h
  refine lv_iload_n hx hb dOL_width_0 rfl (lv_at hl 1 rfl) ?_
  refine lv_iconst (v := 0) hx hb dOL_width_1 (by decide) ?_
  refine lv_bipush (v := 40) hx hb dOL_width_2 (by decide) ?_
  obtain ⟨u1, hu1, h⟩ := om_b h
  have hPc := hP.sub (ws' := []) [] rfl
  have hDc := hD.sub (ws' := []) [] (by decide) rfl
  have hKc := hK.sub (tys' := []) [] rfl
  rcases u1 with k9 | u1w
  · have h := om_cl rfl h
    cases h
    exact om_passS (As := [.int x1, .int 0, .int 40]) (rest := []) ⟨hx, hb, hml, hown, htsV⟩ (om_t_OL_requireWithin l hl9 dC dI s.heap.size x1 0 40 _ hu1) (va_cwS 3 htsV (om_gsV w_220 w_221 w_1 w_222) rfl rfl rfl (by decide +kernel) ⟨Nat.le_of_ble_eq_true rfl, Nat.le_of_ble_eq_true rfl⟩) ⟨fun a U g mk q => by obtain ⟨q0, q1, qP, qK, qD, qZ⟩ := q; exact ⟨q0, q1, qP, va_K.moved (u := U) (U := U.calling g mk a) (Vm.Alike.refl U.vm) qK, qD, om_Z.same (U := U) (V := U.calling g mk a) rfl rfl qZ⟩, fun U hU hW => ⟨rfl, by rw [hU], by rw [hU]; exact hPc, va_K.moved hW.alike hKc, hDc, om_Z.step hW hZ hS hU (fun q hq => Nat.le_trans hHH.1 hq)⟩⟩ rfl hl.1 rfl (lv_room (Nat.le_of_ble_eq_true rfl)) dOL_width_4 ⟨Nat.le_of_ble_eq_true rfl, Nat.le_of_ble_eq_true rfl⟩ hEx hlocks hHH (fun q hq => Nat.le_trans hHH.1 hq) (Nat.le_of_ble_eq_true rfl) (Nat.le_of_ble_eq_true rfl)
  have h := om_cr rfl h
  refine va_callv (va_runS (As := [.int x1, .int 0, .int 40]) (rest := []) ⟨hx, hb, hml, hown, hts⟩ (om_k_OL_requireWithin l dC dI s.heap.size x1 0 40 u1w hu1) (va_cwS 3 hts (om_gs w_220 w_221 w_1 w_222) rfl rfl rfl (by decide +kernel) ⟨Nat.le_of_ble_eq_true rfl, Nat.le_of_ble_eq_true rfl⟩) ⟨fun a U g mk q => by obtain ⟨q0, q1, qP, qK, qD⟩ := q; exact ⟨q0, q1, qP, va_K.moved (u := U) (U := U.calling g mk a) (Vm.Alike.refl U.vm) qK, qD⟩, fun U hU hW => ⟨rfl, by rw [hU], by rw [hU]; exact hPc, va_K.moved hW.alike hKc, hDc⟩⟩ rfl rfl hl.1 rfl (lv_room (Nat.le_of_ble_eq_true rfl)) dOL_width_4 ⟨Nat.le_of_ble_eq_true rfl, Nat.le_of_ble_eq_true rfl⟩) hS (fun q _ hq => Nat.le_trans hHH.1 (om_nA hq)) (fun q hq => Nat.le_trans hHH.1 (om_nA hq)) (fun uz t H1 locs ht hvm hw hB hz1 hk1 hS => ?_)
  have hH1 : om_H s.heap H1 := ⟨hz1, fun q hq => hk1 q hq (fun z => Nat.not_le.mpr hq (om_nA z))⟩
  have hP : va_P (dC, dI) vwCl [(a_ol, .inr (0, [.ref a_items, .ref a_ol_lineWidths, .ref a_ol_settings, .ref a_breaks, .ref a_ruler, .ref a_search, .ref a_layout])), (a_ol_lineWidths, .inl (c_ol_lineWidths, 41, .inl ol_lineWidths)), (a_layout, .inr (6, [.int layout_known, .int layout_lines, .int layout_passTaken, .int layout_extraStretch, .long layout_demeritSum, .ref a_layout_starts, .ref a_layout_ends]))] H1 := hP.kept (fun k q hq => hH1.2 q.1 (hP k q hq).lt)
  have hHH := hHH.tr hH1
  refine va_forget (fun q hq => hS.2.2 q hq) ?_
  have hS : va_S (fun q => s.heap.size ≤ q) s.heap H1 [] := ⟨hS.1, hS.2.1, fun l h => by cases h⟩
  clear hH1 hk1 hz1 hB ht
  generalize H1 = H at hP hS hHH ⊢
  refine W.widen (k := 0) (n := 0) (Nat.le_of_ble_eq_true rfl) (Nat.le_of_ble_eq_true rfl) ?_
  refine lv_iload_n hx hb dOL_width_7 rfl (lv_at hl 2 rfl) ?_
  refine lv_iconst (v := 1) hx hb dOL_width_8 (by decide) ?_
  refine lv_ldc (v := 1000000) hx hb hown (hts _ (om_m w_320)) dOL_width_9 ?_
  obtain ⟨u2, hu2, h⟩ := om_b h
  have hPc := hP.sub (ws' := []) [] rfl
  have hDc := hD.sub (ws' := []) [] (by decide) rfl
  have hKc := hK.sub (tys' := []) [] rfl
  rcases u2 with k9 | u2w
  · have h := om_cl rfl h
    cases h
    exact om_passS (As := [.int x2, .int 1, .int 1000000]) (rest := []) ⟨hx, hb, hml, hown, htsV⟩ (om_t_OL_requireWithin l hl9 dC dI H.size x2 1 1000000 _ hu2) (va_cwS 3 htsV (om_gsV w_220 w_221 w_1 w_222) rfl rfl rfl (by decide +kernel) ⟨Nat.le_of_ble_eq_true rfl, Nat.le_of_ble_eq_true rfl⟩) ⟨fun a U g mk q => by obtain ⟨q0, q1, qP, qK, qD, qZ⟩ := q; exact ⟨q0, q1, qP, va_K.moved (u := U) (U := U.calling g mk a) (Vm.Alike.refl U.vm) qK, qD, om_Z.same (U := U) (V := U.calling g mk a) rfl rfl qZ⟩, fun U hU hW => ⟨rfl, by rw [hU], by rw [hU]; exact hPc, va_K.moved hW.alike hKc, hDc, om_Z.step hW hZ hS hU (fun q hq => Nat.le_trans hHH.1 hq)⟩⟩ rfl hl.1 rfl (lv_room (Nat.le_of_ble_eq_true rfl)) dOL_width_11 ⟨Nat.le_of_ble_eq_true rfl, Nat.le_of_ble_eq_true rfl⟩ hEx hlocks hHH (fun q hq => Nat.le_trans hHH.1 hq) (Nat.le_of_ble_eq_true rfl) (Nat.le_of_ble_eq_true rfl)
  have h := om_cr rfl h
  refine va_callv (va_runS (As := [.int x2, .int 1, .int 1000000]) (rest := []) ⟨hx, hb, hml, hown, hts⟩ (om_k_OL_requireWithin l dC dI H.size x2 1 1000000 u2w hu2) (va_cwS 3 hts (om_gs w_220 w_221 w_1 w_222) rfl rfl rfl (by decide +kernel) ⟨Nat.le_of_ble_eq_true rfl, Nat.le_of_ble_eq_true rfl⟩) ⟨fun a U g mk q => by obtain ⟨q0, q1, qP, qK, qD⟩ := q; exact ⟨q0, q1, qP, va_K.moved (u := U) (U := U.calling g mk a) (Vm.Alike.refl U.vm) qK, qD⟩, fun U hU hW => ⟨rfl, by rw [hU], by rw [hU]; exact hPc, va_K.moved hW.alike hKc, hDc⟩⟩ rfl rfl hl.1 rfl (lv_room (Nat.le_of_ble_eq_true rfl)) dOL_width_11 ⟨Nat.le_of_ble_eq_true rfl, Nat.le_of_ble_eq_true rfl⟩) hS (fun q _ hq => Nat.le_trans hHH.1 (om_nA hq)) (fun q hq => Nat.le_trans hHH.1 (om_nA hq)) (fun uz t H1 locs ht hvm hw hB hz1 hk1 hS => ?_)
  have hH1 : om_H H H1 := ⟨hz1, fun q hq => hk1 q hq (fun z => Nat.not_le.mpr hq (om_nA z))⟩
  have hP : va_P (dC, dI) vwCl [(a_ol, .inr (0, [.ref a_items, .ref a_ol_lineWidths, .ref a_ol_settings, .ref a_breaks, .ref a_ruler, .ref a_search, .ref a_layout])), (a_ol_lineWidths, .inl (c_ol_lineWidths, 41, .inl ol_lineWidths)), (a_layout, .inr (6, [.int layout_known, .int layout_lines, .int layout_passTaken, .int layout_extraStretch, .long layout_demeritSum, .ref a_layout_starts, .ref a_layout_ends]))] H1 := hP.kept (fun k q hq => hH1.2 q.1 (hP k q hq).lt)
  have hHH := hHH.tr hH1
  refine va_forget (fun q hq => hS.2.2 q hq) ?_
  have hS : va_S (fun q => s.heap.size ≤ q) s.heap H1 [] := ⟨hS.1, hS.2.1, fun l h => by cases h⟩
  clear hH1 hk1 hz1 hB ht
  generalize H1 = H at hP hS hHH ⊢
  refine W.widen (k := 0) (n := 0) (Nat.le_of_ble_eq_true rfl) (Nat.le_of_ble_eq_true rfl) ?_
  exact absurd h om_rn
set_option maxHeartbeats 4000000 in
set_option maxRecDepth 100000 in
theorem om_t_OL_setting (l : Launch) (hl9 : l.stackTraces = false) (dC : Nat → ClassId) (dI : Nat → Nat → Nat) (a_ol : Nat) (a_ol_settings : Nat) (a_layout : Nat) (a_items : Nat) (a_ol_lineWidths : Nat) (a_breaks : Nat) (a_ruler : Nat) (a_search : Nat) (a_layout_starts : Nat) (a_layout_ends : Nat) (c_ol_settings : ClassId)  (sz : Nat) (ol_settings : (Nat → Int32)) (layout_known : Int32) (layout_lines : Int32) (layout_passTaken : Int32) (layout_extraStretch : Int32) (layout_demeritSum : Int64) (x1 : Int32) (x2 : Int32) (k : Nat) (h : om_f_OL_setting ol_settings x1 x2 = some (.inl k)) : om_T l yOL_setting (Cond.code yOL_setting cOL_setting 4 (some .int) :: om_V) ({ frames := 7, cells := 1, slots := 6, locals := 104 }) (va_Pc [.ref a_ol, .int x1, .int x2] (fun U => U.heap.size = sz ∧ va_P (dC, dI) vwCl [(a_ol, .inr (0, [.ref a_items, .ref a_ol_lineWidths, .ref a_ol_settings, .ref a_breaks, .ref a_ruler, .ref a_search, .ref a_layout])), (a_ol_settings, .inl (c_ol_settings, 8, .inl ol_settings)), (a_layout, .inr (6, [.int layout_known, .int layout_lines, .int layout_passTaken, .int layout_extraStretch, .long layout_demeritSum, .ref a_layout_starts, .ref a_layout_ends]))] U.heap ∧ va_K (dC, dI) vwCl [(c_ol_settings, .int)] U ∧ va_D (fun _ => True) [(a_ol, .inr (0, [.ref a_items, .ref a_ol_lineWidths, .ref a_ol_settings, .ref a_breaks, .ref a_ruler, .ref a_search, .ref a_layout])), (a_ol_settings, .inl (c_ol_settings, 8, .inl ol_settings)), (a_layout, .inr (6, [.int layout_known, .int layout_lines, .int layout_passTaken, .int layout_extraStretch, .long layout_demeritSum, .ref a_layout_starts, .ref a_layout_ends]))] ∧ om_Z (fun q => sz ≤ q) U)) (om_E k) om_K 1 6 (fun q => sz ≤ q) := by
  refine om_T.ofW (cc := cOL_setting) (maxL := 4) (ret := (some .int)) (by decide) rfl ?_
  intro p e s m args below meth c s₁ B hml hEx hv
  obtain ⟨rfl, hsz, hP, hK, hD, hZ⟩ := hv
  have hx := B.exec
  have hb := B.bytes
  have hr := B.returns
  have htsV := atoms_spec (ws := (Cond.code yOL_setting cOL_setting 4 (some .int) :: om_V)) B.pre
  have hts : ∀ w ∈ wsOL_setting, w.before _ s = true := fun w h => htsV w (om_WV w h)
  subst hsz
  have hS : va_S (fun q => s.heap.size ≤ q) s.heap s.heap [] := va_S.rf
  have hHH : om_H s.heap s.heap := om_H.rf
  have hown : s.vm.findClass ROL = some m.cls := findClass_of_methodNamed B.named
  have hlocks := B.notSynchronized
  have hP : va_P (dC, dI) vwCl [(a_ol, .inr (0, [.ref a_items, .ref a_ol_lineWidths, .ref a_ol_settings, .ref a_breaks, .ref a_ruler, .ref a_search, .ref a_layout])), (a_ol_settings, .inl (c_ol_settings, 8, .inl ol_settings)), (a_layout, .inr (6, [.int layout_known, .int layout_lines, .int layout_passTaken, .int layout_extraStretch, .long layout_demeritSum, .ref a_layout_starts, .ref a_layout_ends]))] s.heap := hP
  have hl := lv_entry ([.ref a_ol, .int x1, .int x2]) (n := 4) (Nat.le_of_ble_eq_true rfl)
  rw [lg_entry_eq]
  generalize (lg_sl ([.ref a_ol, .int x1, .int x2]) ++ List.replicate (4 - (lg_sl ([.ref a_ol, .int x1, .int x2])).length) Slot.unset).toArray = ls at hl ⊢
  have hl : lv_has ls 4 [(0, .ref a_ol), (1, .int x1), (2, .int x2)] := hl
  unfold om_f_OL_setting at h
  refine lv_iload_n hx hb dOL_setting_0 rfl (lv_at hl 1 rfl) ?_
  refine lv_iconst (v := 0) hx hb dOL_setting_1 (by decide) ?_
  refine lv_bipush (v := 7) hx hb dOL_setting_2 (by decide) ?_
  obtain ⟨u1, hu1, h⟩ := om_b h
  have hPc := hP.sub (ws' := []) [] rfl
  have hDc := hD.sub (ws' := []) [] (by decide) rfl
  have hKc := hK.sub (tys' := []) [] rfl
  rcases u1 with k9 | u1w
  · have h := om_cl rfl h
    cases h
    exact om_passS (As := [.int x1, .int 0, .int 7]) (rest := []) ⟨hx, hb, hml, hown, htsV⟩ (om_t_OL_requireWithin l hl9 dC dI s.heap.size x1 0 7 _ hu1) (va_cwS 3 htsV (om_gsV w_220 w_221 w_1 w_222) rfl rfl rfl (by decide +kernel) ⟨Nat.le_of_ble_eq_true rfl, Nat.le_of_ble_eq_true rfl⟩) ⟨fun a U g mk q => by obtain ⟨q0, q1, qP, qK, qD, qZ⟩ := q; exact ⟨q0, q1, qP, va_K.moved (u := U) (U := U.calling g mk a) (Vm.Alike.refl U.vm) qK, qD, om_Z.same (U := U) (V := U.calling g mk a) rfl rfl qZ⟩, fun U hU hW => ⟨rfl, by rw [hU], by rw [hU]; exact hPc, va_K.moved hW.alike hKc, hDc, om_Z.step hW hZ hS hU (fun q hq => Nat.le_trans hHH.1 hq)⟩⟩ rfl hl.1 rfl (lv_room (Nat.le_of_ble_eq_true rfl)) dOL_setting_4 ⟨Nat.le_of_ble_eq_true rfl, Nat.le_of_ble_eq_true rfl⟩ hEx hlocks hHH (fun q hq => Nat.le_trans hHH.1 hq) (Nat.le_of_ble_eq_true rfl) (Nat.le_of_ble_eq_true rfl)
  have h := om_cr rfl h
  refine va_callv (va_runS (As := [.int x1, .int 0, .int 7]) (rest := []) ⟨hx, hb, hml, hown, hts⟩ (om_k_OL_requireWithin l dC dI s.heap.size x1 0 7 u1w hu1) (va_cwS 3 hts (om_gs w_220 w_221 w_1 w_222) rfl rfl rfl (by decide +kernel) ⟨Nat.le_of_ble_eq_true rfl, Nat.le_of_ble_eq_true rfl⟩) ⟨fun a U g mk q => by obtain ⟨q0, q1, qP, qK, qD⟩ := q; exact ⟨q0, q1, qP, va_K.moved (u := U) (U := U.calling g mk a) (Vm.Alike.refl U.vm) qK, qD⟩, fun U hU hW => ⟨rfl, by rw [hU], by rw [hU]; exact hPc, va_K.moved hW.alike hKc, hDc⟩⟩ rfl rfl hl.1 rfl (lv_room (Nat.le_of_ble_eq_true rfl)) dOL_setting_4 ⟨Nat.le_of_ble_eq_true rfl, Nat.le_of_ble_eq_true rfl⟩) hS (fun q _ hq => Nat.le_trans hHH.1 (om_nA hq)) (fun q hq => Nat.le_trans hHH.1 (om_nA hq)) (fun uz t H1 locs ht hvm hw hB hz1 hk1 hS => ?_)
  have hH1 : om_H s.heap H1 := ⟨hz1, fun q hq => hk1 q hq (fun z => Nat.not_le.mpr hq (om_nA z))⟩
  have hP : va_P (dC, dI) vwCl [(a_ol, .inr (0, [.ref a_items, .ref a_ol_lineWidths, .ref a_ol_settings, .ref a_breaks, .ref a_ruler, .ref a_search, .ref a_layout])), (a_ol_settings, .inl (c_ol_settings, 8, .inl ol_settings)), (a_layout, .inr (6, [.int layout_known, .int layout_lines, .int layout_passTaken, .int layout_extraStretch, .long layout_demeritSum, .ref a_layout_starts, .ref a_layout_ends]))] H1 := hP.kept (fun k q hq => hH1.2 q.1 (hP k q hq).lt)
  have hHH := hHH.tr hH1
  refine va_forget (fun q hq => hS.2.2 q hq) ?_
  have hS : va_S (fun q => s.heap.size ≤ q) s.heap H1 [] := ⟨hS.1, hS.2.1, fun l h => by cases h⟩
  clear hH1 hk1 hz1 hB ht
  generalize H1 = H at hP hS hHH ⊢
  refine W.widen (k := 0) (n := 0) (Nat.le_of_ble_eq_true rfl) (Nat.le_of_ble_eq_true rfl) ?_
  refine lv_iload_n hx hb dOL_setting_7 rfl (lv_at hl 2 rfl) ?_
  obtain ⟨tb2, hZtb2, hTtb2⟩ := hZ.2.2.1
  refine va_gets (C := ROL) (n := "SETTING_LEAST") (d := "[I") (v := .ref tb2) hx hb hZtb2 hS hown (hts _ (om_m w_327)) (fun _ h9 => h9) dOL_setting_8 ?_
  refine lv_iload_n hx hb dOL_setting_11 rfl (lv_at hl 1 rfl) ?_
  obtain ⟨hi, h⟩ := om_g h
  refine va_ti (v := .int (om_least x1.toNatClampNeg)) hx hb hTtb2 hS (om_ok hi) rfl dOL_setting_12 ?_
  obtain ⟨tb3, hZtb3, hTtb3⟩ := hZ.2.2.2.1
  refine va_gets (C := ROL) (n := "SETTING_MOST") (d := "[I") (v := .ref tb3) hx hb hZtb3 hS hown (hts _ (om_m w_328)) (fun _ h9 => h9) dOL_setting_13 ?_
  refine lv_iload_n hx hb dOL_setting_16 rfl (lv_at hl 1 rfl) ?_
  obtain ⟨hi, h⟩ := om_g h
  refine va_ti (v := .int (om_most x1.toNatClampNeg)) hx hb hTtb3 hS (om_ok hi) rfl dOL_setting_17 ?_
  obtain ⟨u4, hu4, h⟩ := om_b h
  have hPc := hP.sub (ws' := []) [] rfl
  have hDc := hD.sub (ws' := []) [] (by decide) rfl
  have hKc := hK.sub (tys' := []) [] rfl
  rcases u4 with k9 | u4w
  · have h := om_cl rfl h
    cases h
    exact om_passS (As := [.int x2, .int (om_least x1.toNatClampNeg), .int (om_most x1.toNatClampNeg)]) (rest := []) ⟨hx, hb, hml, hown, htsV⟩ (om_t_OL_requireWithin l hl9 dC dI H.size x2 (om_least x1.toNatClampNeg) (om_most x1.toNatClampNeg) _ hu4) (va_cwS 3 htsV (om_gsV w_220 w_221 w_1 w_222) rfl rfl rfl (by decide +kernel) ⟨Nat.le_of_ble_eq_true rfl, Nat.le_of_ble_eq_true rfl⟩) ⟨fun a U g mk q => by obtain ⟨q0, q1, qP, qK, qD, qZ⟩ := q; exact ⟨q0, q1, qP, va_K.moved (u := U) (U := U.calling g mk a) (Vm.Alike.refl U.vm) qK, qD, om_Z.same (U := U) (V := U.calling g mk a) rfl rfl qZ⟩, fun U hU hW => ⟨rfl, by rw [hU], by rw [hU]; exact hPc, va_K.moved hW.alike hKc, hDc, om_Z.step hW hZ hS hU (fun q hq => Nat.le_trans hHH.1 hq)⟩⟩ rfl hl.1 rfl (lv_room (Nat.le_of_ble_eq_true rfl)) dOL_setting_18 ⟨Nat.le_of_ble_eq_true rfl, Nat.le_of_ble_eq_true rfl⟩ hEx hlocks hHH (fun q hq => Nat.le_trans hHH.1 hq) (Nat.le_of_ble_eq_true rfl) (Nat.le_of_ble_eq_true rfl)
  have h := om_cr rfl h
  refine va_callv (va_runS (As := [.int x2, .int (om_least x1.toNatClampNeg), .int (om_most x1.toNatClampNeg)]) (rest := []) ⟨hx, hb, hml, hown, hts⟩ (om_k_OL_requireWithin l dC dI H.size x2 (om_least x1.toNatClampNeg) (om_most x1.toNatClampNeg) u4w hu4) (va_cwS 3 hts (om_gs w_220 w_221 w_1 w_222) rfl rfl rfl (by decide +kernel) ⟨Nat.le_of_ble_eq_true rfl, Nat.le_of_ble_eq_true rfl⟩) ⟨fun a U g mk q => by obtain ⟨q0, q1, qP, qK, qD⟩ := q; exact ⟨q0, q1, qP, va_K.moved (u := U) (U := U.calling g mk a) (Vm.Alike.refl U.vm) qK, qD⟩, fun U hU hW => ⟨rfl, by rw [hU], by rw [hU]; exact hPc, va_K.moved hW.alike hKc, hDc⟩⟩ rfl rfl hl.1 rfl (lv_room (Nat.le_of_ble_eq_true rfl)) dOL_setting_18 ⟨Nat.le_of_ble_eq_true rfl, Nat.le_of_ble_eq_true rfl⟩) hS (fun q _ hq => Nat.le_trans hHH.1 (om_nA hq)) (fun q hq => Nat.le_trans hHH.1 (om_nA hq)) (fun uz t H1 locs ht hvm hw hB hz1 hk1 hS => ?_)
  have hH1 : om_H H H1 := ⟨hz1, fun q hq => hk1 q hq (fun z => Nat.not_le.mpr hq (om_nA z))⟩
  have hP : va_P (dC, dI) vwCl [(a_ol, .inr (0, [.ref a_items, .ref a_ol_lineWidths, .ref a_ol_settings, .ref a_breaks, .ref a_ruler, .ref a_search, .ref a_layout])), (a_ol_settings, .inl (c_ol_settings, 8, .inl ol_settings)), (a_layout, .inr (6, [.int layout_known, .int layout_lines, .int layout_passTaken, .int layout_extraStretch, .long layout_demeritSum, .ref a_layout_starts, .ref a_layout_ends]))] H1 := hP.kept (fun k q hq => hH1.2 q.1 (hP k q hq).lt)
  have hHH := hHH.tr hH1
  refine va_forget (fun q hq => hS.2.2 q hq) ?_
  have hS : va_S (fun q => s.heap.size ≤ q) s.heap H1 [] := ⟨hS.1, hS.2.1, fun l h => by cases h⟩
  clear hH1 hk1 hz1 hB ht
  generalize H1 = H at hP hS hHH ⊢
  refine W.widen (k := 0) (n := 0) (Nat.le_of_ble_eq_true rfl) (Nat.le_of_ble_eq_true rfl) ?_
  exact absurd h om_rn
set_option maxHeartbeats 4000000 in
set_option maxRecDepth 100000 in
theorem om_t_OL_pass (l : Launch) (hl9 : l.stackTraces = false) (dC : Nat → ClassId) (dI : Nat → Nat → Nat) (a_ol : Nat) (a_layout : Nat) (a_items : Nat) (a_ol_lineWidths : Nat) (a_ol_settings : Nat) (a_breaks : Nat) (a_ruler : Nat) (a_search : Nat) (a_layout_starts : Nat) (a_layout_ends : Nat)   (sz : Nat) (layout_known : Int32) (layout_lines : Int32) (layout_passTaken : Int32) (layout_extraStretch : Int32) (layout_demeritSum : Int64)  (k : Nat) (h : om_f_OL_pass layout_known layout_passTaken = some (.inl k)) : om_T l yOL_pass (Cond.code yOL_pass cOL_pass 1 (some .int) :: om_V) ({ frames := 7, cells := 1, slots := 6, locals := 102 }) (va_Pc [.ref a_ol] (fun U => U.heap.size = sz ∧ va_P (dC, dI) vwCl [(a_ol, .inr (0, [.ref a_items, .ref a_ol_lineWidths, .ref a_ol_settings, .ref a_breaks, .ref a_ruler, .ref a_search, .ref a_layout])), (a_layout, .inr (6, [.int layout_known, .int layout_lines, .int layout_passTaken, .int layout_extraStretch, .long layout_demeritSum, .ref a_layout_starts, .ref a_layout_ends]))] U.heap ∧ va_K (dC, dI) vwCl [] U ∧ va_D (fun _ => True) [(a_ol, .inr (0, [.ref a_items, .ref a_ol_lineWidths, .ref a_ol_settings, .ref a_breaks, .ref a_ruler, .ref a_search, .ref a_layout])), (a_layout, .inr (6, [.int layout_known, .int layout_lines, .int layout_passTaken, .int layout_extraStretch, .long layout_demeritSum, .ref a_layout_starts, .ref a_layout_ends]))] ∧ om_Z (fun q => sz ≤ q) U)) (om_E k) om_K 1 6 (fun q => sz ≤ q) := by
  refine om_T.ofW (cc := cOL_pass) (maxL := 1) (ret := (some .int)) (by decide) rfl ?_
  intro p e s m args below meth c s₁ B hml hEx hv
  obtain ⟨rfl, hsz, hP, hK, hD, hZ⟩ := hv
  have hx := B.exec
  have hb := B.bytes
  have hr := B.returns
  have htsV := atoms_spec (ws := (Cond.code yOL_pass cOL_pass 1 (some .int) :: om_V)) B.pre
  have hts : ∀ w ∈ wsOL_pass, w.before _ s = true := fun w h => htsV w (om_WV w h)
  subst hsz
  have hS : va_S (fun q => s.heap.size ≤ q) s.heap s.heap [] := va_S.rf
  have hHH : om_H s.heap s.heap := om_H.rf
  have hown : s.vm.findClass ROL = some m.cls := findClass_of_methodNamed B.named
  have hlocks := B.notSynchronized
  have hP : va_P (dC, dI) vwCl [(a_ol, .inr (0, [.ref a_items, .ref a_ol_lineWidths, .ref a_ol_settings, .ref a_breaks, .ref a_ruler, .ref a_search, .ref a_layout])), (a_layout, .inr (6, [.int layout_known, .int layout_lines, .int layout_passTaken, .int layout_extraStretch, .long layout_demeritSum, .ref a_layout_starts, .ref a_layout_ends]))] s.heap := hP
  have hl := lv_entry ([.ref a_ol]) (n := 1) (Nat.le_of_ble_eq_true rfl)
  rw [lg_entry_eq]
  generalize (lg_sl ([.ref a_ol]) ++ List.replicate (1 - (lg_sl ([.ref a_ol])).length) Slot.unset).toArray = ls at hl ⊢
  have hl : lv_has ls 1 [(0, .ref a_ol)] := hl
  unfold om_f_OL_pass at h
  refine lv_aload_n hx hb dOL_pass_0 rfl (lv_at hl 0 rfl) ?_
  obtain ⟨u1, hu1, h⟩ := om_b h
  have hPc := hP.sub (ws' := [(a_ol, .inr (0, [.ref a_items, .ref a_ol_lineWidths, .ref a_ol_settings, .ref a_breaks, .ref a_ruler, .ref a_search, .ref a_layout])), (a_layout, .inr (6, [.int layout_known, .int layout_lines, .int layout_passTaken, .int layout_extraStretch, .long layout_demeritSum, .ref a_layout_starts, .ref a_layout_ends]))]) [0, 1] rfl
  have hDc := hD.sub (ws' := [(a_ol, .inr (0, [.ref a_items, .ref a_ol_lineWidths, .ref a_ol_settings, .ref a_breaks, .ref a_ruler, .ref a_search, .ref a_layout])), (a_layout, .inr (6, [.int layout_known, .int layout_lines, .int layout_passTaken, .int layout_extraStretch, .long layout_demeritSum, .ref a_layout_starts, .ref a_layout_ends]))]) [0, 1] (by decide) rfl
  have hKc := hK.sub (tys' := []) [] rfl
  rcases u1 with k9 | u1w
  · have h := om_cl rfl h
    cases h
    exact om_passV (As := []) (rest := []) ⟨hx, hb, hml, hown, htsV⟩ (om_t_OL_requireLines l hl9 dC dI a_ol a_layout a_items a_ol_lineWidths a_ol_settings a_breaks a_ruler a_search a_layout_starts a_layout_ends s.heap.size layout_known layout_lines layout_passTaken layout_extraStretch layout_demeritSum _ hu1) (cwV 0 htsV (om_gvV w_480 w_481 w_793 w_1 w_482) rfl rfl rfl (by decide +kernel) ⟨Nat.le_of_ble_eq_true rfl, Nat.le_of_ble_eq_true rfl⟩) ⟨fun a U g mk q => by obtain ⟨q0, q1, qP, qK, qD, qZ⟩ := q; exact ⟨q0, q1, qP, va_K.moved (u := U) (U := U.calling g mk a) (Vm.Alike.refl U.vm) qK, qD, om_Z.same (U := U) (V := U.calling g mk a) rfl rfl qZ⟩, va_recv hKc hPc (ci := 0) (q0 := 0) rfl rfl, fun U hU hW => ⟨rfl, by rw [hU], by rw [hU]; exact hPc, va_K.moved hW.alike hKc, hDc, om_Z.step hW hZ hS hU (fun q hq => Nat.le_trans hHH.1 hq)⟩⟩ rfl hl.1 rfl (lv_room (Nat.le_of_ble_eq_true rfl)) dOL_pass_1 ⟨Nat.le_of_ble_eq_true rfl, Nat.le_of_ble_eq_true rfl⟩ hEx hlocks hHH (fun q hq => Nat.le_trans hHH.1 hq) (Nat.le_of_ble_eq_true rfl) (Nat.le_of_ble_eq_true rfl)
  have h := om_cr rfl h
  refine va_callv (va_runV (As := []) (rest := []) ⟨hx, hb, hml, hown, hts⟩ (om_p_OL_requireLines l dC dI a_ol a_layout a_items a_ol_lineWidths a_ol_settings a_breaks a_ruler a_search a_layout_starts a_layout_ends s.heap.size layout_known layout_lines layout_passTaken layout_extraStretch layout_demeritSum u1w hu1) (cwV 0 hts (om_gv w_480 w_481 w_793 w_1 w_482) rfl rfl rfl (by decide +kernel) ⟨Nat.le_of_ble_eq_true rfl, Nat.le_of_ble_eq_true rfl⟩) ⟨fun a U g mk q => by obtain ⟨q0, q1, qP, qK, qD⟩ := q; exact ⟨q0, q1, qP, va_K.moved (u := U) (U := U.calling g mk a) (Vm.Alike.refl U.vm) qK, qD⟩, va_recv hKc hPc (ci := 0) (q0 := 0) rfl rfl, fun U hU hW => ⟨rfl, by rw [hU], by rw [hU]; exact hPc, va_K.moved hW.alike hKc, hDc⟩⟩ rfl rfl hl.1 rfl (lv_room (Nat.le_of_ble_eq_true rfl)) dOL_pass_1 ⟨Nat.le_of_ble_eq_true rfl, Nat.le_of_ble_eq_true rfl⟩) hS (fun q _ hq => Nat.le_trans hHH.1 (om_nA hq)) (fun q hq => Nat.le_trans hHH.1 (om_nA hq)) (fun uz t H1 locs ht hvm hw hB hz1 hk1 hS => ?_)
  have hH1 : om_H s.heap H1 := ⟨hz1, fun q hq => hk1 q hq (fun z => Nat.not_le.mpr hq (om_nA z))⟩
  have hP : va_P (dC, dI) vwCl [(a_ol, .inr (0, [.ref a_items, .ref a_ol_lineWidths, .ref a_ol_settings, .ref a_breaks, .ref a_ruler, .ref a_search, .ref a_layout])), (a_layout, .inr (6, [.int layout_known, .int layout_lines, .int layout_passTaken, .int layout_extraStretch, .long layout_demeritSum, .ref a_layout_starts, .ref a_layout_ends]))] H1 := hP.kept (fun k q hq => hH1.2 q.1 (hP k q hq).lt)
  have hHH := hHH.tr hH1
  refine va_forget (fun q hq => hS.2.2 q hq) ?_
  have hS : va_S (fun q => s.heap.size ≤ q) s.heap H1 [] := ⟨hS.1, hS.2.1, fun l h => by cases h⟩
  clear hH1 hk1 hz1 hB ht
  generalize H1 = H at hP hS hHH ⊢
  refine W.widen (k := 0) (n := 0) (Nat.le_of_ble_eq_true rfl) (Nat.le_of_ble_eq_true rfl) ?_
  exact absurd h om_rn
set_option maxHeartbeats 4000000 in
set_option maxRecDepth 100000 in
theorem om_t_OL_demerits (l : Launch) (hl9 : l.stackTraces = false) (dC : Nat → ClassId) (dI : Nat → Nat → Nat) (a_ol : Nat) (a_layout : Nat) (a_items : Nat) (a_ol_lineWidths : Nat) (a_ol_settings : Nat) (a_breaks : Nat) (a_ruler : Nat) (a_search : Nat) (a_layout_starts : Nat) (a_layout_ends : Nat)   (sz : Nat) (layout_known : Int32) (layout_lines : Int32) (layout_passTaken : Int32) (layout_extraStretch : Int32) (layout_demeritSum : Int64)  (k : Nat) (h : om_f_OL_demerits layout_known layout_demeritSum = some (.inl k)) : om_T l yOL_demerits (Cond.code yOL_demerits cOL_demerits 1 (some .long) :: om_V) ({ frames := 7, cells := 1, slots := 6, locals := 102 }) (va_Pc [.ref a_ol] (fun U => U.heap.size = sz ∧ va_P (dC, dI) vwCl [(a_ol, .inr (0, [.ref a_items, .ref a_ol_lineWidths, .ref a_ol_settings, .ref a_breaks, .ref a_ruler, .ref a_search, .ref a_layout])), (a_layout, .inr (6, [.int layout_known, .int layout_lines, .int layout_passTaken, .int layout_extraStretch, .long layout_demeritSum, .ref a_layout_starts, .ref a_layout_ends]))] U.heap ∧ va_K (dC, dI) vwCl [] U ∧ va_D (fun _ => True) [(a_ol, .inr (0, [.ref a_items, .ref a_ol_lineWidths, .ref a_ol_settings, .ref a_breaks, .ref a_ruler, .ref a_search, .ref a_layout])), (a_layout, .inr (6, [.int layout_known, .int layout_lines, .int layout_passTaken, .int layout_extraStretch, .long layout_demeritSum, .ref a_layout_starts, .ref a_layout_ends]))] ∧ om_Z (fun q => sz ≤ q) U)) (om_E k) om_K 1 6 (fun q => sz ≤ q) := by
  refine om_T.ofW (cc := cOL_demerits) (maxL := 1) (ret := (some .long)) (by decide) rfl ?_
  intro p e s m args below meth c s₁ B hml hEx hv
  obtain ⟨rfl, hsz, hP, hK, hD, hZ⟩ := hv
  have hx := B.exec
  have hb := B.bytes
  have hr := B.returns
  have htsV := atoms_spec (ws := (Cond.code yOL_demerits cOL_demerits 1 (some .long) :: om_V)) B.pre
  have hts : ∀ w ∈ wsOL_demerits, w.before _ s = true := fun w h => htsV w (om_WV w h)
  subst hsz
  have hS : va_S (fun q => s.heap.size ≤ q) s.heap s.heap [] := va_S.rf
  have hHH : om_H s.heap s.heap := om_H.rf
  have hown : s.vm.findClass ROL = some m.cls := findClass_of_methodNamed B.named
  have hlocks := B.notSynchronized
  have hP : va_P (dC, dI) vwCl [(a_ol, .inr (0, [.ref a_items, .ref a_ol_lineWidths, .ref a_ol_settings, .ref a_breaks, .ref a_ruler, .ref a_search, .ref a_layout])), (a_layout, .inr (6, [.int layout_known, .int layout_lines, .int layout_passTaken, .int layout_extraStretch, .long layout_demeritSum, .ref a_layout_starts, .ref a_layout_ends]))] s.heap := hP
  have hl := lv_entry ([.ref a_ol]) (n := 1) (Nat.le_of_ble_eq_true rfl)
  rw [lg_entry_eq]
  generalize (lg_sl ([.ref a_ol]) ++ List.replicate (1 - (lg_sl ([.ref a_ol])).length) Slot.unset).toArray = ls at hl ⊢
  have hl : lv_has ls 1 [(0, .ref a_ol)] := hl
  unfold om_f_OL_demerits at h
  refine lv_aload_n hx hb dOL_demerits_0 rfl (lv_at hl 0 rfl) ?_
  obtain ⟨u1, hu1, h⟩ := om_b h
  have hPc := hP.sub (ws' := [(a_ol, .inr (0, [.ref a_items, .ref a_ol_lineWidths, .ref a_ol_settings, .ref a_breaks, .ref a_ruler, .ref a_search, .ref a_layout])), (a_layout, .inr (6, [.int layout_known, .int layout_lines, .int layout_passTaken, .int layout_extraStretch, .long layout_demeritSum, .ref a_layout_starts, .ref a_layout_ends]))]) [0, 1] rfl
  have hDc := hD.sub (ws' := [(a_ol, .inr (0, [.ref a_items, .ref a_ol_lineWidths, .ref a_ol_settings, .ref a_breaks, .ref a_ruler, .ref a_search, .ref a_layout])), (a_layout, .inr (6, [.int layout_known, .int layout_lines, .int layout_passTaken, .int layout_extraStretch, .long layout_demeritSum, .ref a_layout_starts, .ref a_layout_ends]))]) [0, 1] (by decide) rfl
  have hKc := hK.sub (tys' := []) [] rfl
  rcases u1 with k9 | u1w
  · have h := om_cl rfl h
    cases h
    exact om_passV (As := []) (rest := []) ⟨hx, hb, hml, hown, htsV⟩ (om_t_OL_requireLines l hl9 dC dI a_ol a_layout a_items a_ol_lineWidths a_ol_settings a_breaks a_ruler a_search a_layout_starts a_layout_ends s.heap.size layout_known layout_lines layout_passTaken layout_extraStretch layout_demeritSum _ hu1) (cwV 0 htsV (om_gvV w_480 w_481 w_793 w_1 w_482) rfl rfl rfl (by decide +kernel) ⟨Nat.le_of_ble_eq_true rfl, Nat.le_of_ble_eq_true rfl⟩) ⟨fun a U g mk q => by obtain ⟨q0, q1, qP, qK, qD, qZ⟩ := q; exact ⟨q0, q1, qP, va_K.moved (u := U) (U := U.calling g mk a) (Vm.Alike.refl U.vm) qK, qD, om_Z.same (U := U) (V := U.calling g mk a) rfl rfl qZ⟩, va_recv hKc hPc (ci := 0) (q0 := 0) rfl rfl, fun U hU hW => ⟨rfl, by rw [hU], by rw [hU]; exact hPc, va_K.moved hW.alike hKc, hDc, om_Z.step hW hZ hS hU (fun q hq => Nat.le_trans hHH.1 hq)⟩⟩ rfl hl.1 rfl (lv_room (Nat.le_of_ble_eq_true rfl)) dOL_demerits_1 ⟨Nat.le_of_ble_eq_true rfl, Nat.le_of_ble_eq_true rfl⟩ hEx hlocks hHH (fun q hq => Nat.le_trans hHH.1 hq) (Nat.le_of_ble_eq_true rfl) (Nat.le_of_ble_eq_true rfl)
  have h := om_cr rfl h
  refine va_callv (va_runV (As := []) (rest := []) ⟨hx, hb, hml, hown, hts⟩ (om_p_OL_requireLines l dC dI a_ol a_layout a_items a_ol_lineWidths a_ol_settings a_breaks a_ruler a_search a_layout_starts a_layout_ends s.heap.size layout_known layout_lines layout_passTaken layout_extraStretch layout_demeritSum u1w hu1) (cwV 0 hts (om_gv w_480 w_481 w_793 w_1 w_482) rfl rfl rfl (by decide +kernel) ⟨Nat.le_of_ble_eq_true rfl, Nat.le_of_ble_eq_true rfl⟩) ⟨fun a U g mk q => by obtain ⟨q0, q1, qP, qK, qD⟩ := q; exact ⟨q0, q1, qP, va_K.moved (u := U) (U := U.calling g mk a) (Vm.Alike.refl U.vm) qK, qD⟩, va_recv hKc hPc (ci := 0) (q0 := 0) rfl rfl, fun U hU hW => ⟨rfl, by rw [hU], by rw [hU]; exact hPc, va_K.moved hW.alike hKc, hDc⟩⟩ rfl rfl hl.1 rfl (lv_room (Nat.le_of_ble_eq_true rfl)) dOL_demerits_1 ⟨Nat.le_of_ble_eq_true rfl, Nat.le_of_ble_eq_true rfl⟩) hS (fun q _ hq => Nat.le_trans hHH.1 (om_nA hq)) (fun q hq => Nat.le_trans hHH.1 (om_nA hq)) (fun uz t H1 locs ht hvm hw hB hz1 hk1 hS => ?_)
  have hH1 : om_H s.heap H1 := ⟨hz1, fun q hq => hk1 q hq (fun z => Nat.not_le.mpr hq (om_nA z))⟩
  have hP : va_P (dC, dI) vwCl [(a_ol, .inr (0, [.ref a_items, .ref a_ol_lineWidths, .ref a_ol_settings, .ref a_breaks, .ref a_ruler, .ref a_search, .ref a_layout])), (a_layout, .inr (6, [.int layout_known, .int layout_lines, .int layout_passTaken, .int layout_extraStretch, .long layout_demeritSum, .ref a_layout_starts, .ref a_layout_ends]))] H1 := hP.kept (fun k q hq => hH1.2 q.1 (hP k q hq).lt)
  have hHH := hHH.tr hH1
  refine va_forget (fun q hq => hS.2.2 q hq) ?_
  have hS : va_S (fun q => s.heap.size ≤ q) s.heap H1 [] := ⟨hS.1, hS.2.1, fun l h => by cases h⟩
  clear hH1 hk1 hz1 hB ht
  generalize H1 = H at hP hS hHH ⊢
  refine W.widen (k := 0) (n := 0) (Nat.le_of_ble_eq_true rfl) (Nat.le_of_ble_eq_true rfl) ?_
  exact absurd h om_rn
set_option maxHeartbeats 4000000 in
set_option maxRecDepth 100000 in
theorem om_t_OL_line (l : Launch) (hl9 : l.stackTraces = false) (dC : Nat → ClassId) (dI : Nat → Nat → Nat) (a_ol : Nat) (a_ol_lineWidths : Nat) (a_items : Nat) (a_items_penaltyWidths : Nat) (a_items_widthBefore : Nat) (a_items_stretchBefore : Nat) (a_items_shrinkBefore : Nat) (a_items_fillBefore : Nat) (a_ruler : Nat) (a_layout : Nat) (a_layout_starts : Nat) (a_layout_ends : Nat) (a_ol_settings : Nat) (a_breaks : Nat) (a_search : Nat) (a_items_kinds : Nat) (a_items_costs : Nat) (a_items_flags : Nat) (c_ol_lineWidths : ClassId) (c_items_penaltyWidths : ClassId) (c_items_widthBefore : ClassId) (c_items_stretchBefore : ClassId) (c_items_shrinkBefore : ClassId) (c_items_fillBefore : ClassId) (c_layout_starts : ClassId) (c_layout_ends : ClassId)  (sz : Nat) (ol_lineWidths : (Nat → Int32)) (items_count : Int32) (items_penaltyWidths : (Nat → Int32)) (items_widthBefore : (Nat → Int32)) (items_stretchBefore : (Nat → Int32)) (items_shrinkBefore : (Nat → Int32)) (items_fillBefore : (Nat → Int32)) (ruler_start : Int32) (ruler_stretch : Int32) (ruler_shrink : Int32) (ruler_fill : Int32) (ruler_excess : Int32) (layout_known : Int32) (layout_lines : Int32) (layout_passTaken : Int32) (layout_extraStretch : Int32) (layout_demeritSum : Int64) (layout_starts : (Nat → Int32)) (layout_ends : (Nat → Int32)) (x1 : Int32) (x2 : Int32) (k : Nat) (h : om_f_OL_line ol_lineWidths items_count items_penaltyWidths items_widthBefore items_stretchBefore items_shrinkBefore items_fillBefore layout_known layout_lines layout_extraStretch layout_starts layout_ends x1 x2 = some (.inl k)) : om_T l yOL_line (Cond.code yOL_line cOL_line 4 (some .int) :: om_V) ({ frames := 7, cells := 1, slots := 6, locals := 103 }) (va_Pc [.ref a_ol, .int x1, .int x2] (fun U => U.heap.size = sz ∧ va_P (dC, dI) vwCl [(a_ol, .inr (0, [.ref a_items, .ref a_ol_lineWidths, .ref a_ol_settings, .ref a_breaks, .ref a_ruler, .ref a_search, .ref a_layout])), (a_ol_lineWidths, .inl (c_ol_lineWidths, 41, .inl ol_lineWidths)), (a_items, .inr (1, [.int items_count, .ref a_items_kinds, .ref a_items_penaltyWidths, .ref a_items_costs, .ref a_items_flags, .ref a_items_widthBefore, .ref a_items_stretchBefore, .ref a_items_shrinkBefore, .ref a_items_fillBefore])), (a_items_penaltyWidths, .inl (c_items_penaltyWidths, 400, .inl items_penaltyWidths)), (a_items_widthBefore, .inl (c_items_widthBefore, 401, .inl items_widthBefore)), (a_items_stretchBefore, .inl (c_items_stretchBefore, 401, .inl items_stretchBefore)), (a_items_shrinkBefore, .inl (c_items_shrinkBefore, 401, .inl items_shrinkBefore)), (a_items_fillBefore, .inl (c_items_fillBefore, 401, .inl items_fillBefore)), (a_ruler, .inr (3, [.ref a_items, .int ruler_start, .int ruler_stretch, .int ruler_shrink, .int ruler_fill, .int ruler_excess])), (a_layout, .inr (6, [.int layout_known, .int layout_lines, .int layout_passTaken, .int layout_extraStretch, .long layout_demeritSum, .ref a_layout_starts, .ref a_layout_ends])), (a_layout_starts, .inl (c_layout_starts, 401, .inl layout_starts)), (a_layout_ends, .inl (c_layout_ends, 401, .inl layout_ends))] U.heap ∧ va_K (dC, dI) vwCl [(c_ol_lineWidths, .int), (c_items_penaltyWidths, .int), (c_items_widthBefore, .int), (c_items_stretchBefore, .int), (c_items_shrinkBefore, .int), (c_items_fillBefore, .int), (c_layout_starts, .int), (c_layout_ends, .int)] U ∧ va_D (fun _ => True) [(a_ol, .inr (0, [.ref a_items, .ref a_ol_lineWidths, .ref a_ol_settings, .ref a_breaks, .ref a_ruler, .ref a_search, .ref a_layout])), (a_ol_lineWidths, .inl (c_ol_lineWidths, 41, .inl ol_lineWidths)), (a_items, .inr (1, [.int items_count, .ref a_items_kinds, .ref a_items_penaltyWidths, .ref a_items_costs, .ref a_items_flags, .ref a_items_widthBefore, .ref a_items_stretchBefore, .ref a_items_shrinkBefore, .ref a_items_fillBefore])), (a_items_penaltyWidths, .inl (c_items_penaltyWidths, 400, .inl items_penaltyWidths)), (a_items_widthBefore, .inl (c_items_widthBefore, 401, .inl items_widthBefore)), (a_items_stretchBefore, .inl (c_items_stretchBefore, 401, .inl items_stretchBefore)), (a_items_shrinkBefore, .inl (c_items_shrinkBefore, 401, .inl items_shrinkBefore)), (a_items_fillBefore, .inl (c_items_fillBefore, 401, .inl items_fillBefore)), (a_ruler, .inr (3, [.ref a_items, .int ruler_start, .int ruler_stretch, .int ruler_shrink, .int ruler_fill, .int ruler_excess])), (a_layout, .inr (6, [.int layout_known, .int layout_lines, .int layout_passTaken, .int layout_extraStretch, .long layout_demeritSum, .ref a_layout_starts, .ref a_layout_ends])), (a_layout_starts, .inl (c_layout_starts, 401, .inl layout_starts)), (a_layout_ends, .inl (c_layout_ends, 401, .inl layout_ends))] ∧ om_Z (fun q => sz ≤ q) U)) (om_E k) om_K 1 6 (fun q => sz ≤ q) := by
  refine om_T.ofW (cc := cOL_line) (maxL := 4) (ret := (some .int)) (by decide) rfl ?_
  intro p e s m args below meth c s₁ B hml hEx hv
  obtain ⟨rfl, hsz, hP, hK, hD, hZ⟩ := hv
  have hx := B.exec
  have hb := B.bytes
  have hr := B.returns
  have htsV := atoms_spec (ws := (Cond.code yOL_line cOL_line 4 (some .int) :: om_V)) B.pre
  have hts : ∀ w ∈ wsOL_line, w.before _ s = true := fun w h => htsV w (om_WV w h)
  subst hsz
  have hS : va_S (fun q => s.heap.size ≤ q) s.heap s.heap [] := va_S.rf
  have hHH : om_H s.heap s.heap := om_H.rf
  have hown : s.vm.findClass ROL = some m.cls := findClass_of_methodNamed B.named
  have hlocks := B.notSynchronized
  have hP : va_P (dC, dI) vwCl [(a_ol, .inr (0, [.ref a_items, .ref a_ol_lineWidths, .ref a_ol_settings, .ref a_breaks, .ref a_ruler, .ref a_search, .ref a_layout])), (a_ol_lineWidths, .inl (c_ol_lineWidths, 41, .inl ol_lineWidths)), (a_items, .inr (1, [.int items_count, .ref a_items_kinds, .ref a_items_penaltyWidths, .ref a_items_costs, .ref a_items_flags, .ref a_items_widthBefore, .ref a_items_stretchBefore, .ref a_items_shrinkBefore, .ref a_items_fillBefore])), (a_items_penaltyWidths, .inl (c_items_penaltyWidths, 400, .inl items_penaltyWidths)), (a_items_widthBefore, .inl (c_items_widthBefore, 401, .inl items_widthBefore)), (a_items_stretchBefore, .inl (c_items_stretchBefore, 401, .inl items_stretchBefore)), (a_items_shrinkBefore, .inl (c_items_shrinkBefore, 401, .inl items_shrinkBefore)), (a_items_fillBefore, .inl (c_items_fillBefore, 401, .inl items_fillBefore)), (a_ruler, .inr (3, [.ref a_items, .int ruler_start, .int ruler_stretch, .int ruler_shrink, .int ruler_fill, .int ruler_excess])), (a_layout, .inr (6, [.int layout_known, .int layout_lines, .int layout_passTaken, .int layout_extraStretch, .long layout_demeritSum, .ref a_layout_starts, .ref a_layout_ends])), (a_layout_starts, .inl (c_layout_starts, 401, .inl layout_starts)), (a_layout_ends, .inl (c_layout_ends, 401, .inl layout_ends))] s.heap := hP
  have hl := lv_entry ([.ref a_ol, .int x1, .int x2]) (n := 4) (Nat.le_of_ble_eq_true rfl)
  rw [lg_entry_eq]
  generalize (lg_sl ([.ref a_ol, .int x1, .int x2]) ++ List.replicate (4 - (lg_sl ([.ref a_ol, .int x1, .int x2])).length) Slot.unset).toArray = ls at hl ⊢
  have hl : lv_has ls 4 [(0, .ref a_ol), (1, .int x1), (2, .int x2)] := hl
  unfold om_f_OL_line at h
  refine lv_aload_n hx hb dOL_line_0 rfl (lv_at hl 0 rfl) ?_
  obtain ⟨u1, hu1, h⟩ := om_b h
  have hPc := hP.sub (ws' := [(a_ol, .inr (0, [.ref a_items, .ref a_ol_lineWidths, .ref a_ol_settings, .ref a_breaks, .ref a_ruler, .ref a_search, .ref a_layout])), (a_layout, .inr (6, [.int layout_known, .int layout_lines, .int layout_passTaken, .int layout_extraStretch, .long layout_demeritSum, .ref a_layout_starts, .ref a_layout_ends]))]) [0, 9] rfl
  have hDc := hD.sub (ws' := [(a_ol, .inr (0, [.ref a_items, .ref a_ol_lineWidths, .ref a_ol_settings, .ref a_breaks, .ref a_ruler, .ref a_search, .ref a_layout])), (a_layout, .inr (6, [.int layout_known, .int layout_lines, .int layout_passTaken, .int layout_extraStretch, .long layout_demeritSum, .ref a_layout_starts, .ref a_layout_ends]))]) [0, 9] (by decide) rfl
  have hKc := hK.sub (tys' := []) [] rfl
  rcases u1 with k9 | u1w
  · have h := om_cl rfl h
    cases h
    exact om_passV (As := []) (rest := []) ⟨hx, hb, hml, hown, htsV⟩ (om_t_OL_requireLines l hl9 dC dI a_ol a_layout a_items a_ol_lineWidths a_ol_settings a_breaks a_ruler a_search a_layout_starts a_layout_ends s.heap.size layout_known layout_lines layout_passTaken layout_extraStretch layout_demeritSum _ hu1) (cwV 0 htsV (om_gvV w_480 w_481 w_793 w_1 w_482) rfl rfl rfl (by decide +kernel) ⟨Nat.le_of_ble_eq_true rfl, Nat.le_of_ble_eq_true rfl⟩) ⟨fun a U g mk q => by obtain ⟨q0, q1, qP, qK, qD, qZ⟩ := q; exact ⟨q0, q1, qP, va_K.moved (u := U) (U := U.calling g mk a) (Vm.Alike.refl U.vm) qK, qD, om_Z.same (U := U) (V := U.calling g mk a) rfl rfl qZ⟩, va_recv hKc hPc (ci := 0) (q0 := 0) rfl rfl, fun U hU hW => ⟨rfl, by rw [hU], by rw [hU]; exact hPc, va_K.moved hW.alike hKc, hDc, om_Z.step hW hZ hS hU (fun q hq => Nat.le_trans hHH.1 hq)⟩⟩ rfl hl.1 rfl (lv_room (Nat.le_of_ble_eq_true rfl)) dOL_line_1 ⟨Nat.le_of_ble_eq_true rfl, Nat.le_of_ble_eq_true rfl⟩ hEx hlocks hHH (fun q hq => Nat.le_trans hHH.1 hq) (Nat.le_of_ble_eq_true rfl) (Nat.le_of_ble_eq_true rfl)
  have h := om_cr rfl h
  refine va_callv (va_runV (As := []) (rest := []) ⟨hx, hb, hml, hown, hts⟩ (om_p_OL_requireLines l dC dI a_ol a_layout a_items a_ol_lineWidths a_ol_settings a_breaks a_ruler a_search a_layout_starts a_layout_ends s.heap.size layout_known layout_lines layout_passTaken layout_extraStretch layout_demeritSum u1w hu1) (cwV 0 hts (om_gv w_480 w_481 w_793 w_1 w_482) rfl rfl rfl (by decide +kernel) ⟨Nat.le_of_ble_eq_true rfl, Nat.le_of_ble_eq_true rfl⟩) ⟨fun a U g mk q => by obtain ⟨q0, q1, qP, qK, qD⟩ := q; exact ⟨q0, q1, qP, va_K.moved (u := U) (U := U.calling g mk a) (Vm.Alike.refl U.vm) qK, qD⟩, va_recv hKc hPc (ci := 0) (q0 := 0) rfl rfl, fun U hU hW => ⟨rfl, by rw [hU], by rw [hU]; exact hPc, va_K.moved hW.alike hKc, hDc⟩⟩ rfl rfl hl.1 rfl (lv_room (Nat.le_of_ble_eq_true rfl)) dOL_line_1 ⟨Nat.le_of_ble_eq_true rfl, Nat.le_of_ble_eq_true rfl⟩) hS (fun q _ hq => Nat.le_trans hHH.1 (om_nA hq)) (fun q hq => Nat.le_trans hHH.1 (om_nA hq)) (fun uz t H1 locs ht hvm hw hB hz1 hk1 hS => ?_)
  have hH1 : om_H s.heap H1 := ⟨hz1, fun q hq => hk1 q hq (fun z => Nat.not_le.mpr hq (om_nA z))⟩
  have hP : va_P (dC, dI) vwCl [(a_ol, .inr (0, [.ref a_items, .ref a_ol_lineWidths, .ref a_ol_settings, .ref a_breaks, .ref a_ruler, .ref a_search, .ref a_layout])), (a_ol_lineWidths, .inl (c_ol_lineWidths, 41, .inl ol_lineWidths)), (a_items, .inr (1, [.int items_count, .ref a_items_kinds, .ref a_items_penaltyWidths, .ref a_items_costs, .ref a_items_flags, .ref a_items_widthBefore, .ref a_items_stretchBefore, .ref a_items_shrinkBefore, .ref a_items_fillBefore])), (a_items_penaltyWidths, .inl (c_items_penaltyWidths, 400, .inl items_penaltyWidths)), (a_items_widthBefore, .inl (c_items_widthBefore, 401, .inl items_widthBefore)), (a_items_stretchBefore, .inl (c_items_stretchBefore, 401, .inl items_stretchBefore)), (a_items_shrinkBefore, .inl (c_items_shrinkBefore, 401, .inl items_shrinkBefore)), (a_items_fillBefore, .inl (c_items_fillBefore, 401, .inl items_fillBefore)), (a_ruler, .inr (3, [.ref a_items, .int ruler_start, .int ruler_stretch, .int ruler_shrink, .int ruler_fill, .int ruler_excess])), (a_layout, .inr (6, [.int layout_known, .int layout_lines, .int layout_passTaken, .int layout_extraStretch, .long layout_demeritSum, .ref a_layout_starts, .ref a_layout_ends])), (a_layout_starts, .inl (c_layout_starts, 401, .inl layout_starts)), (a_layout_ends, .inl (c_layout_ends, 401, .inl layout_ends))] H1 := hP.kept (fun k q hq => hH1.2 q.1 (hP k q hq).lt)
  have hHH := hHH.tr hH1
  refine va_forget (fun q hq => hS.2.2 q hq) ?_
  have hS : va_S (fun q => s.heap.size ≤ q) s.heap H1 [] := ⟨hS.1, hS.2.1, fun l h => by cases h⟩
  clear hH1 hk1 hz1 hB ht
  generalize H1 = H at hP hS hHH ⊢
  refine W.widen (k := 0) (n := 0) (Nat.le_of_ble_eq_true rfl) (Nat.le_of_ble_eq_true rfl) ?_
  refine lv_iload_n hx hb dOL_line_4 rfl (lv_at hl 1 rfl) ?_
  refine lv_aload_n hx hb dOL_line_5 rfl (lv_at hl 0 rfl) ?_
  refine va_get (D := (dC, dI)) (ci := 0) (v := .ref a_layout) (C := ROL) (T := TOL) (N := 7) hx hb hts (fun w h => om_m (inOL w h)) hown hK hP 0 rfl rfl 6 (by decide) (hts _ (om_m w_192)) (fun _ h9 => h9) rfl dOL_line_6 ?_
  refine va_get (D := (dC, dI)) (ci := 6) (v := .int layout_lines) (C := RLayout) (T := TLayout) (N := 7) hx hb hts (fun w h => om_m (inLayout w h)) hown hK hP 9 rfl rfl 1 (by decide) (hts _ (om_m w_168)) (fun _ h9 => h9) rfl dOL_line_9 ?_
  obtain ⟨u2, hu2, h⟩ := om_b h
  have hPc := hP.sub (ws' := []) [] rfl
  have hDc := hD.sub (ws' := []) [] (by decide) rfl
  have hKc := hK.sub (tys' := []) [] rfl
  rcases u2 with k9 | u2w
  · have h := om_cl rfl h
    cases h
    exact om_passS (As := [.int x1, .int layout_lines]) (rest := []) ⟨hx, hb, hml, hown, htsV⟩ (om_t_OL_requireIndex l hl9 dC dI H.size x1 layout_lines _ hu2) (va_cwS 2 htsV (om_gsV w_496 w_497 w_1 w_498) rfl rfl rfl (by decide +kernel) ⟨Nat.le_of_ble_eq_true rfl, Nat.le_of_ble_eq_true rfl⟩) ⟨fun a U g mk q => by obtain ⟨q0, q1, qP, qK, qD, qZ⟩ := q; exact ⟨q0, q1, qP, va_K.moved (u := U) (U := U.calling g mk a) (Vm.Alike.refl U.vm) qK, qD, om_Z.same (U := U) (V := U.calling g mk a) rfl rfl qZ⟩, fun U hU hW => ⟨rfl, by rw [hU], by rw [hU]; exact hPc, va_K.moved hW.alike hKc, hDc, om_Z.step hW hZ hS hU (fun q hq => Nat.le_trans hHH.1 hq)⟩⟩ rfl hl.1 rfl (lv_room (Nat.le_of_ble_eq_true rfl)) dOL_line_12 ⟨Nat.le_of_ble_eq_true rfl, Nat.le_of_ble_eq_true rfl⟩ hEx hlocks hHH (fun q hq => Nat.le_trans hHH.1 hq) (Nat.le_of_ble_eq_true rfl) (Nat.le_of_ble_eq_true rfl)
  have h := om_cr rfl h
  refine va_callv (va_runS (As := [.int x1, .int layout_lines]) (rest := []) ⟨hx, hb, hml, hown, hts⟩ (om_k_OL_requireIndex l dC dI H.size x1 layout_lines u2w hu2) (va_cwS 2 hts (om_gs w_496 w_497 w_1 w_498) rfl rfl rfl (by decide +kernel) ⟨Nat.le_of_ble_eq_true rfl, Nat.le_of_ble_eq_true rfl⟩) ⟨fun a U g mk q => by obtain ⟨q0, q1, qP, qK, qD⟩ := q; exact ⟨q0, q1, qP, va_K.moved (u := U) (U := U.calling g mk a) (Vm.Alike.refl U.vm) qK, qD⟩, fun U hU hW => ⟨rfl, by rw [hU], by rw [hU]; exact hPc, va_K.moved hW.alike hKc, hDc⟩⟩ rfl rfl hl.1 rfl (lv_room (Nat.le_of_ble_eq_true rfl)) dOL_line_12 ⟨Nat.le_of_ble_eq_true rfl, Nat.le_of_ble_eq_true rfl⟩) hS (fun q _ hq => Nat.le_trans hHH.1 (om_nA hq)) (fun q hq => Nat.le_trans hHH.1 (om_nA hq)) (fun uz t H1 locs ht hvm hw hB hz1 hk1 hS => ?_)
  have hH1 : om_H H H1 := ⟨hz1, fun q hq => hk1 q hq (fun z => Nat.not_le.mpr hq (om_nA z))⟩
  have hP : va_P (dC, dI) vwCl [(a_ol, .inr (0, [.ref a_items, .ref a_ol_lineWidths, .ref a_ol_settings, .ref a_breaks, .ref a_ruler, .ref a_search, .ref a_layout])), (a_ol_lineWidths, .inl (c_ol_lineWidths, 41, .inl ol_lineWidths)), (a_items, .inr (1, [.int items_count, .ref a_items_kinds, .ref a_items_penaltyWidths, .ref a_items_costs, .ref a_items_flags, .ref a_items_widthBefore, .ref a_items_stretchBefore, .ref a_items_shrinkBefore, .ref a_items_fillBefore])), (a_items_penaltyWidths, .inl (c_items_penaltyWidths, 400, .inl items_penaltyWidths)), (a_items_widthBefore, .inl (c_items_widthBefore, 401, .inl items_widthBefore)), (a_items_stretchBefore, .inl (c_items_stretchBefore, 401, .inl items_stretchBefore)), (a_items_shrinkBefore, .inl (c_items_shrinkBefore, 401, .inl items_shrinkBefore)), (a_items_fillBefore, .inl (c_items_fillBefore, 401, .inl items_fillBefore)), (a_ruler, .inr (3, [.ref a_items, .int ruler_start, .int ruler_stretch, .int ruler_shrink, .int ruler_fill, .int ruler_excess])), (a_layout, .inr (6, [.int layout_known, .int layout_lines, .int layout_passTaken, .int layout_extraStretch, .long layout_demeritSum, .ref a_layout_starts, .ref a_layout_ends])), (a_layout_starts, .inl (c_layout_starts, 401, .inl layout_starts)), (a_layout_ends, .inl (c_layout_ends, 401, .inl layout_ends))] H1 := hP.kept (fun k q hq => hH1.2 q.1 (hP k q hq).lt)
  have hHH := hHH.tr hH1
  refine va_forget (fun q hq => hS.2.2 q hq) ?_
  have hS : va_S (fun q => s.heap.size ≤ q) s.heap H1 [] := ⟨hS.1, hS.2.1, fun l h => by cases h⟩
  clear hH1 hk1 hz1 hB ht
  generalize H1 = H at hP hS hHH ⊢
  refine W.widen (k := 0) (n := 0) (Nat.le_of_ble_eq_true rfl) (Nat.le_of_ble_eq_true rfl) ?_
  refine lv_iload_n hx hb dOL_line_15 rfl (lv_at hl 2 rfl) ?_
  refine lv_iconst (v := 5) hx hb dOL_line_16 (by decide) ?_
  obtain ⟨u3, hu3, h⟩ := om_b h
  have hPc := hP.sub (ws' := []) [] rfl
  have hDc := hD.sub (ws' := []) [] (by decide) rfl
  have hKc := hK.sub (tys' := []) [] rfl
  rcases u3 with k9 | u3w
  · have h := om_cl rfl h
    cases h
    exact om_passS (As := [.int x2, .int 5]) (rest := []) ⟨hx, hb, hml, hown, htsV⟩ (om_t_OL_requireIndex l hl9 dC dI H.size x2 5 _ hu3) (va_cwS 2 htsV (om_gsV w_496 w_497 w_1 w_498) rfl rfl rfl (by decide +kernel) ⟨Nat.le_of_ble_eq_true rfl, Nat.le_of_ble_eq_true rfl⟩) ⟨fun a U g mk q => by obtain ⟨q0, q1, qP, qK, qD, qZ⟩ := q; exact ⟨q0, q1, qP, va_K.moved (u := U) (U := U.calling g mk a) (Vm.Alike.refl U.vm) qK, qD, om_Z.same (U := U) (V := U.calling g mk a) rfl rfl qZ⟩, fun U hU hW => ⟨rfl, by rw [hU], by rw [hU]; exact hPc, va_K.moved hW.alike hKc, hDc, om_Z.step hW hZ hS hU (fun q hq => Nat.le_trans hHH.1 hq)⟩⟩ rfl hl.1 rfl (lv_room (Nat.le_of_ble_eq_true rfl)) dOL_line_17 ⟨Nat.le_of_ble_eq_true rfl, Nat.le_of_ble_eq_true rfl⟩ hEx hlocks hHH (fun q hq => Nat.le_trans hHH.1 hq) (Nat.le_of_ble_eq_true rfl) (Nat.le_of_ble_eq_true rfl)
  have h := om_cr rfl h
  refine va_callv (va_runS (As := [.int x2, .int 5]) (rest := []) ⟨hx, hb, hml, hown, hts⟩ (om_k_OL_requireIndex l dC dI H.size x2 5 u3w hu3) (va_cwS 2 hts (om_gs w_496 w_497 w_1 w_498) rfl rfl rfl (by decide +kernel) ⟨Nat.le_of_ble_eq_true rfl, Nat.le_of_ble_eq_true rfl⟩) ⟨fun a U g mk q => by obtain ⟨q0, q1, qP, qK, qD⟩ := q; exact ⟨q0, q1, qP, va_K.moved (u := U) (U := U.calling g mk a) (Vm.Alike.refl U.vm) qK, qD⟩, fun U hU hW => ⟨rfl, by rw [hU], by rw [hU]; exact hPc, va_K.moved hW.alike hKc, hDc⟩⟩ rfl rfl hl.1 rfl (lv_room (Nat.le_of_ble_eq_true rfl)) dOL_line_17 ⟨Nat.le_of_ble_eq_true rfl, Nat.le_of_ble_eq_true rfl⟩) hS (fun q _ hq => Nat.le_trans hHH.1 (om_nA hq)) (fun q hq => Nat.le_trans hHH.1 (om_nA hq)) (fun uz t H1 locs ht hvm hw hB hz1 hk1 hS => ?_)
  have hH1 : om_H H H1 := ⟨hz1, fun q hq => hk1 q hq (fun z => Nat.not_le.mpr hq (om_nA z))⟩
  have hP : va_P (dC, dI) vwCl [(a_ol, .inr (0, [.ref a_items, .ref a_ol_lineWidths, .ref a_ol_settings, .ref a_breaks, .ref a_ruler, .ref a_search, .ref a_layout])), (a_ol_lineWidths, .inl (c_ol_lineWidths, 41, .inl ol_lineWidths)), (a_items, .inr (1, [.int items_count, .ref a_items_kinds, .ref a_items_penaltyWidths, .ref a_items_costs, .ref a_items_flags, .ref a_items_widthBefore, .ref a_items_stretchBefore, .ref a_items_shrinkBefore, .ref a_items_fillBefore])), (a_items_penaltyWidths, .inl (c_items_penaltyWidths, 400, .inl items_penaltyWidths)), (a_items_widthBefore, .inl (c_items_widthBefore, 401, .inl items_widthBefore)), (a_items_stretchBefore, .inl (c_items_stretchBefore, 401, .inl items_stretchBefore)), (a_items_shrinkBefore, .inl (c_items_shrinkBefore, 401, .inl items_shrinkBefore)), (a_items_fillBefore, .inl (c_items_fillBefore, 401, .inl items_fillBefore)), (a_ruler, .inr (3, [.ref a_items, .int ruler_start, .int ruler_stretch, .int ruler_shrink, .int ruler_fill, .int ruler_excess])), (a_layout, .inr (6, [.int layout_known, .int layout_lines, .int layout_passTaken, .int layout_extraStretch, .long layout_demeritSum, .ref a_layout_starts, .ref a_layout_ends])), (a_layout_starts, .inl (c_layout_starts, 401, .inl layout_starts)), (a_layout_ends, .inl (c_layout_ends, 401, .inl layout_ends))] H1 := hP.kept (fun k q hq => hH1.2 q.1 (hP k q hq).lt)
  have hHH := hHH.tr hH1
  refine va_forget (fun q hq => hS.2.2 q hq) ?_
  have hS : va_S (fun q => s.heap.size ≤ q) s.heap H1 [] := ⟨hS.1, hS.2.1, fun l h => by cases h⟩
  clear hH1 hk1 hz1 hB ht
  generalize H1 = H at hP hS hHH ⊢
  refine W.widen (k := 0) (n := 0) (Nat.le_of_ble_eq_true rfl) (Nat.le_of_ble_eq_true rfl) ?_
  exact absurd h om_rn
set_option maxHeartbeats 4000000 in
set_option maxRecDepth 100000 in
theorem om_t_OL_over (l : Launch) (hl9 : l.stackTraces = false) (dC : Nat → ClassId) (dI : Nat → Nat → Nat) (a_ol : Nat) (a_ol_lineWidths : Nat) (a_items : Nat) (a_items_penaltyWidths : Nat) (a_items_widthBefore : Nat) (a_items_stretchBefore : Nat) (a_items_shrinkBefore : Nat) (a_items_fillBefore : Nat) (a_ruler : Nat) (a_layout : Nat) (a_layout_starts : Nat) (a_layout_ends : Nat) (a_ol_settings : Nat) (a_breaks : Nat) (a_search : Nat) (a_items_kinds : Nat) (a_items_costs : Nat) (a_items_flags : Nat) (c_ol_lineWidths : ClassId) (c_items_penaltyWidths : ClassId) (c_items_widthBefore : ClassId) (c_items_stretchBefore : ClassId) (c_items_shrinkBefore : ClassId) (c_items_fillBefore : ClassId) (c_layout_starts : ClassId) (c_layout_ends : ClassId)  (sz : Nat) (ol_lineWidths : (Nat → Int32)) (items_count : Int32) (items_penaltyWidths : (Nat → Int32)) (items_widthBefore : (Nat → Int32)) (items_stretchBefore : (Nat → Int32)) (items_shrinkBefore : (Nat → Int32)) (items_fillBefore : (Nat → Int32)) (ruler_start : Int32) (ruler_stretch : Int32) (ruler_shrink : Int32) (ruler_fill : Int32) (ruler_excess : Int32) (layout_known : Int32) (layout_lines : Int32) (layout_passTaken : Int32) (layout_extraStretch : Int32) (layout_demeritSum : Int64) (layout_starts : (Nat → Int32)) (layout_ends : (Nat → Int32))  (n : Nat) (k : Nat) (h : om_f_OL_over n ol_lineWidths items_count items_penaltyWidths items_widthBefore items_stretchBefore items_shrinkBefore items_fillBefore ruler_start ruler_stretch ruler_shrink ruler_fill ruler_excess layout_known layout_lines layout_starts layout_ends = some (.inl k)) : om_T l yOL_over (Cond.code yOL_over cOL_over 3 (some .int) :: om_V) ({ frames := 7, cells := 1, slots := 6, locals := 102 }) (va_Pc [.ref a_ol] (fun U => U.heap.size = sz ∧ va_P (dC, dI) vwCl [(a_ol, .inr (0, [.ref a_items, .ref a_ol_lineWidths, .ref a_ol_settings, .ref a_breaks, .ref a_ruler, .ref a_search, .ref a_layout])), (a_ol_lineWidths, .inl (c_ol_lineWidths, 41, .inl ol_lineWidths)), (a_items, .inr (1, [.int items_count, .ref a_items_kinds, .ref a_items_penaltyWidths, .ref a_items_costs, .ref a_items_flags, .ref a_items_widthBefore, .ref a_items_stretchBefore, .ref a_items_shrinkBefore, .ref a_items_fillBefore])), (a_items_penaltyWidths, .inl (c_items_penaltyWidths, 400, .inl items_penaltyWidths)), (a_items_widthBefore, .inl (c_items_widthBefore, 401, .inl items_widthBefore)), (a_items_stretchBefore, .inl (c_items_stretchBefore, 401, .inl items_stretchBefore)), (a_items_shrinkBefore, .inl (c_items_shrinkBefore, 401, .inl items_shrinkBefore)), (a_items_fillBefore, .inl (c_items_fillBefore, 401, .inl items_fillBefore)), (a_ruler, .inr (3, [.ref a_items, .int ruler_start, .int ruler_stretch, .int ruler_shrink, .int ruler_fill, .int ruler_excess])), (a_layout, .inr (6, [.int layout_known, .int layout_lines, .int layout_passTaken, .int layout_extraStretch, .long layout_demeritSum, .ref a_layout_starts, .ref a_layout_ends])), (a_layout_starts, .inl (c_layout_starts, 401, .inl layout_starts)), (a_layout_ends, .inl (c_layout_ends, 401, .inl layout_ends))] U.heap ∧ va_K (dC, dI) vwCl [(c_ol_lineWidths, .int), (c_items_penaltyWidths, .int), (c_items_widthBefore, .int), (c_items_stretchBefore, .int), (c_items_shrinkBefore, .int), (c_items_fillBefore, .int), (c_layout_starts, .int), (c_layout_ends, .int)] U ∧ va_D (fun _ => True) [(a_ol, .inr (0, [.ref a_items, .ref a_ol_lineWidths, .ref a_ol_settings, .ref a_breaks, .ref a_ruler, .ref a_search, .ref a_layout])), (a_ol_lineWidths, .inl (c_ol_lineWidths, 41, .inl ol_lineWidths)), (a_items, .inr (1, [.int items_count, .ref a_items_kinds, .ref a_items_penaltyWidths, .ref a_items_costs, .ref a_items_flags, .ref a_items_widthBefore, .ref a_items_stretchBefore, .ref a_items_shrinkBefore, .ref a_items_fillBefore])), (a_items_penaltyWidths, .inl (c_items_penaltyWidths, 400, .inl items_penaltyWidths)), (a_items_widthBefore, .inl (c_items_widthBefore, 401, .inl items_widthBefore)), (a_items_stretchBefore, .inl (c_items_stretchBefore, 401, .inl items_stretchBefore)), (a_items_shrinkBefore, .inl (c_items_shrinkBefore, 401, .inl items_shrinkBefore)), (a_items_fillBefore, .inl (c_items_fillBefore, 401, .inl items_fillBefore)), (a_ruler, .inr (3, [.ref a_items, .int ruler_start, .int ruler_stretch, .int ruler_shrink, .int ruler_fill, .int ruler_excess])), (a_layout, .inr (6, [.int layout_known, .int layout_lines, .int layout_passTaken, .int layout_extraStretch, .long layout_demeritSum, .ref a_layout_starts, .ref a_layout_ends])), (a_layout_starts, .inl (c_layout_starts, 401, .inl layout_starts)), (a_layout_ends, .inl (c_layout_ends, 401, .inl layout_ends))] ∧ om_Z (fun q => sz ≤ q) U)) (om_E k) om_K 1 6 (fun q => sz ≤ q) := by
  refine om_T.ofW (cc := cOL_over) (maxL := 3) (ret := (some .int)) (by decide) rfl ?_
  intro p e s m args below meth c s₁ B hml hEx hv
  obtain ⟨rfl, hsz, hP, hK, hD, hZ⟩ := hv
  have hx := B.exec
  have hb := B.bytes
  have hr := B.returns
  have htsV := atoms_spec (ws := (Cond.code yOL_over cOL_over 3 (some .int) :: om_V)) B.pre
  have hts : ∀ w ∈ wsOL_over, w.before _ s = true := fun w h => htsV w (om_WV w h)
  subst hsz
  have hS : va_S (fun q => s.heap.size ≤ q) s.heap s.heap [] := va_S.rf
  have hHH : om_H s.heap s.heap := om_H.rf
  have hown : s.vm.findClass ROL = some m.cls := findClass_of_methodNamed B.named
  have hlocks := B.notSynchronized
  have hP : va_P (dC, dI) vwCl [(a_ol, .inr (0, [.ref a_items, .ref a_ol_lineWidths, .ref a_ol_settings, .ref a_breaks, .ref a_ruler, .ref a_search, .ref a_layout])), (a_ol_lineWidths, .inl (c_ol_lineWidths, 41, .inl ol_lineWidths)), (a_items, .inr (1, [.int items_count, .ref a_items_kinds, .ref a_items_penaltyWidths, .ref a_items_costs, .ref a_items_flags, .ref a_items_widthBefore, .ref a_items_stretchBefore, .ref a_items_shrinkBefore, .ref a_items_fillBefore])), (a_items_penaltyWidths, .inl (c_items_penaltyWidths, 400, .inl items_penaltyWidths)), (a_items_widthBefore, .inl (c_items_widthBefore, 401, .inl items_widthBefore)), (a_items_stretchBefore, .inl (c_items_stretchBefore, 401, .inl items_stretchBefore)), (a_items_shrinkBefore, .inl (c_items_shrinkBefore, 401, .inl items_shrinkBefore)), (a_items_fillBefore, .inl (c_items_fillBefore, 401, .inl items_fillBefore)), (a_ruler, .inr (3, [.ref a_items, .int ruler_start, .int ruler_stretch, .int ruler_shrink, .int ruler_fill, .int ruler_excess])), (a_layout, .inr (6, [.int layout_known, .int layout_lines, .int layout_passTaken, .int layout_extraStretch, .long layout_demeritSum, .ref a_layout_starts, .ref a_layout_ends])), (a_layout_starts, .inl (c_layout_starts, 401, .inl layout_starts)), (a_layout_ends, .inl (c_layout_ends, 401, .inl layout_ends))] s.heap := hP
  have hl := lv_entry ([.ref a_ol]) (n := 3) (Nat.le_of_ble_eq_true rfl)
  rw [lg_entry_eq]
  generalize (lg_sl ([.ref a_ol]) ++ List.replicate (3 - (lg_sl ([.ref a_ol])).length) Slot.unset).toArray = ls at hl ⊢
  have hl : lv_has ls 3 [(0, .ref a_ol)] := hl
  unfold om_f_OL_over at h
  refine lv_aload_n hx hb dOL_over_0 rfl (lv_at hl 0 rfl) ?_
  obtain ⟨u1, hu1, h⟩ := om_b h
  have hPc := hP.sub (ws' := [(a_ol, .inr (0, [.ref a_items, .ref a_ol_lineWidths, .ref a_ol_settings, .ref a_breaks, .ref a_ruler, .ref a_search, .ref a_layout])), (a_layout, .inr (6, [.int layout_known, .int layout_lines, .int layout_passTaken, .int layout_extraStretch, .long layout_demeritSum, .ref a_layout_starts, .ref a_layout_ends]))]) [0, 9] rfl
  have hDc := hD.sub (ws' := [(a_ol, .inr (0, [.ref a_items, .ref a_ol_lineWidths, .ref a_ol_settings, .ref a_breaks, .ref a_ruler, .ref a_search, .ref a_layout])), (a_layout, .inr (6, [.int layout_known, .int layout_lines, .int layout_passTaken, .int layout_extraStretch, .long layout_demeritSum, .ref a_layout_starts, .ref a_layout_ends]))]) [0, 9] (by decide) rfl
  have hKc := hK.sub (tys' := []) [] rfl
  rcases u1 with k9 | u1w
  · have h := om_cl rfl h
    cases h
    exact om_passV (As := []) (rest := []) ⟨hx, hb, hml, hown, htsV⟩ (om_t_OL_requireLines l hl9 dC dI a_ol a_layout a_items a_ol_lineWidths a_ol_settings a_breaks a_ruler a_search a_layout_starts a_layout_ends s.heap.size layout_known layout_lines layout_passTaken layout_extraStretch layout_demeritSum _ hu1) (cwV 0 htsV (om_gvV w_480 w_481 w_793 w_1 w_482) rfl rfl rfl (by decide +kernel) ⟨Nat.le_of_ble_eq_true rfl, Nat.le_of_ble_eq_true rfl⟩) ⟨fun a U g mk q => by obtain ⟨q0, q1, qP, qK, qD, qZ⟩ := q; exact ⟨q0, q1, qP, va_K.moved (u := U) (U := U.calling g mk a) (Vm.Alike.refl U.vm) qK, qD, om_Z.same (U := U) (V := U.calling g mk a) rfl rfl qZ⟩, va_recv hKc hPc (ci := 0) (q0 := 0) rfl rfl, fun U hU hW => ⟨rfl, by rw [hU], by rw [hU]; exact hPc, va_K.moved hW.alike hKc, hDc, om_Z.step hW hZ hS hU (fun q hq => Nat.le_trans hHH.1 hq)⟩⟩ rfl hl.1 rfl (lv_room (Nat.le_of_ble_eq_true rfl)) dOL_over_1 ⟨Nat.le_of_ble_eq_true rfl, Nat.le_of_ble_eq_true rfl⟩ hEx hlocks hHH (fun q hq => Nat.le_trans hHH.1 hq) (Nat.le_of_ble_eq_true rfl) (Nat.le_of_ble_eq_true rfl)
  have h := om_cr rfl h
  refine va_callv (va_runV (As := []) (rest := []) ⟨hx, hb, hml, hown, hts⟩ (om_p_OL_requireLines l dC dI a_ol a_layout a_items a_ol_lineWidths a_ol_settings a_breaks a_ruler a_search a_layout_starts a_layout_ends s.heap.size layout_known layout_lines layout_passTaken layout_extraStretch layout_demeritSum u1w hu1) (cwV 0 hts (om_gv w_480 w_481 w_793 w_1 w_482) rfl rfl rfl (by decide +kernel) ⟨Nat.le_of_ble_eq_true rfl, Nat.le_of_ble_eq_true rfl⟩) ⟨fun a U g mk q => by obtain ⟨q0, q1, qP, qK, qD⟩ := q; exact ⟨q0, q1, qP, va_K.moved (u := U) (U := U.calling g mk a) (Vm.Alike.refl U.vm) qK, qD⟩, va_recv hKc hPc (ci := 0) (q0 := 0) rfl rfl, fun U hU hW => ⟨rfl, by rw [hU], by rw [hU]; exact hPc, va_K.moved hW.alike hKc, hDc⟩⟩ rfl rfl hl.1 rfl (lv_room (Nat.le_of_ble_eq_true rfl)) dOL_over_1 ⟨Nat.le_of_ble_eq_true rfl, Nat.le_of_ble_eq_true rfl⟩) hS (fun q _ hq => Nat.le_trans hHH.1 (om_nA hq)) (fun q hq => Nat.le_trans hHH.1 (om_nA hq)) (fun uz t H1 locs ht hvm hw hB hz1 hk1 hS => ?_)
  have hH1 : om_H s.heap H1 := ⟨hz1, fun q hq => hk1 q hq (fun z => Nat.not_le.mpr hq (om_nA z))⟩
  have hP : va_P (dC, dI) vwCl [(a_ol, .inr (0, [.ref a_items, .ref a_ol_lineWidths, .ref a_ol_settings, .ref a_breaks, .ref a_ruler, .ref a_search, .ref a_layout])), (a_ol_lineWidths, .inl (c_ol_lineWidths, 41, .inl ol_lineWidths)), (a_items, .inr (1, [.int items_count, .ref a_items_kinds, .ref a_items_penaltyWidths, .ref a_items_costs, .ref a_items_flags, .ref a_items_widthBefore, .ref a_items_stretchBefore, .ref a_items_shrinkBefore, .ref a_items_fillBefore])), (a_items_penaltyWidths, .inl (c_items_penaltyWidths, 400, .inl items_penaltyWidths)), (a_items_widthBefore, .inl (c_items_widthBefore, 401, .inl items_widthBefore)), (a_items_stretchBefore, .inl (c_items_stretchBefore, 401, .inl items_stretchBefore)), (a_items_shrinkBefore, .inl (c_items_shrinkBefore, 401, .inl items_shrinkBefore)), (a_items_fillBefore, .inl (c_items_fillBefore, 401, .inl items_fillBefore)), (a_ruler, .inr (3, [.ref a_items, .int ruler_start, .int ruler_stretch, .int ruler_shrink, .int ruler_fill, .int ruler_excess])), (a_layout, .inr (6, [.int layout_known, .int layout_lines, .int layout_passTaken, .int layout_extraStretch, .long layout_demeritSum, .ref a_layout_starts, .ref a_layout_ends])), (a_layout_starts, .inl (c_layout_starts, 401, .inl layout_starts)), (a_layout_ends, .inl (c_layout_ends, 401, .inl layout_ends))] H1 := hP.kept (fun k q hq => hH1.2 q.1 (hP k q hq).lt)
  have hHH := hHH.tr hH1
  refine va_forget (fun q hq => hS.2.2 q hq) ?_
  have hS : va_S (fun q => s.heap.size ≤ q) s.heap H1 [] := ⟨hS.1, hS.2.1, fun l h => by cases h⟩
  clear hH1 hk1 hz1 hB ht
  generalize H1 = H at hP hS hHH ⊢
  refine W.widen (k := 0) (n := 0) (Nat.le_of_ble_eq_true rfl) (Nat.le_of_ble_eq_true rfl) ?_
  exact absurd h om_rn
set_option maxHeartbeats 4000000 in
set_option maxRecDepth 100000 in
theorem om_t_OL_lineOf (l : Launch) (hl9 : l.stackTraces = false) (dC : Nat → ClassId) (dI : Nat → Nat → Nat) (a_ol : Nat) (a_items : Nat) (a_layout : Nat) (a_layout_starts : Nat) (a_layout_ends : Nat) (a_ol_lineWidths : Nat) (a_ol_settings : Nat) (a_breaks : Nat) (a_ruler : Nat) (a_search : Nat) (a_items_kinds : Nat) (a_items_penaltyWidths : Nat) (a_items_costs : Nat) (a_items_flags : Nat) (a_items_widthBefore : Nat) (a_items_stretchBefore : Nat) (a_items_shrinkBefore : Nat) (a_items_fillBefore : Nat) (c_layout_starts : ClassId) (c_layout_ends : ClassId)  (sz : Nat) (items_count : Int32) (layout_known : Int32) (layout_lines : Int32) (layout_passTaken : Int32) (layout_extraStretch : Int32) (layout_demeritSum : Int64) (layout_starts : (Nat → Int32)) (layout_ends : (Nat → Int32)) (x1 : Int32) (n : Nat) (k : Nat) (h : om_f_OL_lineOf n items_count layout_known layout_lines layout_starts layout_ends x1 = some (.inl k)) : om_T l yOL_lineOf (Cond.code yOL_lineOf cOL_lineOf 2 (some .int) :: om_V) ({ frames := 7, cells := 1, slots := 6, locals := 103 }) (va_Pc [.ref a_ol, .int x1] (fun U => U.heap.size = sz ∧ va_P (dC, dI) vwCl [(a_ol, .inr (0, [.ref a_items, .ref a_ol_lineWidths, .ref a_ol_settings, .ref a_breaks, .ref a_ruler, .ref a_search, .ref a_layout])), (a_items, .inr (1, [.int items_count, .ref a_items_kinds, .ref a_items_penaltyWidths, .ref a_items_costs, .ref a_items_flags, .ref a_items_widthBefore, .ref a_items_stretchBefore, .ref a_items_shrinkBefore, .ref a_items_fillBefore])), (a_layout, .inr (6, [.int layout_known, .int layout_lines, .int layout_passTaken, .int layout_extraStretch, .long layout_demeritSum, .ref a_layout_starts, .ref a_layout_ends])), (a_layout_starts, .inl (c_layout_starts, 401, .inl layout_starts)), (a_layout_ends, .inl (c_layout_ends, 401, .inl layout_ends))] U.heap ∧ va_K (dC, dI) vwCl [(c_layout_starts, .int), (c_layout_ends, .int)] U ∧ va_D (fun _ => True) [(a_ol, .inr (0, [.ref a_items, .ref a_ol_lineWidths, .ref a_ol_settings, .ref a_breaks, .ref a_ruler, .ref a_search, .ref a_layout])), (a_items, .inr (1, [.int items_count, .ref a_items_kinds, .ref a_items_penaltyWidths, .ref a_items_costs, .ref a_items_flags, .ref a_items_widthBefore, .ref a_items_stretchBefore, .ref a_items_shrinkBefore, .ref a_items_fillBefore])), (a_layout, .inr (6, [.int layout_known, .int layout_lines, .int layout_passTaken, .int layout_extraStretch, .long layout_demeritSum, .ref a_layout_starts, .ref a_layout_ends])), (a_layout_starts, .inl (c_layout_starts, 401, .inl layout_starts)), (a_layout_ends, .inl (c_layout_ends, 401, .inl layout_ends))] ∧ om_Z (fun q => sz ≤ q) U)) (om_E k) om_K 1 6 (fun q => sz ≤ q) := by
  refine om_T.ofW (cc := cOL_lineOf) (maxL := 2) (ret := (some .int)) (by decide) rfl ?_
  intro p e s m args below meth c s₁ B hml hEx hv
  obtain ⟨rfl, hsz, hP, hK, hD, hZ⟩ := hv
  have hx := B.exec
  have hb := B.bytes
  have hr := B.returns
  have htsV := atoms_spec (ws := (Cond.code yOL_lineOf cOL_lineOf 2 (some .int) :: om_V)) B.pre
  have hts : ∀ w ∈ wsOL_lineOf, w.before _ s = true := fun w h => htsV w (om_WV w h)
  subst hsz
  have hS : va_S (fun q => s.heap.size ≤ q) s.heap s.heap [] := va_S.rf
  have hHH : om_H s.heap s.heap := om_H.rf
  have hown : s.vm.findClass ROL = some m.cls := findClass_of_methodNamed B.named
  have hlocks := B.notSynchronized
  have hP : va_P (dC, dI) vwCl [(a_ol, .inr (0, [.ref a_items, .ref a_ol_lineWidths, .ref a_ol_settings, .ref a_breaks, .ref a_ruler, .ref a_search, .ref a_layout])), (a_items, .inr (1, [.int items_count, .ref a_items_kinds, .ref a_items_penaltyWidths, .ref a_items_costs, .ref a_items_flags, .ref a_items_widthBefore, .ref a_items_stretchBefore, .ref a_items_shrinkBefore, .ref a_items_fillBefore])), (a_layout, .inr (6, [.int layout_known, .int layout_lines, .int layout_passTaken, .int layout_extraStretch, .long layout_demeritSum, .ref a_layout_starts, .ref a_layout_ends])), (a_layout_starts, .inl (c_layout_starts, 401, .inl layout_starts)), (a_layout_ends, .inl (c_layout_ends, 401, .inl layout_ends))] s.heap := hP
  have hl := lv_entry ([.ref a_ol, .int x1]) (n := 2) (Nat.le_of_ble_eq_true rfl)
  rw [lg_entry_eq]
  generalize (lg_sl ([.ref a_ol, .int x1]) ++ List.replicate (2 - (lg_sl ([.ref a_ol, .int x1])).length) Slot.unset).toArray = ls at hl ⊢
  have hl : lv_has ls 2 [(0, .ref a_ol), (1, .int x1)] := hl
  unfold om_f_OL_lineOf at h
  refine lv_aload_n hx hb dOL_lineOf_0 rfl (lv_at hl 0 rfl) ?_
  obtain ⟨u1, hu1, h⟩ := om_b h
  have hPc := hP.sub (ws' := [(a_ol, .inr (0, [.ref a_items, .ref a_ol_lineWidths, .ref a_ol_settings, .ref a_breaks, .ref a_ruler, .ref a_search, .ref a_layout])), (a_layout, .inr (6, [.int layout_known, .int layout_lines, .int layout_passTaken, .int layout_extraStretch, .long layout_demeritSum, .ref a_layout_starts, .ref a_layout_ends]))]) [0, 2] rfl
  have hDc := hD.sub (ws' := [(a_ol, .inr (0, [.ref a_items, .ref a_ol_lineWidths, .ref a_ol_settings, .ref a_breaks, .ref a_ruler, .ref a_search, .ref a_layout])), (a_layout, .inr (6, [.int layout_known, .int layout_lines, .int layout_passTaken, .int layout_extraStretch, .long layout_demeritSum, .ref a_layout_starts, .ref a_layout_ends]))]) [0, 2] (by decide) rfl
  have hKc := hK.sub (tys' := []) [] rfl
  rcases u1 with k9 | u1w
  · have h := om_cl rfl h
    cases h
    exact om_passV (As := []) (rest := []) ⟨hx, hb, hml, hown, htsV⟩ (om_t_OL_requireLines l hl9 dC dI a_ol a_layout a_items a_ol_lineWidths a_ol_settings a_breaks a_ruler a_search a_layout_starts a_layout_ends s.heap.size layout_known layout_lines layout_passTaken layout_extraStretch layout_demeritSum _ hu1) (cwV 0 htsV (om_gvV w_480 w_481 w_793 w_1 w_482) rfl rfl rfl (by decide +kernel) ⟨Nat.le_of_ble_eq_true rfl, Nat.le_of_ble_eq_true rfl⟩) ⟨fun a U g mk q => by obtain ⟨q0, q1, qP, qK, qD, qZ⟩ := q; exact ⟨q0, q1, qP, va_K.moved (u := U) (U := U.calling g mk a) (Vm.Alike.refl U.vm) qK, qD, om_Z.same (U := U) (V := U.calling g mk a) rfl rfl qZ⟩, va_recv hKc hPc (ci := 0) (q0 := 0) rfl rfl, fun U hU hW => ⟨rfl, by rw [hU], by rw [hU]; exact hPc, va_K.moved hW.alike hKc, hDc, om_Z.step hW hZ hS hU (fun q hq => Nat.le_trans hHH.1 hq)⟩⟩ rfl hl.1 rfl (lv_room (Nat.le_of_ble_eq_true rfl)) dOL_lineOf_1 ⟨Nat.le_of_ble_eq_true rfl, Nat.le_of_ble_eq_true rfl⟩ hEx hlocks hHH (fun q hq => Nat.le_trans hHH.1 hq) (Nat.le_of_ble_eq_true rfl) (Nat.le_of_ble_eq_true rfl)
  have h := om_cr rfl h
  refine va_callv (va_runV (As := []) (rest := []) ⟨hx, hb, hml, hown, hts⟩ (om_p_OL_requireLines l dC dI a_ol a_layout a_items a_ol_lineWidths a_ol_settings a_breaks a_ruler a_search a_layout_starts a_layout_ends s.heap.size layout_known layout_lines layout_passTaken layout_extraStretch layout_demeritSum u1w hu1) (cwV 0 hts (om_gv w_480 w_481 w_793 w_1 w_482) rfl rfl rfl (by decide +kernel) ⟨Nat.le_of_ble_eq_true rfl, Nat.le_of_ble_eq_true rfl⟩) ⟨fun a U g mk q => by obtain ⟨q0, q1, qP, qK, qD⟩ := q; exact ⟨q0, q1, qP, va_K.moved (u := U) (U := U.calling g mk a) (Vm.Alike.refl U.vm) qK, qD⟩, va_recv hKc hPc (ci := 0) (q0 := 0) rfl rfl, fun U hU hW => ⟨rfl, by rw [hU], by rw [hU]; exact hPc, va_K.moved hW.alike hKc, hDc⟩⟩ rfl rfl hl.1 rfl (lv_room (Nat.le_of_ble_eq_true rfl)) dOL_lineOf_1 ⟨Nat.le_of_ble_eq_true rfl, Nat.le_of_ble_eq_true rfl⟩) hS (fun q _ hq => Nat.le_trans hHH.1 (om_nA hq)) (fun q hq => Nat.le_trans hHH.1 (om_nA hq)) (fun uz t H1 locs ht hvm hw hB hz1 hk1 hS => ?_)
  have hH1 : om_H s.heap H1 := ⟨hz1, fun q hq => hk1 q hq (fun z => Nat.not_le.mpr hq (om_nA z))⟩
  have hP : va_P (dC, dI) vwCl [(a_ol, .inr (0, [.ref a_items, .ref a_ol_lineWidths, .ref a_ol_settings, .ref a_breaks, .ref a_ruler, .ref a_search, .ref a_layout])), (a_items, .inr (1, [.int items_count, .ref a_items_kinds, .ref a_items_penaltyWidths, .ref a_items_costs, .ref a_items_flags, .ref a_items_widthBefore, .ref a_items_stretchBefore, .ref a_items_shrinkBefore, .ref a_items_fillBefore])), (a_layout, .inr (6, [.int layout_known, .int layout_lines, .int layout_passTaken, .int layout_extraStretch, .long layout_demeritSum, .ref a_layout_starts, .ref a_layout_ends])), (a_layout_starts, .inl (c_layout_starts, 401, .inl layout_starts)), (a_layout_ends, .inl (c_layout_ends, 401, .inl layout_ends))] H1 := hP.kept (fun k q hq => hH1.2 q.1 (hP k q hq).lt)
  have hHH := hHH.tr hH1
  refine va_forget (fun q hq => hS.2.2 q hq) ?_
  have hS : va_S (fun q => s.heap.size ≤ q) s.heap H1 [] := ⟨hS.1, hS.2.1, fun l h => by cases h⟩
  clear hH1 hk1 hz1 hB ht
  generalize H1 = H at hP hS hHH ⊢
  refine W.widen (k := 0) (n := 0) (Nat.le_of_ble_eq_true rfl) (Nat.le_of_ble_eq_true rfl) ?_
  refine lv_iload_n hx hb dOL_lineOf_4 rfl (lv_at hl 1 rfl) ?_
  refine lv_aload_n hx hb dOL_lineOf_5 rfl (lv_at hl 0 rfl) ?_
  refine va_get (D := (dC, dI)) (ci := 0) (v := .ref a_items) (C := ROL) (T := TOL) (N := 7) hx hb hts (fun w h => om_m (inOL w h)) hown hK hP 0 rfl rfl 0 (by decide) (hts _ (om_m w_186)) (fun _ h9 => h9) rfl dOL_lineOf_6 ?_
  refine va_get (D := (dC, dI)) (ci := 1) (v := .int items_count) (C := RItems) (T := TItems) (N := 9) hx hb hts (fun w h => om_m (inItems w h)) hown hK hP 1 rfl rfl 0 (by decide) (hts _ (om_m w_33)) (fun _ h9 => h9) rfl dOL_lineOf_9 ?_
  obtain ⟨u2, hu2, h⟩ := om_b h
  have hPc := hP.sub (ws' := []) [] rfl
  have hDc := hD.sub (ws' := []) [] (by decide) rfl
  have hKc := hK.sub (tys' := []) [] rfl
  rcases u2 with k9 | u2w
  · have h := om_cl rfl h
    cases h
    exact om_passS (As := [.int x1, .int items_count]) (rest := []) ⟨hx, hb, hml, hown, htsV⟩ (om_t_OL_requireIndex l hl9 dC dI H.size x1 items_count _ hu2) (va_cwS 2 htsV (om_gsV w_496 w_497 w_1 w_498) rfl rfl rfl (by decide +kernel) ⟨Nat.le_of_ble_eq_true rfl, Nat.le_of_ble_eq_true rfl⟩) ⟨fun a U g mk q => by obtain ⟨q0, q1, qP, qK, qD, qZ⟩ := q; exact ⟨q0, q1, qP, va_K.moved (u := U) (U := U.calling g mk a) (Vm.Alike.refl U.vm) qK, qD, om_Z.same (U := U) (V := U.calling g mk a) rfl rfl qZ⟩, fun U hU hW => ⟨rfl, by rw [hU], by rw [hU]; exact hPc, va_K.moved hW.alike hKc, hDc, om_Z.step hW hZ hS hU (fun q hq => Nat.le_trans hHH.1 hq)⟩⟩ rfl hl.1 rfl (lv_room (Nat.le_of_ble_eq_true rfl)) dOL_lineOf_12 ⟨Nat.le_of_ble_eq_true rfl, Nat.le_of_ble_eq_true rfl⟩ hEx hlocks hHH (fun q hq => Nat.le_trans hHH.1 hq) (Nat.le_of_ble_eq_true rfl) (Nat.le_of_ble_eq_true rfl)
  have h := om_cr rfl h
  refine va_callv (va_runS (As := [.int x1, .int items_count]) (rest := []) ⟨hx, hb, hml, hown, hts⟩ (om_k_OL_requireIndex l dC dI H.size x1 items_count u2w hu2) (va_cwS 2 hts (om_gs w_496 w_497 w_1 w_498) rfl rfl rfl (by decide +kernel) ⟨Nat.le_of_ble_eq_true rfl, Nat.le_of_ble_eq_true rfl⟩) ⟨fun a U g mk q => by obtain ⟨q0, q1, qP, qK, qD⟩ := q; exact ⟨q0, q1, qP, va_K.moved (u := U) (U := U.calling g mk a) (Vm.Alike.refl U.vm) qK, qD⟩, fun U hU hW => ⟨rfl, by rw [hU], by rw [hU]; exact hPc, va_K.moved hW.alike hKc, hDc⟩⟩ rfl rfl hl.1 rfl (lv_room (Nat.le_of_ble_eq_true rfl)) dOL_lineOf_12 ⟨Nat.le_of_ble_eq_true rfl, Nat.le_of_ble_eq_true rfl⟩) hS (fun q _ hq => Nat.le_trans hHH.1 (om_nA hq)) (fun q hq => Nat.le_trans hHH.1 (om_nA hq)) (fun uz t H1 locs ht hvm hw hB hz1 hk1 hS => ?_)
  have hH1 : om_H H H1 := ⟨hz1, fun q hq => hk1 q hq (fun z => Nat.not_le.mpr hq (om_nA z))⟩
  have hP : va_P (dC, dI) vwCl [(a_ol, .inr (0, [.ref a_items, .ref a_ol_lineWidths, .ref a_ol_settings, .ref a_breaks, .ref a_ruler, .ref a_search, .ref a_layout])), (a_items, .inr (1, [.int items_count, .ref a_items_kinds, .ref a_items_penaltyWidths, .ref a_items_costs, .ref a_items_flags, .ref a_items_widthBefore, .ref a_items_stretchBefore, .ref a_items_shrinkBefore, .ref a_items_fillBefore])), (a_layout, .inr (6, [.int layout_known, .int layout_lines, .int layout_passTaken, .int layout_extraStretch, .long layout_demeritSum, .ref a_layout_starts, .ref a_layout_ends])), (a_layout_starts, .inl (c_layout_starts, 401, .inl layout_starts)), (a_layout_ends, .inl (c_layout_ends, 401, .inl layout_ends))] H1 := hP.kept (fun k q hq => hH1.2 q.1 (hP k q hq).lt)
  have hHH := hHH.tr hH1
  refine va_forget (fun q hq => hS.2.2 q hq) ?_
  have hS : va_S (fun q => s.heap.size ≤ q) s.heap H1 [] := ⟨hS.1, hS.2.1, fun l h => by cases h⟩
  clear hH1 hk1 hz1 hB ht
  generalize H1 = H at hP hS hHH ⊢
  refine W.widen (k := 0) (n := 0) (Nat.le_of_ble_eq_true rfl) (Nat.le_of_ble_eq_true rfl) ?_
  exact absurd h om_rn
set_option maxHeartbeats 4000000 in
set_option maxRecDepth 100000 in
theorem om_t_OL_place (l : Launch) (hl9 : l.stackTraces = false) (dC : Nat → ClassId) (dI : Nat → Nat → Nat) (a_ol : Nat) (a_ol_lineWidths : Nat) (a_items : Nat) (a_items_penaltyWidths : Nat) (a_items_widthBefore : Nat) (a_items_stretchBefore : Nat) (a_items_shrinkBefore : Nat) (a_items_fillBefore : Nat) (a_ruler : Nat) (a_layout : Nat) (a_layout_starts : Nat) (a_layout_ends : Nat) (a_ol_settings : Nat) (a_breaks : Nat) (a_search : Nat) (a_items_kinds : Nat) (a_items_costs : Nat) (a_items_flags : Nat) (c_ol_lineWidths : ClassId) (c_items_penaltyWidths : ClassId) (c_items_widthBefore : ClassId) (c_items_stretchBefore : ClassId) (c_items_shrinkBefore : ClassId) (c_items_fillBefore : ClassId) (c_layout_starts : ClassId) (c_layout_ends : ClassId)  (sz : Nat) (ol_lineWidths : (Nat → Int32)) (items_count : Int32) (items_penaltyWidths : (Nat → Int32)) (items_widthBefore : (Nat → Int32)) (items_stretchBefore : (Nat → Int32)) (items_shrinkBefore : (Nat → Int32)) (items_fillBefore : (Nat → Int32)) (ruler_start : Int32) (ruler_stretch : Int32) (ruler_shrink : Int32) (ruler_fill : Int32) (ruler_excess : Int32) (layout_known : Int32) (layout_lines : Int32) (layout_passTaken : Int32) (layout_extraStretch : Int32) (layout_demeritSum : Int64) (layout_starts : (Nat → Int32)) (layout_ends : (Nat → Int32)) (x1 : Int32) (n : Nat) (k : Nat) (h : om_f_OL_place n ol_lineWidths items_count items_penaltyWidths items_widthBefore items_stretchBefore items_shrinkBefore items_fillBefore ruler_start ruler_stretch ruler_shrink ruler_fill ruler_excess layout_known layout_lines layout_starts layout_ends x1 = some (.inl k)) : om_T l yOL_place (Cond.code yOL_place cOL_place 3 (some .int) :: om_V) ({ frames := 7, cells := 1, slots := 6, locals := 103 }) (va_Pc [.ref a_ol, .int x1] (fun U => U.heap.size = sz ∧ va_P (dC, dI) vwCl [(a_ol, .inr (0, [.ref a_items, .ref a_ol_lineWidths, .ref a_ol_settings, .ref a_breaks, .ref a_ruler, .ref a_search, .ref a_layout])), (a_ol_lineWidths, .inl (c_ol_lineWidths, 41, .inl ol_lineWidths)), (a_items, .inr (1, [.int items_count, .ref a_items_kinds, .ref a_items_penaltyWidths, .ref a_items_costs, .ref a_items_flags, .ref a_items_widthBefore, .ref a_items_stretchBefore, .ref a_items_shrinkBefore, .ref a_items_fillBefore])), (a_items_penaltyWidths, .inl (c_items_penaltyWidths, 400, .inl items_penaltyWidths)), (a_items_widthBefore, .inl (c_items_widthBefore, 401, .inl items_widthBefore)), (a_items_stretchBefore, .inl (c_items_stretchBefore, 401, .inl items_stretchBefore)), (a_items_shrinkBefore, .inl (c_items_shrinkBefore, 401, .inl items_shrinkBefore)), (a_items_fillBefore, .inl (c_items_fillBefore, 401, .inl items_fillBefore)), (a_ruler, .inr (3, [.ref a_items, .int ruler_start, .int ruler_stretch, .int ruler_shrink, .int ruler_fill, .int ruler_excess])), (a_layout, .inr (6, [.int layout_known, .int layout_lines, .int layout_passTaken, .int layout_extraStretch, .long layout_demeritSum, .ref a_layout_starts, .ref a_layout_ends])), (a_layout_starts, .inl (c_layout_starts, 401, .inl layout_starts)), (a_layout_ends, .inl (c_layout_ends, 401, .inl layout_ends))] U.heap ∧ va_K (dC, dI) vwCl [(c_ol_lineWidths, .int), (c_items_penaltyWidths, .int), (c_items_widthBefore, .int), (c_items_stretchBefore, .int), (c_items_shrinkBefore, .int), (c_items_fillBefore, .int), (c_layout_starts, .int), (c_layout_ends, .int)] U ∧ va_D (fun _ => True) [(a_ol, .inr (0, [.ref a_items, .ref a_ol_lineWidths, .ref a_ol_settings, .ref a_breaks, .ref a_ruler, .ref a_search, .ref a_layout])), (a_ol_lineWidths, .inl (c_ol_lineWidths, 41, .inl ol_lineWidths)), (a_items, .inr (1, [.int items_count, .ref a_items_kinds, .ref a_items_penaltyWidths, .ref a_items_costs, .ref a_items_flags, .ref a_items_widthBefore, .ref a_items_stretchBefore, .ref a_items_shrinkBefore, .ref a_items_fillBefore])), (a_items_penaltyWidths, .inl (c_items_penaltyWidths, 400, .inl items_penaltyWidths)), (a_items_widthBefore, .inl (c_items_widthBefore, 401, .inl items_widthBefore)), (a_items_stretchBefore, .inl (c_items_stretchBefore, 401, .inl items_stretchBefore)), (a_items_shrinkBefore, .inl (c_items_shrinkBefore, 401, .inl items_shrinkBefore)), (a_items_fillBefore, .inl (c_items_fillBefore, 401, .inl items_fillBefore)), (a_ruler, .inr (3, [.ref a_items, .int ruler_start, .int ruler_stretch, .int ruler_shrink, .int ruler_fill, .int ruler_excess])), (a_layout, .inr (6, [.int layout_known, .int layout_lines, .int layout_passTaken, .int layout_extraStretch, .long layout_demeritSum, .ref a_layout_starts, .ref a_layout_ends])), (a_layout_starts, .inl (c_layout_starts, 401, .inl layout_starts)), (a_layout_ends, .inl (c_layout_ends, 401, .inl layout_ends))] ∧ om_Z (fun q => sz ≤ q) U)) (om_E k) om_K 1 6 (fun q => sz ≤ q) := by
  refine om_T.ofW (cc := cOL_place) (maxL := 3) (ret := (some .int)) (by decide) rfl ?_
  intro p e s m args below meth c s₁ B hml hEx hv
  obtain ⟨rfl, hsz, hP, hK, hD, hZ⟩ := hv
  have hx := B.exec
  have hb := B.bytes
  have hr := B.returns
  have htsV := atoms_spec (ws := (Cond.code yOL_place cOL_place 3 (some .int) :: om_V)) B.pre
  have hts : ∀ w ∈ wsOL_place, w.before _ s = true := fun w h => htsV w (om_WV w h)
  subst hsz
  have hS : va_S (fun q => s.heap.size ≤ q) s.heap s.heap [] := va_S.rf
  have hHH : om_H s.heap s.heap := om_H.rf
  have hown : s.vm.findClass ROL = some m.cls := findClass_of_methodNamed B.named
  have hlocks := B.notSynchronized
  have hP : va_P (dC, dI) vwCl [(a_ol, .inr (0, [.ref a_items, .ref a_ol_lineWidths, .ref a_ol_settings, .ref a_breaks, .ref a_ruler, .ref a_search, .ref a_layout])), (a_ol_lineWidths, .inl (c_ol_lineWidths, 41, .inl ol_lineWidths)), (a_items, .inr (1, [.int items_count, .ref a_items_kinds, .ref a_items_penaltyWidths, .ref a_items_costs, .ref a_items_flags, .ref a_items_widthBefore, .ref a_items_stretchBefore, .ref a_items_shrinkBefore, .ref a_items_fillBefore])), (a_items_penaltyWidths, .inl (c_items_penaltyWidths, 400, .inl items_penaltyWidths)), (a_items_widthBefore, .inl (c_items_widthBefore, 401, .inl items_widthBefore)), (a_items_stretchBefore, .inl (c_items_stretchBefore, 401, .inl items_stretchBefore)), (a_items_shrinkBefore, .inl (c_items_shrinkBefore, 401, .inl items_shrinkBefore)), (a_items_fillBefore, .inl (c_items_fillBefore, 401, .inl items_fillBefore)), (a_ruler, .inr (3, [.ref a_items, .int ruler_start, .int ruler_stretch, .int ruler_shrink, .int ruler_fill, .int ruler_excess])), (a_layout, .inr (6, [.int layout_known, .int layout_lines, .int layout_passTaken, .int layout_extraStretch, .long layout_demeritSum, .ref a_layout_starts, .ref a_layout_ends])), (a_layout_starts, .inl (c_layout_starts, 401, .inl layout_starts)), (a_layout_ends, .inl (c_layout_ends, 401, .inl layout_ends))] s.heap := hP
  have hl := lv_entry ([.ref a_ol, .int x1]) (n := 3) (Nat.le_of_ble_eq_true rfl)
  rw [lg_entry_eq]
  generalize (lg_sl ([.ref a_ol, .int x1]) ++ List.replicate (3 - (lg_sl ([.ref a_ol, .int x1])).length) Slot.unset).toArray = ls at hl ⊢
  have hl : lv_has ls 3 [(0, .ref a_ol), (1, .int x1)] := hl
  unfold om_f_OL_place at h
  refine lv_aload_n hx hb dOL_place_0 rfl (lv_at hl 0 rfl) ?_
  obtain ⟨u1, hu1, h⟩ := om_b h
  have hPc := hP.sub (ws' := [(a_ol, .inr (0, [.ref a_items, .ref a_ol_lineWidths, .ref a_ol_settings, .ref a_breaks, .ref a_ruler, .ref a_search, .ref a_layout])), (a_layout, .inr (6, [.int layout_known, .int layout_lines, .int layout_passTaken, .int layout_extraStretch, .long layout_demeritSum, .ref a_layout_starts, .ref a_layout_ends]))]) [0, 9] rfl
  have hDc := hD.sub (ws' := [(a_ol, .inr (0, [.ref a_items, .ref a_ol_lineWidths, .ref a_ol_settings, .ref a_breaks, .ref a_ruler, .ref a_search, .ref a_layout])), (a_layout, .inr (6, [.int layout_known, .int layout_lines, .int layout_passTaken, .int layout_extraStretch, .long layout_demeritSum, .ref a_layout_starts, .ref a_layout_ends]))]) [0, 9] (by decide) rfl
  have hKc := hK.sub (tys' := []) [] rfl
  rcases u1 with k9 | u1w
  · have h := om_cl rfl h
    cases h
    exact om_passV (As := []) (rest := []) ⟨hx, hb, hml, hown, htsV⟩ (om_t_OL_requireLines l hl9 dC dI a_ol a_layout a_items a_ol_lineWidths a_ol_settings a_breaks a_ruler a_search a_layout_starts a_layout_ends s.heap.size layout_known layout_lines layout_passTaken layout_extraStretch layout_demeritSum _ hu1) (cwV 0 htsV (om_gvV w_480 w_481 w_793 w_1 w_482) rfl rfl rfl (by decide +kernel) ⟨Nat.le_of_ble_eq_true rfl, Nat.le_of_ble_eq_true rfl⟩) ⟨fun a U g mk q => by obtain ⟨q0, q1, qP, qK, qD, qZ⟩ := q; exact ⟨q0, q1, qP, va_K.moved (u := U) (U := U.calling g mk a) (Vm.Alike.refl U.vm) qK, qD, om_Z.same (U := U) (V := U.calling g mk a) rfl rfl qZ⟩, va_recv hKc hPc (ci := 0) (q0 := 0) rfl rfl, fun U hU hW => ⟨rfl, by rw [hU], by rw [hU]; exact hPc, va_K.moved hW.alike hKc, hDc, om_Z.step hW hZ hS hU (fun q hq => Nat.le_trans hHH.1 hq)⟩⟩ rfl hl.1 rfl (lv_room (Nat.le_of_ble_eq_true rfl)) dOL_place_1 ⟨Nat.le_of_ble_eq_true rfl, Nat.le_of_ble_eq_true rfl⟩ hEx hlocks hHH (fun q hq => Nat.le_trans hHH.1 hq) (Nat.le_of_ble_eq_true rfl) (Nat.le_of_ble_eq_true rfl)
  have h := om_cr rfl h
  refine va_callv (va_runV (As := []) (rest := []) ⟨hx, hb, hml, hown, hts⟩ (om_p_OL_requireLines l dC dI a_ol a_layout a_items a_ol_lineWidths a_ol_settings a_breaks a_ruler a_search a_layout_starts a_layout_ends s.heap.size layout_known layout_lines layout_passTaken layout_extraStretch layout_demeritSum u1w hu1) (cwV 0 hts (om_gv w_480 w_481 w_793 w_1 w_482) rfl rfl rfl (by decide +kernel) ⟨Nat.le_of_ble_eq_true rfl, Nat.le_of_ble_eq_true rfl⟩) ⟨fun a U g mk q => by obtain ⟨q0, q1, qP, qK, qD⟩ := q; exact ⟨q0, q1, qP, va_K.moved (u := U) (U := U.calling g mk a) (Vm.Alike.refl U.vm) qK, qD⟩, va_recv hKc hPc (ci := 0) (q0 := 0) rfl rfl, fun U hU hW => ⟨rfl, by rw [hU], by rw [hU]; exact hPc, va_K.moved hW.alike hKc, hDc⟩⟩ rfl rfl hl.1 rfl (lv_room (Nat.le_of_ble_eq_true rfl)) dOL_place_1 ⟨Nat.le_of_ble_eq_true rfl, Nat.le_of_ble_eq_true rfl⟩) hS (fun q _ hq => Nat.le_trans hHH.1 (om_nA hq)) (fun q hq => Nat.le_trans hHH.1 (om_nA hq)) (fun uz t H1 locs ht hvm hw hB hz1 hk1 hS => ?_)
  have hH1 : om_H s.heap H1 := ⟨hz1, fun q hq => hk1 q hq (fun z => Nat.not_le.mpr hq (om_nA z))⟩
  have hP : va_P (dC, dI) vwCl [(a_ol, .inr (0, [.ref a_items, .ref a_ol_lineWidths, .ref a_ol_settings, .ref a_breaks, .ref a_ruler, .ref a_search, .ref a_layout])), (a_ol_lineWidths, .inl (c_ol_lineWidths, 41, .inl ol_lineWidths)), (a_items, .inr (1, [.int items_count, .ref a_items_kinds, .ref a_items_penaltyWidths, .ref a_items_costs, .ref a_items_flags, .ref a_items_widthBefore, .ref a_items_stretchBefore, .ref a_items_shrinkBefore, .ref a_items_fillBefore])), (a_items_penaltyWidths, .inl (c_items_penaltyWidths, 400, .inl items_penaltyWidths)), (a_items_widthBefore, .inl (c_items_widthBefore, 401, .inl items_widthBefore)), (a_items_stretchBefore, .inl (c_items_stretchBefore, 401, .inl items_stretchBefore)), (a_items_shrinkBefore, .inl (c_items_shrinkBefore, 401, .inl items_shrinkBefore)), (a_items_fillBefore, .inl (c_items_fillBefore, 401, .inl items_fillBefore)), (a_ruler, .inr (3, [.ref a_items, .int ruler_start, .int ruler_stretch, .int ruler_shrink, .int ruler_fill, .int ruler_excess])), (a_layout, .inr (6, [.int layout_known, .int layout_lines, .int layout_passTaken, .int layout_extraStretch, .long layout_demeritSum, .ref a_layout_starts, .ref a_layout_ends])), (a_layout_starts, .inl (c_layout_starts, 401, .inl layout_starts)), (a_layout_ends, .inl (c_layout_ends, 401, .inl layout_ends))] H1 := hP.kept (fun k q hq => hH1.2 q.1 (hP k q hq).lt)
  have hHH := hHH.tr hH1
  refine va_forget (fun q hq => hS.2.2 q hq) ?_
  have hS : va_S (fun q => s.heap.size ≤ q) s.heap H1 [] := ⟨hS.1, hS.2.1, fun l h => by cases h⟩
  clear hH1 hk1 hz1 hB ht
  generalize H1 = H at hP hS hHH ⊢
  refine W.widen (k := 0) (n := 0) (Nat.le_of_ble_eq_true rfl) (Nat.le_of_ble_eq_true rfl) ?_
  refine lv_iload_n hx hb dOL_place_4 rfl (lv_at hl 1 rfl) ?_
  refine lv_aload_n hx hb dOL_place_5 rfl (lv_at hl 0 rfl) ?_
  refine va_get (D := (dC, dI)) (ci := 0) (v := .ref a_items) (C := ROL) (T := TOL) (N := 7) hx hb hts (fun w h => om_m (inOL w h)) hown hK hP 0 rfl rfl 0 (by decide) (hts _ (om_m w_186)) (fun _ h9 => h9) rfl dOL_place_6 ?_
  refine va_get (D := (dC, dI)) (ci := 1) (v := .int items_count) (C := RItems) (T := TItems) (N := 9) hx hb hts (fun w h => om_m (inItems w h)) hown hK hP 2 rfl rfl 0 (by decide) (hts _ (om_m w_33)) (fun _ h9 => h9) rfl dOL_place_9 ?_
  obtain ⟨u2, hu2, h⟩ := om_b h
  have hPc := hP.sub (ws' := []) [] rfl
  have hDc := hD.sub (ws' := []) [] (by decide) rfl
  have hKc := hK.sub (tys' := []) [] rfl
  rcases u2 with k9 | u2w
  · have h := om_cl rfl h
    cases h
    exact om_passS (As := [.int x1, .int items_count]) (rest := []) ⟨hx, hb, hml, hown, htsV⟩ (om_t_OL_requireIndex l hl9 dC dI H.size x1 items_count _ hu2) (va_cwS 2 htsV (om_gsV w_496 w_497 w_1 w_498) rfl rfl rfl (by decide +kernel) ⟨Nat.le_of_ble_eq_true rfl, Nat.le_of_ble_eq_true rfl⟩) ⟨fun a U g mk q => by obtain ⟨q0, q1, qP, qK, qD, qZ⟩ := q; exact ⟨q0, q1, qP, va_K.moved (u := U) (U := U.calling g mk a) (Vm.Alike.refl U.vm) qK, qD, om_Z.same (U := U) (V := U.calling g mk a) rfl rfl qZ⟩, fun U hU hW => ⟨rfl, by rw [hU], by rw [hU]; exact hPc, va_K.moved hW.alike hKc, hDc, om_Z.step hW hZ hS hU (fun q hq => Nat.le_trans hHH.1 hq)⟩⟩ rfl hl.1 rfl (lv_room (Nat.le_of_ble_eq_true rfl)) dOL_place_12 ⟨Nat.le_of_ble_eq_true rfl, Nat.le_of_ble_eq_true rfl⟩ hEx hlocks hHH (fun q hq => Nat.le_trans hHH.1 hq) (Nat.le_of_ble_eq_true rfl) (Nat.le_of_ble_eq_true rfl)
  have h := om_cr rfl h
  refine va_callv (va_runS (As := [.int x1, .int items_count]) (rest := []) ⟨hx, hb, hml, hown, hts⟩ (om_k_OL_requireIndex l dC dI H.size x1 items_count u2w hu2) (va_cwS 2 hts (om_gs w_496 w_497 w_1 w_498) rfl rfl rfl (by decide +kernel) ⟨Nat.le_of_ble_eq_true rfl, Nat.le_of_ble_eq_true rfl⟩) ⟨fun a U g mk q => by obtain ⟨q0, q1, qP, qK, qD⟩ := q; exact ⟨q0, q1, qP, va_K.moved (u := U) (U := U.calling g mk a) (Vm.Alike.refl U.vm) qK, qD⟩, fun U hU hW => ⟨rfl, by rw [hU], by rw [hU]; exact hPc, va_K.moved hW.alike hKc, hDc⟩⟩ rfl rfl hl.1 rfl (lv_room (Nat.le_of_ble_eq_true rfl)) dOL_place_12 ⟨Nat.le_of_ble_eq_true rfl, Nat.le_of_ble_eq_true rfl⟩) hS (fun q _ hq => Nat.le_trans hHH.1 (om_nA hq)) (fun q hq => Nat.le_trans hHH.1 (om_nA hq)) (fun uz t H1 locs ht hvm hw hB hz1 hk1 hS => ?_)
  have hH1 : om_H H H1 := ⟨hz1, fun q hq => hk1 q hq (fun z => Nat.not_le.mpr hq (om_nA z))⟩
  have hP : va_P (dC, dI) vwCl [(a_ol, .inr (0, [.ref a_items, .ref a_ol_lineWidths, .ref a_ol_settings, .ref a_breaks, .ref a_ruler, .ref a_search, .ref a_layout])), (a_ol_lineWidths, .inl (c_ol_lineWidths, 41, .inl ol_lineWidths)), (a_items, .inr (1, [.int items_count, .ref a_items_kinds, .ref a_items_penaltyWidths, .ref a_items_costs, .ref a_items_flags, .ref a_items_widthBefore, .ref a_items_stretchBefore, .ref a_items_shrinkBefore, .ref a_items_fillBefore])), (a_items_penaltyWidths, .inl (c_items_penaltyWidths, 400, .inl items_penaltyWidths)), (a_items_widthBefore, .inl (c_items_widthBefore, 401, .inl items_widthBefore)), (a_items_stretchBefore, .inl (c_items_stretchBefore, 401, .inl items_stretchBefore)), (a_items_shrinkBefore, .inl (c_items_shrinkBefore, 401, .inl items_shrinkBefore)), (a_items_fillBefore, .inl (c_items_fillBefore, 401, .inl items_fillBefore)), (a_ruler, .inr (3, [.ref a_items, .int ruler_start, .int ruler_stretch, .int ruler_shrink, .int ruler_fill, .int ruler_excess])), (a_layout, .inr (6, [.int layout_known, .int layout_lines, .int layout_passTaken, .int layout_extraStretch, .long layout_demeritSum, .ref a_layout_starts, .ref a_layout_ends])), (a_layout_starts, .inl (c_layout_starts, 401, .inl layout_starts)), (a_layout_ends, .inl (c_layout_ends, 401, .inl layout_ends))] H1 := hP.kept (fun k q hq => hH1.2 q.1 (hP k q hq).lt)
  have hHH := hHH.tr hH1
  refine va_forget (fun q hq => hS.2.2 q hq) ?_
  have hS : va_S (fun q => s.heap.size ≤ q) s.heap H1 [] := ⟨hS.1, hS.2.1, fun l h => by cases h⟩
  clear hH1 hk1 hz1 hB ht
  generalize H1 = H at hP hS hHH ⊢
  refine W.widen (k := 0) (n := 0) (Nat.le_of_ble_eq_true rfl) (Nat.le_of_ble_eq_true rfl) ?_
  exact absurd h om_rn
set_option maxHeartbeats 4000000 in
set_option maxRecDepth 100000 in
theorem om_t_OL_breakUp (l : Launch) (hl9 : l.stackTraces = false) (dC : Nat → ClassId) (dI : Nat → Nat → Nat) (a_ol : Nat) (a_ol_lineWidths : Nat) (a_ol_settings : Nat) (a_items : Nat) (a_items_kinds : Nat) (a_items_penaltyWidths : Nat) (a_items_costs : Nat) (a_items_flags : Nat) (a_items_widthBefore : Nat) (a_items_stretchBefore : Nat) (a_items_shrinkBefore : Nat) (a_items_fillBefore : Nat) (a_breaks : Nat) (a_breaks_at : Nat) (a_breaks_heads : Nat) (a_breaks_farthest : Nat) (a_breaks_leastReach : Nat) (a_ruler : Nat) (a_search : Nat) (a_search_sums : Nat) (a_search_nextSums : Nat) (a_search_entrySums : Nat) (a_search_entryFitnesses : Nat) (a_search_endSums : Nat) (a_search_endFitnesses : Nat) (a_trail : Nat) (a_trail_roots : Nat) (a_layout : Nat) (a_layout_starts : Nat) (a_layout_ends : Nat) (c_ol_lineWidths : ClassId) (c_ol_settings : ClassId) (c_items_kinds : ClassId) (c_items_penaltyWidths : ClassId) (c_items_costs : ClassId) (c_items_flags : ClassId) (c_items_widthBefore : ClassId) (c_items_stretchBefore : ClassId) (c_items_shrinkBefore : ClassId) (c_items_fillBefore : ClassId) (c_breaks_at : ClassId) (c_breaks_heads : ClassId) (c_breaks_farthest : ClassId) (c_breaks_leastReach : ClassId) (c_search_sums : ClassId) (c_search_nextSums : ClassId) (c_search_entrySums : ClassId) (c_search_entryFitnesses : ClassId) (c_search_endSums : ClassId) (c_search_endFitnesses : ClassId) (c_trail_roots : ClassId) (c_layout_starts : ClassId) (c_layout_ends : ClassId)  (sz : Nat) (ol_lineWidths : (Nat → Int32)) (ol_settings : (Nat → Int32)) (items_count : Int32) (items_kinds : (Nat → Int32)) (items_penaltyWidths : (Nat → Int32)) (items_costs : (Nat → Int32)) (items_flags : (Nat → Int32)) (items_widthBefore : (Nat → Int32)) (items_stretchBefore : (Nat → Int32)) (items_shrinkBefore : (Nat → Int32)) (items_fillBefore : (Nat → Int32)) (breaks_last : Int32) (breaks_at : (Nat → Int32)) (breaks_heads : (Nat → Int32)) (breaks_farthest : (Nat → Int32)) (breaks_leastReach : (Nat → Int32)) (ruler_start : Int32) (ruler_stretch : Int32) (ruler_shrink : Int32) (ruler_fill : Int32) (ruler_excess : Int32) (search_tolerance : Int32) (search_extraStretch : Int32) (search_sums : (Nat → Int64)) (search_nextSums : (Nat → Int64)) (search_entrySums : (Nat → Int64)) (search_entryFitnesses : (Nat → Int32)) (search_endSums : (Nat → Int64)) (search_endFitnesses : (Nat → Int32)) (trail_roots : (Nat → Int64)) (layout_known : Int32) (layout_lines : Int32) (layout_passTaken : Int32) (layout_extraStretch : Int32) (layout_demeritSum : Int64) (layout_starts : (Nat → Int32)) (layout_ends : (Nat → Int32))  (n : Nat) (k : Nat) (h : om_f_OL_breakUp n ol_lineWidths ol_settings items_count items_kinds items_penaltyWidths items_costs items_flags items_widthBefore items_stretchBefore items_shrinkBefore items_fillBefore breaks_at breaks_heads breaks_farthest breaks_leastReach ruler_start ruler_stretch ruler_shrink ruler_fill ruler_excess search_sums search_nextSums search_entrySums search_entryFitnesses search_endSums search_endFitnesses trail_roots layout_lines layout_passTaken layout_extraStretch layout_demeritSum layout_starts layout_ends = some (.inl k)) : om_T l yOL_breakUp (Cond.code yOL_breakUp cOL_breakUp 1 (some .int) :: om_V) ({ frames := 6, cells := 1, slots := 6, locals := 82 }) (va_Pc [.ref a_ol] (fun U => U.heap.size = sz ∧ va_P (dC, dI) vwCl [(a_ol, .inr (0, [.ref a_items, .ref a_ol_lineWidths, .ref a_ol_settings, .ref a_breaks, .ref a_ruler, .ref a_search, .ref a_layout])), (a_ol_lineWidths, .inl (c_ol_lineWidths, 41, .inl ol_lineWidths)), (a_ol_settings, .inl (c_ol_settings, 8, .inl ol_settings)), (a_items, .inr (1, [.int items_count, .ref a_items_kinds, .ref a_items_penaltyWidths, .ref a_items_costs, .ref a_items_flags, .ref a_items_widthBefore, .ref a_items_stretchBefore, .ref a_items_shrinkBefore, .ref a_items_fillBefore])), (a_items_kinds, .inl (c_items_kinds, 400, .inl items_kinds)), (a_items_penaltyWidths, .inl (c_items_penaltyWidths, 400, .inl items_penaltyWidths)), (a_items_costs, .inl (c_items_costs, 400, .inl items_costs)), (a_items_flags, .inl (c_items_flags, 400, .inl items_flags)), (a_items_widthBefore, .inl (c_items_widthBefore, 401, .inl items_widthBefore)), (a_items_stretchBefore, .inl (c_items_stretchBefore, 401, .inl items_stretchBefore)), (a_items_shrinkBefore, .inl (c_items_shrinkBefore, 401, .inl items_shrinkBefore)), (a_items_fillBefore, .inl (c_items_fillBefore, 401, .inl items_fillBefore)), (a_breaks, .inr (2, [.ref a_items, .int breaks_last, .ref a_breaks_at, .ref a_breaks_heads, .ref a_breaks_farthest, .ref a_breaks_leastReach])), (a_breaks_at, .inl (c_breaks_at, 402, .inl breaks_at)), (a_breaks_heads, .inl (c_breaks_heads, 402, .inl breaks_heads)), (a_breaks_farthest, .inl (c_breaks_farthest, 402, .inl breaks_farthest)), (a_breaks_leastReach, .inl (c_breaks_leastReach, 402, .inl breaks_leastReach)), (a_ruler, .inr (3, [.ref a_items, .int ruler_start, .int ruler_stretch, .int ruler_shrink, .int ruler_fill, .int ruler_excess])), (a_search, .inr (4, [.ref a_breaks, .ref a_ruler, .ref a_ol_lineWidths, .ref a_ol_settings, .ref a_trail, .ref a_search_sums, .ref a_search_nextSums, .ref a_search_entrySums, .ref a_search_entryFitnesses, .ref a_search_endSums, .ref a_search_endFitnesses, .int search_tolerance, .int search_extraStretch])), (a_search_sums, .inl (c_search_sums, 1608, .inr (.inl search_sums))), (a_search_nextSums, .inl (c_search_nextSums, 1608, .inr (.inl search_nextSums))), (a_search_entrySums, .inl (c_search_entrySums, 4, .inr (.inl search_entrySums))), (a_search_entryFitnesses, .inl (c_search_entryFitnesses, 4, .inl search_entryFitnesses)), (a_search_endSums, .inl (c_search_endSums, 41, .inr (.inl search_endSums))), (a_search_endFitnesses, .inl (c_search_endFitnesses, 41, .inl search_endFitnesses)), (a_trail, .inr (5, [.ref a_trail_roots])), (a_trail_roots, .inl (c_trail_roots, 16080, .inr (.inl trail_roots))), (a_layout, .inr (6, [.int layout_known, .int layout_lines, .int layout_passTaken, .int layout_extraStretch, .long layout_demeritSum, .ref a_layout_starts, .ref a_layout_ends])), (a_layout_starts, .inl (c_layout_starts, 401, .inl layout_starts)), (a_layout_ends, .inl (c_layout_ends, 401, .inl layout_ends))] U.heap ∧ va_K (dC, dI) vwCl [(c_ol_lineWidths, .int), (c_ol_settings, .int), (c_items_kinds, .int), (c_items_penaltyWidths, .int), (c_items_costs, .int), (c_items_flags, .boolean), (c_items_widthBefore, .int), (c_items_stretchBefore, .int), (c_items_shrinkBefore, .int), (c_items_fillBefore, .int), (c_breaks_at, .int), (c_breaks_heads, .int), (c_breaks_farthest, .int), (c_breaks_leastReach, .int), (c_search_sums, .long), (c_search_nextSums, .long), (c_search_entrySums, .long), (c_search_entryFitnesses, .int), (c_search_endSums, .long), (c_search_endFitnesses, .int), (c_trail_roots, .long), (c_layout_starts, .int), (c_layout_ends, .int)] U ∧ va_D (fun _ => True) [(a_ol, .inr (0, [.ref a_items, .ref a_ol_lineWidths, .ref a_ol_settings, .ref a_breaks, .ref a_ruler, .ref a_search, .ref a_layout])), (a_ol_lineWidths, .inl (c_ol_lineWidths, 41, .inl ol_lineWidths)), (a_ol_settings, .inl (c_ol_settings, 8, .inl ol_settings)), (a_items, .inr (1, [.int items_count, .ref a_items_kinds, .ref a_items_penaltyWidths, .ref a_items_costs, .ref a_items_flags, .ref a_items_widthBefore, .ref a_items_stretchBefore, .ref a_items_shrinkBefore, .ref a_items_fillBefore])), (a_items_kinds, .inl (c_items_kinds, 400, .inl items_kinds)), (a_items_penaltyWidths, .inl (c_items_penaltyWidths, 400, .inl items_penaltyWidths)), (a_items_costs, .inl (c_items_costs, 400, .inl items_costs)), (a_items_flags, .inl (c_items_flags, 400, .inl items_flags)), (a_items_widthBefore, .inl (c_items_widthBefore, 401, .inl items_widthBefore)), (a_items_stretchBefore, .inl (c_items_stretchBefore, 401, .inl items_stretchBefore)), (a_items_shrinkBefore, .inl (c_items_shrinkBefore, 401, .inl items_shrinkBefore)), (a_items_fillBefore, .inl (c_items_fillBefore, 401, .inl items_fillBefore)), (a_breaks, .inr (2, [.ref a_items, .int breaks_last, .ref a_breaks_at, .ref a_breaks_heads, .ref a_breaks_farthest, .ref a_breaks_leastReach])), (a_breaks_at, .inl (c_breaks_at, 402, .inl breaks_at)), (a_breaks_heads, .inl (c_breaks_heads, 402, .inl breaks_heads)), (a_breaks_farthest, .inl (c_breaks_farthest, 402, .inl breaks_farthest)), (a_breaks_leastReach, .inl (c_breaks_leastReach, 402, .inl breaks_leastReach)), (a_ruler, .inr (3, [.ref a_items, .int ruler_start, .int ruler_stretch, .int ruler_shrink, .int ruler_fill, .int ruler_excess])), (a_search, .inr (4, [.ref a_breaks, .ref a_ruler, .ref a_ol_lineWidths, .ref a_ol_settings, .ref a_trail, .ref a_search_sums, .ref a_search_nextSums, .ref a_search_entrySums, .ref a_search_entryFitnesses, .ref a_search_endSums, .ref a_search_endFitnesses, .int search_tolerance, .int search_extraStretch])), (a_search_sums, .inl (c_search_sums, 1608, .inr (.inl search_sums))), (a_search_nextSums, .inl (c_search_nextSums, 1608, .inr (.inl search_nextSums))), (a_search_entrySums, .inl (c_search_entrySums, 4, .inr (.inl search_entrySums))), (a_search_entryFitnesses, .inl (c_search_entryFitnesses, 4, .inl search_entryFitnesses)), (a_search_endSums, .inl (c_search_endSums, 41, .inr (.inl search_endSums))), (a_search_endFitnesses, .inl (c_search_endFitnesses, 41, .inl search_endFitnesses)), (a_trail, .inr (5, [.ref a_trail_roots])), (a_trail_roots, .inl (c_trail_roots, 16080, .inr (.inl trail_roots))), (a_layout, .inr (6, [.int layout_known, .int layout_lines, .int layout_passTaken, .int layout_extraStretch, .long layout_demeritSum, .ref a_layout_starts, .ref a_layout_ends])), (a_layout_starts, .inl (c_layout_starts, 401, .inl layout_starts)), (a_layout_ends, .inl (c_layout_ends, 401, .inl layout_ends))] ∧ om_Z (fun q => sz ≤ q) U)) (om_E k) om_K 1 6 (fun q => sz ≤ q) := by
  refine om_T.ofW (cc := cOL_breakUp) (maxL := 1) (ret := (some .int)) (by decide) rfl ?_
  intro p e s m args below meth c s₁ B hml hEx hv
  obtain ⟨rfl, hsz, hP, hK, hD, hZ⟩ := hv
  have hx := B.exec
  have hb := B.bytes
  have hr := B.returns
  have htsV := atoms_spec (ws := (Cond.code yOL_breakUp cOL_breakUp 1 (some .int) :: om_V)) B.pre
  have hts : ∀ w ∈ wsOL_breakUp, w.before _ s = true := fun w h => htsV w (om_WV w h)
  subst hsz
  have hS : va_S (fun q => s.heap.size ≤ q) s.heap s.heap [] := va_S.rf
  have hHH : om_H s.heap s.heap := om_H.rf
  have hown : s.vm.findClass ROL = some m.cls := findClass_of_methodNamed B.named
  have hlocks := B.notSynchronized
  have hP : va_P (dC, dI) vwCl [(a_ol, .inr (0, [.ref a_items, .ref a_ol_lineWidths, .ref a_ol_settings, .ref a_breaks, .ref a_ruler, .ref a_search, .ref a_layout])), (a_ol_lineWidths, .inl (c_ol_lineWidths, 41, .inl ol_lineWidths)), (a_ol_settings, .inl (c_ol_settings, 8, .inl ol_settings)), (a_items, .inr (1, [.int items_count, .ref a_items_kinds, .ref a_items_penaltyWidths, .ref a_items_costs, .ref a_items_flags, .ref a_items_widthBefore, .ref a_items_stretchBefore, .ref a_items_shrinkBefore, .ref a_items_fillBefore])), (a_items_kinds, .inl (c_items_kinds, 400, .inl items_kinds)), (a_items_penaltyWidths, .inl (c_items_penaltyWidths, 400, .inl items_penaltyWidths)), (a_items_costs, .inl (c_items_costs, 400, .inl items_costs)), (a_items_flags, .inl (c_items_flags, 400, .inl items_flags)), (a_items_widthBefore, .inl (c_items_widthBefore, 401, .inl items_widthBefore)), (a_items_stretchBefore, .inl (c_items_stretchBefore, 401, .inl items_stretchBefore)), (a_items_shrinkBefore, .inl (c_items_shrinkBefore, 401, .inl items_shrinkBefore)), (a_items_fillBefore, .inl (c_items_fillBefore, 401, .inl items_fillBefore)), (a_breaks, .inr (2, [.ref a_items, .int breaks_last, .ref a_breaks_at, .ref a_breaks_heads, .ref a_breaks_farthest, .ref a_breaks_leastReach])), (a_breaks_at, .inl (c_breaks_at, 402, .inl breaks_at)), (a_breaks_heads, .inl (c_breaks_heads, 402, .inl breaks_heads)), (a_breaks_farthest, .inl (c_breaks_farthest, 402, .inl breaks_farthest)), (a_breaks_leastReach, .inl (c_breaks_leastReach, 402, .inl breaks_leastReach)), (a_ruler, .inr (3, [.ref a_items, .int ruler_start, .int ruler_stretch, .int ruler_shrink, .int ruler_fill, .int ruler_excess])), (a_search, .inr (4, [.ref a_breaks, .ref a_ruler, .ref a_ol_lineWidths, .ref a_ol_settings, .ref a_trail, .ref a_search_sums, .ref a_search_nextSums, .ref a_search_entrySums, .ref a_search_entryFitnesses, .ref a_search_endSums, .ref a_search_endFitnesses, .int search_tolerance, .int search_extraStretch])), (a_search_sums, .inl (c_search_sums, 1608, .inr (.inl search_sums))), (a_search_nextSums, .inl (c_search_nextSums, 1608, .inr (.inl search_nextSums))), (a_search_entrySums, .inl (c_search_entrySums, 4, .inr (.inl search_entrySums))), (a_search_entryFitnesses, .inl (c_search_entryFitnesses, 4, .inl search_entryFitnesses)), (a_search_endSums, .inl (c_search_endSums, 41, .inr (.inl search_endSums))), (a_search_endFitnesses, .inl (c_search_endFitnesses, 41, .inl search_endFitnesses)), (a_trail, .inr (5, [.ref a_trail_roots])), (a_trail_roots, .inl (c_trail_roots, 16080, .inr (.inl trail_roots))), (a_layout, .inr (6, [.int layout_known, .int layout_lines, .int layout_passTaken, .int layout_extraStretch, .long layout_demeritSum, .ref a_layout_starts, .ref a_layout_ends])), (a_layout_starts, .inl (c_layout_starts, 401, .inl layout_starts)), (a_layout_ends, .inl (c_layout_ends, 401, .inl layout_ends))] s.heap := hP
  have hl := lv_entry ([.ref a_ol]) (n := 1) (Nat.le_of_ble_eq_true rfl)
  rw [lg_entry_eq]
  generalize (lg_sl ([.ref a_ol]) ++ List.replicate (1 - (lg_sl ([.ref a_ol])).length) Slot.unset).toArray = ls at hl ⊢
  have hl : lv_has ls 1 [(0, .ref a_ol)] := hl
  unfold om_f_OL_breakUp at h
  refine lv_aload_n hx hb dOL_breakUp_0 rfl (lv_at hl 0 rfl) ?_
  refine va_get (D := (dC, dI)) (ci := 0) (v := .ref a_items) (C := ROL) (T := TOL) (N := 7) hx hb hts (fun w h => om_m (inOL w h)) hown hK hP 0 rfl rfl 0 (by decide) (hts _ (om_m w_186)) (fun _ h9 => h9) rfl dOL_breakUp_1 ?_
  refine va_get (D := (dC, dI)) (ci := 1) (v := .int items_count) (C := RItems) (T := TItems) (N := 9) hx hb hts (fun w h => om_m (inItems w h)) hown hK hP 3 rfl rfl 0 (by decide) (hts _ (om_m w_33)) (fun _ h9 => h9) rfl dOL_breakUp_4 ?_
  refine lv_if_ne (tgt := 20) hx hb dOL_breakUp_7 (by decide) (fun g1 => ?_) (fun g1 => ?_)
  · have h := om_f g1 h
    exact absurd h om_rn
  · have h := om_t g1 h
    cases h
    obtain ⟨sa, hsa⟩ := hZ.2.1.2 (112, "there are no items") (by decide)
    exact om_throw (own := ROL) (cls := "java/lang/IllegalStateException") (text := "there are no items") (names := ["java/lang/RuntimeException", "java/lang/Exception"]) hx hb hl9 hown (by decide +kernel) (by decide +kernel) (hts _ (om_m w_271)) (hts _ (om_m w_16)) hsa (om_atoms (X := "java/lang/IllegalStateException") htsV hZ (by decide +kernel)) (hl.1.trans hml.symm) dOL_breakUp_10 dOL_breakUp_13 dOL_breakUp_14 dOL_breakUp_16 dOL_breakUp_19 hEx (Nat.le_of_ble_eq_true rfl) (Nat.le_of_ble_eq_true rfl) (Nat.le_of_ble_eq_true rfl) (Nat.le_of_ble_eq_true rfl) hlocks (Nat.le_of_ble_eq_true rfl) (Nat.le_of_ble_eq_true rfl)
