set_option maxHeartbeats 4000000 in
set_option maxRecDepth 100000 in
theorem om_k_Layout_init (l : Launch) (dC : Nat → ClassId) (dI : Nat → Nat → Nat) (a_layout : Nat)  (sz : Nat) : Met l yLayout_init wsLayout_init ({ frames := 1, cells := 2, slots := 802, locals := 12 }) (va_Pc [.ref a_layout] (fun U => U.heap.size = sz ∧ va_P (dC, dI) vwCl [(a_layout, .inr (6, [.int 0, .int 0, .int 0, .int 0, .long 0, .null, .null]))] U.heap ∧ va_K (dC, dI) vwCl [] U ∧ va_D (fun _ => True) [(a_layout, .inr (6, [.int 0, .int 0, .int 0, .int 0, .long 0, .null, .null]))])) (va_Qv (fun (_ : Unit) => True) (fun (_ : Unit) t => ∃ (b_layout_starts : Nat) (bc_layout_starts : ClassId), ∃ (b_layout_ends : Nat) (bc_layout_ends : ClassId), va_P (dC, dI) vwCl [(a_layout, .inr (6, [.int 0, .int 0, .int 0, .int 0, .long 0, .ref b_layout_starts, .ref b_layout_ends])), (b_layout_starts, .inl (bc_layout_starts, 401, .inl (fun _ => 0))), (b_layout_ends, .inl (bc_layout_ends, 401, .inl (fun _ => 0)))] t.heap ∧ va_K (dC, dI) vwCl [(bc_layout_starts, .int), (bc_layout_ends, .int)] t ∧ va_D (va_A [(a_layout, .inr (6, [.int 0, .int 0, .int 0, .int 0, .long 0, .null, .null]))] sz) [(a_layout, .inr (6, [.int 0, .int 0, .int 0, .int 0, .long 0, .ref b_layout_starts, .ref b_layout_ends])), (b_layout_starts, .inl (bc_layout_starts, 401, .inl (fun _ => 0))), (b_layout_ends, .inl (bc_layout_ends, 401, .inl (fun _ => 0)))]) (va_A [(a_layout, .inr (6, [.int 0, .int 0, .int 0, .int 0, .long 0, .null, .null]))] sz)) 2 802 (va_A [(a_layout, .inr (6, [.int 0, .int 0, .int 0, .int 0, .long 0, .null, .null]))] sz) := by
  refine Met.ofW (cc := cLayout_init) (maxL := 1) (ret := none) (by decide) rfl ?_
  intro p e s m args below meth c s₁ B hml hv
  obtain ⟨rfl, hsz, hP, hK, hD0⟩ := hv
  have hx := B.exec
  have hb := B.bytes
  have hr := B.returns
  have hts := atoms_spec (ws := wsLayout_init) B.pre
  have hown : s.vm.findClass RLayout = some m.cls := findClass_of_methodNamed B.named
  have hlocks := B.notSynchronized
  have hin : meth.name = "<init>" := (name_of_methodNamed B.named B.method).1
  subst hsz
  have hD := hD0.self (sz := s.heap.size)
  generalize hAe : va_A [(a_layout, .inr (6, [.int 0, .int 0, .int 0, .int 0, .long 0, .null, .null]))] s.heap.size = A at hD ⊢
  have hA : ∀ q : Nat, s.heap.size ≤ q → A q := fun q h => by rw [← hAe]; exact Or.inr h
  have hS : va_S A s.heap s.heap [] := va_S.rf
  have hP : va_P (dC, dI) vwCl [(a_layout, .inr (6, [.int 0, .int 0, .int 0, .int 0, .long 0, .null, .null]))] s.heap := hP
  have hl := lv_entry ([.ref a_layout]) (n := 1) (Nat.le_of_ble_eq_true rfl)
  rw [lg_entry_eq]
  generalize (lg_sl ([.ref a_layout]) ++ List.replicate (1 - (lg_sl ([.ref a_layout])).length) Slot.unset).toArray = ls at hl ⊢
  have hl : lv_has ls 1 [(0, .ref a_layout)] := hl
  refine lv_aload_n hx hb dLayout_init_0 rfl (lv_at hl 0 rfl) ?_
  refine W.objInit hx hb hown (hts _ (om_m w_164)) (hts _ (om_m w_24)) (hts _ (om_m w_25)) rfl (by rw [hml]; exact hl.1) rfl dLayout_init_1 (Nat.le_of_ble_eq_true rfl) (Nat.le_of_ble_eq_true rfl) ?_
  refine W.eq (g2 := F0 m 4 ls []) rfl ?_
  refine lv_aload_n hx hb dLayout_init_4 rfl (lv_at hl 0 rfl) ?_
  refine lv_sipush (v := 401) hx hb dLayout_init_5 (by decide) ?_
  refine va_newa (atype := .int) (N' := 401) (a0 := (401, .inl (fun _ => 0))) (ty := .int) (n := 401) hx hb (hts _ (om_m w_58)) rfl hK hP hD hS hA (fun _ => rfl) (by decide) (by decide) (by decide) (Nat.le_of_ble_eq_true rfl) (Nat.le_of_ble_eq_true rfl) dLayout_init_8 (fun q1 qc2 H hK hP hD hS => ?_)
  have hK : va_K (dC, dI) vwCl [(qc2, .int)] s := hK
  have hP : va_P (dC, dI) vwCl [(a_layout, .inr (6, [.int 0, .int 0, .int 0, .int 0, .long 0, .null, .null])), (q1, .inl (qc2, 401, .inl (fun _ => 0)))] H := hP
  have hD : va_D A [(a_layout, .inr (6, [.int 0, .int 0, .int 0, .int 0, .long 0, .null, .null])), (q1, .inl (qc2, 401, .inl (fun _ => 0)))] := hD
  refine W.widen (k := 1) (n := 401) (Nat.le_of_ble_eq_true rfl) (Nat.le_of_ble_eq_true rfl) ?_
  refine va_putF (D := (dC, dI)) (ci := 6) (v := .ref q1) (ty := .array .int) (C := RLayout) (T := TLayout) (N := 7) hx hb hts (fun w h => om_m (inLayout w h)) tyLayout tyLayout_ok nmLayout hown hK hP hD hS 0 rfl rfl 5 (by decide) (hts _ (om_m w_173)) (fun _ h9 => h9) rfl hin rfl (by decide +kernel) rfl rfl (Nat.le_of_ble_eq_true rfl) dLayout_init_10 (fun H locs hP hD hS => ?_)
  have hP : va_P (dC, dI) vwCl [(a_layout, .inr (6, [.int 0, .int 0, .int 0, .int 0, .long 0, .ref q1, .null])), (q1, .inl (qc2, 401, .inl (fun _ => 0)))] H := hP
  have hD : va_D A [(a_layout, .inr (6, [.int 0, .int 0, .int 0, .int 0, .long 0, .ref q1, .null])), (q1, .inl (qc2, 401, .inl (fun _ => 0)))] := hD
  refine lv_aload_n hx hb dLayout_init_13 rfl (lv_at hl 0 rfl) ?_
  refine lv_sipush (v := 401) hx hb dLayout_init_14 (by decide) ?_
  refine va_newa (atype := .int) (N' := 401) (a0 := (401, .inl (fun _ => 0))) (ty := .int) (n := 401) hx hb (hts _ (om_m w_58)) rfl hK hP hD hS hA (fun _ => rfl) (by decide) (by decide) (by decide) (Nat.le_of_ble_eq_true rfl) (Nat.le_of_ble_eq_true rfl) dLayout_init_17 (fun q3 qc4 H hK hP hD hS => ?_)
  have hK : va_K (dC, dI) vwCl [(qc2, .int), (qc4, .int)] s := hK
  have hP : va_P (dC, dI) vwCl [(a_layout, .inr (6, [.int 0, .int 0, .int 0, .int 0, .long 0, .ref q1, .null])), (q1, .inl (qc2, 401, .inl (fun _ => 0))), (q3, .inl (qc4, 401, .inl (fun _ => 0)))] H := hP
  have hD : va_D A [(a_layout, .inr (6, [.int 0, .int 0, .int 0, .int 0, .long 0, .ref q1, .null])), (q1, .inl (qc2, 401, .inl (fun _ => 0))), (q3, .inl (qc4, 401, .inl (fun _ => 0)))] := hD
  refine W.widen (k := 2) (n := 802) (Nat.le_of_ble_eq_true rfl) (Nat.le_of_ble_eq_true rfl) ?_
  refine va_putF (D := (dC, dI)) (ci := 6) (v := .ref q3) (ty := .array .int) (C := RLayout) (T := TLayout) (N := 7) hx hb hts (fun w h => om_m (inLayout w h)) tyLayout tyLayout_ok nmLayout hown hK hP hD hS 0 rfl rfl 6 (by decide) (hts _ (om_m w_176)) (fun _ h9 => h9) rfl hin rfl (by decide +kernel) rfl rfl (Nat.le_of_ble_eq_true rfl) dLayout_init_19 (fun H locs hP hD hS => ?_)
  have hP : va_P (dC, dI) vwCl [(a_layout, .inr (6, [.int 0, .int 0, .int 0, .int 0, .long 0, .ref q1, .ref q3])), (q1, .inl (qc2, 401, .inl (fun _ => 0))), (q3, .inl (qc4, 401, .inl (fun _ => 0)))] H := hP
  have hD : va_D A [(a_layout, .inr (6, [.int 0, .int 0, .int 0, .int 0, .long 0, .ref q1, .ref q3])), (q1, .inl (qc2, 401, .inl (fun _ => 0))), (q3, .inl (qc4, 401, .inl (fun _ => 0)))] := hD
  have hP9 := hP.sub (ws' := [(a_layout, .inr (6, [.int 0, .int 0, .int 0, .int 0, .long 0, .ref q1, .ref q3])), (q1, .inl (qc2, 401, .inl (fun _ => 0))), (q3, .inl (qc4, 401, .inl (fun _ => 0)))]) [0, 1, 2] rfl
  have hD9 := hD.sub (ws' := [(a_layout, .inr (6, [.int 0, .int 0, .int 0, .int 0, .long 0, .ref q1, .ref q3])), (q1, .inl (qc2, 401, .inl (fun _ => 0))), (q3, .inl (qc4, 401, .inl (fun _ => 0)))]) [0, 1, 2] (by decide) rfl
  have hK9 := hK.sub (tys' := [(qc2, .int), (qc4, .int)]) [0, 1] rfl
  exact W.vret hx hb hr (fun t ht hW => ⟨⟨(), rfl, trivial, q1, qc2, q3, qc4, by rw [ht]; exact hP9, va_K.moved hW.alike hK9, hD9⟩, hS.F ht⟩) hS.2.2 dLayout_init_22
def om_L_Layout_lineWith_2 (layout_lines : Int32) (layout_starts : (Nat → Int32)) (layout_ends : (Nat → Int32)) (v1 : Int32) : Nat → Int32 → Option (Int32 ⊕ Int32)
  | 0, _ => none
  | k + 1, v2 => if layout_lines ≤ v2 then some (.inr (v2)) else if om_in v2 401 = true then if v1 < (layout_starts v2.toNatClampNeg) then om_L_Layout_lineWith_2 layout_lines layout_starts layout_ends v1 k (v2 + 1) else if om_in v2 401 = true then if (layout_ends v2.toNatClampNeg) ≤ v1 then om_L_Layout_lineWith_2 layout_lines layout_starts layout_ends v1 k (v2 + 1) else some (.inl v2) else none else none
def om_f_Layout_lineWith (n : Nat) (layout_lines : Int32) (layout_starts : (Nat → Int32)) (layout_ends : (Nat → Int32)) (x1 : Int32) : Option Int32 := (om_L_Layout_lineWith_2 layout_lines layout_starts layout_ends x1 n 0).bind fun u7 => om_c u7 (fun w8 => some w8) (fun w9 => some (-1))
set_option maxHeartbeats 4000000 in
set_option maxRecDepth 100000 in
theorem om_w_Layout_lineWith_2 {p : Program} {l : Launch} {e : Env} {s : State} {m : MethodId} {args : Array Value} {below : List Frame} {meth : Method} {c : Code} {Q : State → Prop} {A : Nat → Prop} (dC : Nat → ClassId) (dI : Nat → Nat → Nat) (a_layout : Nat) (a_layout_starts : Nat) (a_layout_ends : Nat) (c_layout_starts : ClassId) (c_layout_ends : ClassId)  (hx : p.tables.exec = Jvm.exec) (hb : c.code = cLayout_lineWith) (hml : c.maxLocals = 3) (hts : ∀ w ∈ wsLayout_lineWith, w.before args s = true) (hown : s.vm.findClass RLayout = some m.cls) (hA : ∀ q, s.heap.size ≤ q → A q) (n : Nat) (layout_known : Int32) (layout_lines : Int32) (layout_passTaken : Int32) (layout_extraStretch : Int32) (layout_demeritSum : Int64) (layout_starts : (Nat → Int32)) (layout_ends : (Nat → Int32)) (v1 : Int32) : ∀ (k : Nat) (v2 : Int32) (u : Int32 ⊕ Int32), om_L_Layout_lineWith_2 layout_lines layout_starts layout_ends v1 k v2 = some u → ∀ (H : Heap) (locs : List Loc) (ls : Array Slot), va_K (dC, dI) vwCl [(c_layout_starts, .int), (c_layout_ends, .int)] s → lv_has ls 3 [(0, .ref a_layout), (1, .int v1), (2, .int v2)] → va_P (dC, dI) vwCl [(a_layout, .inr (6, [.int layout_known, .int layout_lines, .int layout_passTaken, .int layout_extraStretch, .long layout_demeritSum, .ref a_layout_starts, .ref a_layout_ends])), (a_layout_starts, .inl (c_layout_starts, 401, .inl layout_starts)), (a_layout_ends, .inl (c_layout_ends, 401, .inl layout_ends))] H → va_D A [(a_layout, .inr (6, [.int layout_known, .int layout_lines, .int layout_passTaken, .int layout_extraStretch, .long layout_demeritSum, .ref a_layout_starts, .ref a_layout_ends])), (a_layout_starts, .inl (c_layout_starts, 401, .inl layout_starts)), (a_layout_ends, .inl (c_layout_ends, 401, .inl layout_ends))] → va_S A s.heap H locs → (∀ (w : Int32), u = .inl w → ∀ (H : Heap) (locs : List Loc) (ls : Array Slot), va_K (dC, dI) vwCl [(c_layout_starts, .int), (c_layout_ends, .int)] s → lv_has ls 3 [(0, .ref a_layout), (1, .int v1), (2, .int w)] → va_P (dC, dI) vwCl [(a_layout, .inr (6, [.int layout_known, .int layout_lines, .int layout_passTaken, .int layout_extraStretch, .long layout_demeritSum, .ref a_layout_starts, .ref a_layout_ends])), (a_layout_starts, .inl (c_layout_starts, 401, .inl layout_starts)), (a_layout_ends, .inl (c_layout_ends, 401, .inl layout_ends))] H → va_D A [(a_layout, .inr (6, [.int layout_known, .int layout_lines, .int layout_passTaken, .int layout_extraStretch, .long layout_demeritSum, .ref a_layout_starts, .ref a_layout_ends])), (a_layout_starts, .inl (c_layout_starts, 401, .inl layout_starts)), (a_layout_ends, .inl (c_layout_ends, 401, .inl layout_ends))] → va_S A s.heap H locs → W p l e ({ frames := 0, cells := 0, slots := 0, locals := 0 } : Room) s m args below meth c H locs 0 0 Q (F0 m 30 ls [])) → (∀ (w : Int32), u = .inr (w) → ∀ (H : Heap) (locs : List Loc) (ls : Array Slot), va_K (dC, dI) vwCl [(c_layout_starts, .int), (c_layout_ends, .int)] s → lv_has ls 3 [(0, .ref a_layout), (1, .int v1), (2, .int w)] → va_P (dC, dI) vwCl [(a_layout, .inr (6, [.int layout_known, .int layout_lines, .int layout_passTaken, .int layout_extraStretch, .long layout_demeritSum, .ref a_layout_starts, .ref a_layout_ends])), (a_layout_starts, .inl (c_layout_starts, 401, .inl layout_starts)), (a_layout_ends, .inl (c_layout_ends, 401, .inl layout_ends))] H → va_D A [(a_layout, .inr (6, [.int layout_known, .int layout_lines, .int layout_passTaken, .int layout_extraStretch, .long layout_demeritSum, .ref a_layout_starts, .ref a_layout_ends])), (a_layout_starts, .inl (c_layout_starts, 401, .inl layout_starts)), (a_layout_ends, .inl (c_layout_ends, 401, .inl layout_ends))] → va_S A s.heap H locs → W p l e ({ frames := 0, cells := 0, slots := 0, locals := 0 } : Room) s m args below meth c H locs 0 0 Q (F0 m 38 ls [])) → W p l e ({ frames := 0, cells := 0, slots := 0, locals := 0 } : Room) s m args below meth c H locs 0 0 Q (F0 m 2 ls []) := by
  intro k
  induction k with
  | zero => intro _ _ h; rw [om_L_Layout_lineWith_2] at h; cases h
  | succ k ih =>
    intro v2 u h H locs ls hK hl hP hD hS kx0 kx1
    rw [om_L_Layout_lineWith_2] at h
    refine lv_iload_n hx hb dLayout_lineWith_2 rfl (lv_at hl 2 rfl) ?_
    refine lv_aload_n hx hb dLayout_lineWith_3 rfl (lv_at hl 0 rfl) ?_
    refine va_get (D := (dC, dI)) (ci := 6) (v := .int layout_lines) (C := RLayout) (T := TLayout) (N := 7) hx hb hts (fun w h => om_m (inLayout w h)) hown hK hP 0 rfl rfl 1 (by decide) (hts _ (om_m w_166)) (fun _ h9 => h9) rfl dLayout_lineWith_4 ?_
    refine lv_icmp_ge (tgt := 38) hx hb dLayout_lineWith_7 (by decide) (fun g4 => ?_) (fun g4 => ?_)
    · have h := om_t g4 h
      obtain rfl := Option.some.inj h
      exact kx1 _ rfl _ _ ls (hK.sub [0, 1] rfl) (lv_sub hl [0, 1, 2] rfl) (hP.sub [0, 1, 2] rfl) (hD.sub [0, 1, 2] (by decide) rfl) hS
    · have h := om_f g4 h
      refine lv_iload_n hx hb dLayout_lineWith_10 rfl (lv_at hl 1 rfl) ?_
      refine lv_aload_n hx hb dLayout_lineWith_11 rfl (lv_at hl 0 rfl) ?_
      refine va_get (D := (dC, dI)) (ci := 6) (v := .ref a_layout_starts) (C := RLayout) (T := TLayout) (N := 7) hx hb hts (fun w h => om_m (inLayout w h)) hown hK hP 0 rfl rfl 5 (by decide) (hts _ (om_m w_173)) (fun _ h9 => h9) rfl dLayout_lineWith_12 ?_
      refine lv_iload_n hx hb dLayout_lineWith_15 rfl (lv_at hl 2 rfl) ?_
      obtain ⟨hi, h⟩ := om_g h
      refine va_iald (D := (dC, dI)) hx hb hK hP 1 0 rfl rfl (om_ok hi) dLayout_lineWith_16 ?_
      refine lv_icmp_lt (tgt := 32) hx hb dLayout_lineWith_17 (by decide) (fun g5 => ?_) (fun g5 => ?_)
      · have h := om_t g5 h
        refine lv_iinc (v := v2 + 1) (lv' := [(2, .int (v2 + 1)), (0, .ref a_layout), (1, .int v1)]) hx hb dLayout_lineWith_32 hl (k := 2) rfl rfl (by decide) rfl (fun ls hl => ?_)
        refine lv_goto (tgt := 2) hx hb dLayout_lineWith_35 (by decide) ?_
        exact ih (v2 + 1) _ h _ _ ls (hK.sub [0, 1] rfl) (lv_sub hl [1, 2, 0] rfl) (hP.sub [0, 1, 2] rfl) (hD.sub [0, 1, 2] (by decide) rfl) hS kx0 kx1
      · have h := om_f g5 h
        refine lv_iload_n hx hb dLayout_lineWith_20 rfl (lv_at hl 1 rfl) ?_
        refine lv_aload_n hx hb dLayout_lineWith_21 rfl (lv_at hl 0 rfl) ?_
        refine va_get (D := (dC, dI)) (ci := 6) (v := .ref a_layout_ends) (C := RLayout) (T := TLayout) (N := 7) hx hb hts (fun w h => om_m (inLayout w h)) hown hK hP 0 rfl rfl 6 (by decide) (hts _ (om_m w_176)) (fun _ h9 => h9) rfl dLayout_lineWith_22 ?_
        refine lv_iload_n hx hb dLayout_lineWith_25 rfl (lv_at hl 2 rfl) ?_
        obtain ⟨hi, h⟩ := om_g h
        refine va_iald (D := (dC, dI)) hx hb hK hP 2 1 rfl rfl (om_ok hi) dLayout_lineWith_26 ?_
        refine lv_icmp_ge (tgt := 32) hx hb dLayout_lineWith_27 (by decide) (fun g6 => ?_) (fun g6 => ?_)
        · have h := om_t g6 h
          refine lv_iinc (v := v2 + 1) (lv' := [(2, .int (v2 + 1)), (0, .ref a_layout), (1, .int v1)]) hx hb dLayout_lineWith_32 hl (k := 2) rfl rfl (by decide) rfl (fun ls hl => ?_)
          refine lv_goto (tgt := 2) hx hb dLayout_lineWith_35 (by decide) ?_
          exact ih (v2 + 1) _ h _ _ ls (hK.sub [0, 1] rfl) (lv_sub hl [1, 2, 0] rfl) (hP.sub [0, 1, 2] rfl) (hD.sub [0, 1, 2] (by decide) rfl) hS kx0 kx1
        · have h := om_f g6 h
          obtain rfl := Option.some.inj h
          exact kx0 _ rfl _ _ ls (hK.sub [0, 1] rfl) (lv_sub hl [0, 1, 2] rfl) (hP.sub [0, 1, 2] rfl) (hD.sub [0, 1, 2] (by decide) rfl) hS
set_option maxHeartbeats 4000000 in
set_option maxRecDepth 100000 in
theorem om_k_Layout_lineWith (l : Launch) (dC : Nat → ClassId) (dI : Nat → Nat → Nat) (a_layout : Nat) (a_layout_starts : Nat) (a_layout_ends : Nat) (c_layout_starts : ClassId) (c_layout_ends : ClassId)  (sz : Nat) (layout_known : Int32) (layout_lines : Int32) (layout_passTaken : Int32) (layout_extraStretch : Int32) (layout_demeritSum : Int64) (layout_starts : (Nat → Int32)) (layout_ends : (Nat → Int32)) (x1 : Int32) (n : Nat) (o : Int32) (h : om_f_Layout_lineWith n layout_lines layout_starts layout_ends x1 = some o) : Met l yLayout_lineWith wsLayout_lineWith ({ frames := 0, cells := 0, slots := 0, locals := 0 }) (va_Pc [.ref a_layout, .int x1] (fun U => U.heap.size = sz ∧ va_P (dC, dI) vwCl [(a_layout, .inr (6, [.int layout_known, .int layout_lines, .int layout_passTaken, .int layout_extraStretch, .long layout_demeritSum, .ref a_layout_starts, .ref a_layout_ends])), (a_layout_starts, .inl (c_layout_starts, 401, .inl layout_starts)), (a_layout_ends, .inl (c_layout_ends, 401, .inl layout_ends))] U.heap ∧ va_K (dC, dI) vwCl [(c_layout_starts, .int), (c_layout_ends, .int)] U ∧ va_D (fun _ => True) [(a_layout, .inr (6, [.int layout_known, .int layout_lines, .int layout_passTaken, .int layout_extraStretch, .long layout_demeritSum, .ref a_layout_starts, .ref a_layout_ends])), (a_layout_starts, .inl (c_layout_starts, 401, .inl layout_starts)), (a_layout_ends, .inl (c_layout_ends, 401, .inl layout_ends))])) (va_Qi (fun (r : Int32) (_ : Unit) => r = o) (fun (_ : Unit) t => va_P (dC, dI) vwCl [(a_layout, .inr (6, [.int layout_known, .int layout_lines, .int layout_passTaken, .int layout_extraStretch, .long layout_demeritSum, .ref a_layout_starts, .ref a_layout_ends])), (a_layout_starts, .inl (c_layout_starts, 401, .inl layout_starts)), (a_layout_ends, .inl (c_layout_ends, 401, .inl layout_ends))] t.heap ∧ va_K (dC, dI) vwCl [(c_layout_starts, .int), (c_layout_ends, .int)] t ∧ va_D (va_A [(a_layout, .inr (6, [.int layout_known, .int layout_lines, .int layout_passTaken, .int layout_extraStretch, .long layout_demeritSum, .ref a_layout_starts, .ref a_layout_ends])), (a_layout_starts, .inl (c_layout_starts, 401, .inl layout_starts)), (a_layout_ends, .inl (c_layout_ends, 401, .inl layout_ends))] sz) [(a_layout, .inr (6, [.int layout_known, .int layout_lines, .int layout_passTaken, .int layout_extraStretch, .long layout_demeritSum, .ref a_layout_starts, .ref a_layout_ends])), (a_layout_starts, .inl (c_layout_starts, 401, .inl layout_starts)), (a_layout_ends, .inl (c_layout_ends, 401, .inl layout_ends))]) (va_A [(a_layout, .inr (6, [.int layout_known, .int layout_lines, .int layout_passTaken, .int layout_extraStretch, .long layout_demeritSum, .ref a_layout_starts, .ref a_layout_ends])), (a_layout_starts, .inl (c_layout_starts, 401, .inl layout_starts)), (a_layout_ends, .inl (c_layout_ends, 401, .inl layout_ends))] sz)) 0 0 (va_A [(a_layout, .inr (6, [.int layout_known, .int layout_lines, .int layout_passTaken, .int layout_extraStretch, .long layout_demeritSum, .ref a_layout_starts, .ref a_layout_ends])), (a_layout_starts, .inl (c_layout_starts, 401, .inl layout_starts)), (a_layout_ends, .inl (c_layout_ends, 401, .inl layout_ends))] sz) := by
  refine Met.ofW (cc := cLayout_lineWith) (maxL := 3) (ret := (some .int)) (by decide) rfl ?_
  intro p e s m args below meth c s₁ B hml hv
  obtain ⟨rfl, hsz, hP, hK, hD0⟩ := hv
  have hx := B.exec
  have hb := B.bytes
  have hr := B.returns
  have hts := atoms_spec (ws := wsLayout_lineWith) B.pre
  have hown : s.vm.findClass RLayout = some m.cls := findClass_of_methodNamed B.named
  have hlocks := B.notSynchronized
  subst hsz
  have hD := hD0.self (sz := s.heap.size)
  generalize hAe : va_A [(a_layout, .inr (6, [.int layout_known, .int layout_lines, .int layout_passTaken, .int layout_extraStretch, .long layout_demeritSum, .ref a_layout_starts, .ref a_layout_ends])), (a_layout_starts, .inl (c_layout_starts, 401, .inl layout_starts)), (a_layout_ends, .inl (c_layout_ends, 401, .inl layout_ends))] s.heap.size = A at hD ⊢
  have hA : ∀ q : Nat, s.heap.size ≤ q → A q := fun q h => by rw [← hAe]; exact Or.inr h
  have hS : va_S A s.heap s.heap [] := va_S.rf
  have hP : va_P (dC, dI) vwCl [(a_layout, .inr (6, [.int layout_known, .int layout_lines, .int layout_passTaken, .int layout_extraStretch, .long layout_demeritSum, .ref a_layout_starts, .ref a_layout_ends])), (a_layout_starts, .inl (c_layout_starts, 401, .inl layout_starts)), (a_layout_ends, .inl (c_layout_ends, 401, .inl layout_ends))] s.heap := hP
  have hl := lv_entry ([.ref a_layout, .int x1]) (n := 3) (Nat.le_of_ble_eq_true rfl)
  rw [lg_entry_eq]
  generalize (lg_sl ([.ref a_layout, .int x1]) ++ List.replicate (3 - (lg_sl ([.ref a_layout, .int x1])).length) Slot.unset).toArray = ls at hl ⊢
  have hl : lv_has ls 3 [(0, .ref a_layout), (1, .int x1)] := hl
  unfold om_f_Layout_lineWith at h
  refine lv_iconst (v := 0) hx hb dLayout_lineWith_0 (by decide) ?_
  refine lv_istore_n (lv' := [(2, .int 0), (0, .ref a_layout), (1, .int x1)]) hx hb dLayout_lineWith_1 rfl hl (by decide) rfl (fun ls hl => ?_)
  obtain ⟨u7, hu7, h⟩ := om_b h
  refine om_w_Layout_lineWith_2 dC dI a_layout a_layout_starts a_layout_ends c_layout_starts c_layout_ends hx hb hml hts hown hA n layout_known layout_lines layout_passTaken layout_extraStretch layout_demeritSum layout_starts layout_ends x1 n 0 u7 hu7 _ _ ls (hK.sub [0, 1] rfl) (lv_sub hl [1, 2, 0] rfl) (hP.sub [0, 1, 2] rfl) (hD.sub [0, 1, 2] (by decide) rfl) hS (fun w8 ew8 H locs ls hK hl hP hD hS => ?_) (fun w9 ew9 H locs ls hK hl hP hD hS => ?_)
  · have h := om_cl ew8 h
    refine lv_iload_n hx hb dLayout_lineWith_30 rfl (lv_at hl 2 rfl) ?_
    obtain rfl := Option.some.inj h
    have hP9 := hP.sub (ws' := [(a_layout, .inr (6, [.int layout_known, .int layout_lines, .int layout_passTaken, .int layout_extraStretch, .long layout_demeritSum, .ref a_layout_starts, .ref a_layout_ends])), (a_layout_starts, .inl (c_layout_starts, 401, .inl layout_starts)), (a_layout_ends, .inl (c_layout_ends, 401, .inl layout_ends))]) [0, 1, 2] rfl
    have hD9 := hD.sub (ws' := [(a_layout, .inr (6, [.int layout_known, .int layout_lines, .int layout_passTaken, .int layout_extraStretch, .long layout_demeritSum, .ref a_layout_starts, .ref a_layout_ends])), (a_layout_starts, .inl (c_layout_starts, 401, .inl layout_starts)), (a_layout_ends, .inl (c_layout_ends, 401, .inl layout_ends))]) [0, 1, 2] (by decide) rfl
    have hK9 := hK.sub (tys' := [(c_layout_starts, .int), (c_layout_ends, .int)]) [0, 1] rfl
    exact W.iret (v := w8) hx hb hr (fun t ht hW => ⟨⟨_, (), rfl, rfl, by rw [ht]; exact hP9, va_K.moved hW.alike hK9, hD9⟩, hS.F ht⟩) hS.2.2 dLayout_lineWith_31
  · have h := om_cr ew9 h
    refine lv_iconst (v := (-1)) hx hb dLayout_lineWith_38 (by decide) ?_
    obtain rfl := Option.some.inj h
    have hP9 := hP.sub (ws' := [(a_layout, .inr (6, [.int layout_known, .int layout_lines, .int layout_passTaken, .int layout_extraStretch, .long layout_demeritSum, .ref a_layout_starts, .ref a_layout_ends])), (a_layout_starts, .inl (c_layout_starts, 401, .inl layout_starts)), (a_layout_ends, .inl (c_layout_ends, 401, .inl layout_ends))]) [0, 1, 2] rfl
    have hD9 := hD.sub (ws' := [(a_layout, .inr (6, [.int layout_known, .int layout_lines, .int layout_passTaken, .int layout_extraStretch, .long layout_demeritSum, .ref a_layout_starts, .ref a_layout_ends])), (a_layout_starts, .inl (c_layout_starts, 401, .inl layout_starts)), (a_layout_ends, .inl (c_layout_ends, 401, .inl layout_ends))]) [0, 1, 2] (by decide) rfl
    have hK9 := hK.sub (tys' := [(c_layout_starts, .int), (c_layout_ends, .int)]) [0, 1] rfl
    exact W.iret (v := (-1)) hx hb hr (fun t ht hW => ⟨⟨_, (), rfl, rfl, by rw [ht]; exact hP9, va_K.moved hW.alike hK9, hD9⟩, hS.F ht⟩) hS.2.2 dLayout_lineWith_39
