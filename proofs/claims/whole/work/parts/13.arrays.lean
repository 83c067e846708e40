def om_L_Arrays_fillJ_6 (arr0_n : Nat) (v1 : Int64) (v4 : Int32) : Nat → Int32 → (Nat → Int64) → Option ((Int32 × (Nat → Int64)))
  | 0, _, _ => none
  | k + 1, v3, arr0 => if v4 ≤ v3 then some (v3, arr0) else if om_in v3 arr0_n = true then om_L_Arrays_fillJ_6 arr0_n v1 v4 k (v3 + 1) (vp_updL arr0 v3.toNatClampNeg v1) else none
def om_f_Arrays_fillJ (n : Nat) (arr0_n : Nat) (arr0 : (Nat → Int64)) (x1 : Int64) : Option (Nat → Int64) := (om_L_Arrays_fillJ_6 arr0_n x1 (Int32.ofNat arr0_n) n 0 arr0).bind fun u3 => some u3.2
set_option maxHeartbeats 4000000 in
set_option maxRecDepth 100000 in
theorem om_w_Arrays_fillJ_6 {p : Program} {l : Launch} {e : Env} {s : State} {m : MethodId} {args : Array Value} {below : List Frame} {meth : Method} {c : Code} {Q : State → Prop} {A : Nat → Prop} (dC : Nat → ClassId) (dI : Nat → Nat → Nat) (a_arr0 : Nat) (c_arr0 : ClassId) (arr0_n : Nat) (hx : p.tables.exec = Jvm.exec) (hb : c.code = cArrays_fillJ) (hml : c.maxLocals = 5) (hts : ∀ w ∈ wsArrays_fillJ, w.before args s = true) (hown : s.vm.findClass RArrays = some m.cls) (hA : ∀ q, s.heap.size ≤ q → A q) (n : Nat) (v1 : Int64) (v4 : Int32) : ∀ (k : Nat) (v3 : Int32) (arr0 : (Nat → Int64)) (u : (Int32 × (Nat → Int64))), om_L_Arrays_fillJ_6 arr0_n v1 v4 k v3 arr0 = some u → ∀ (H : Heap) (locs : List Loc) (ls : Array Slot), va_K (dC, dI) vwCl [(c_arr0, .long)] s → lv_has ls 5 [(0, .ref a_arr0), (1, .long v1), (3, .int v3), (4, .int v4)] → va_P (dC, dI) vwCl [(a_arr0, .inl (c_arr0, arr0_n, .inr (.inl arr0)))] H → va_D A [(a_arr0, .inl (c_arr0, arr0_n, .inr (.inl arr0)))] → va_S A s.heap H locs → (∀ (H : Heap) (locs : List Loc) (ls : Array Slot), va_K (dC, dI) vwCl [(c_arr0, .long)] s → lv_has ls 5 [(0, .ref a_arr0), (1, .long v1), (3, .int u.1), (4, .int v4)] → va_P (dC, dI) vwCl [(a_arr0, .inl (c_arr0, arr0_n, .inr (.inl u.2)))] H → va_D A [(a_arr0, .inl (c_arr0, arr0_n, .inr (.inl u.2)))] → va_S A s.heap H locs → W p l e ({ frames := 0, cells := 0, slots := 0, locals := 0 } : Room) s m args below meth c H locs 0 0 Q (F0 m 22 ls [])) → W p l e ({ frames := 0, cells := 0, slots := 0, locals := 0 } : Room) s m args below meth c H locs 0 0 Q (F0 m 6 ls []) := by
  intro k
  induction k with
  | zero => intro _ _ _ h; rw [om_L_Arrays_fillJ_6] at h; cases h
  | succ k ih =>
    intro v3 arr0 u h H locs ls hK hl hP hD hS kx0
    rw [om_L_Arrays_fillJ_6] at h
    refine lv_iload_n hx hb dArrays_fillJ_6 rfl (lv_at hl 2 rfl) ?_
    refine lv_iload hx hb dArrays_fillJ_7 (lv_at hl 3 rfl) ?_
    refine lv_icmp_ge (tgt := 22) hx hb dArrays_fillJ_9 (by decide) (fun g2 => ?_) (fun g2 => ?_)
    · have h := om_t g2 h
      obtain rfl := Option.some.inj h
      exact kx0 _ _ ls (hK.sub [0] rfl) (lv_sub hl [0, 1, 2, 3] rfl) (hP.sub [0] rfl) (hD.sub [0] (by decide) rfl) hS
    · have h := om_f g2 h
      refine lv_aload_n hx hb dArrays_fillJ_12 rfl (lv_at hl 0 rfl) ?_
      refine lv_iload_n hx hb dArrays_fillJ_13 rfl (lv_at hl 2 rfl) ?_
      refine lv_lload_n hx hb dArrays_fillJ_14 rfl (lv_at hl 1 rfl) ?_
      obtain ⟨hi, h⟩ := om_g h
      refine va_last (D := (dC, dI)) hx hb hK hP hD hS 0 0 rfl rfl (om_ok hi) dArrays_fillJ_15 (fun H locs hP hD hS => ?_)
      have hP : va_P (dC, dI) vwCl [(a_arr0, .inl (c_arr0, arr0_n, .inr (.inl (vp_updL arr0 v3.toNatClampNeg v1))))] H := hP
      have hD : va_D A [(a_arr0, .inl (c_arr0, arr0_n, .inr (.inl (vp_updL arr0 v3.toNatClampNeg v1))))] := hD
      refine lv_iinc (v := v3 + 1) (lv' := [(3, .int (v3 + 1)), (0, .ref a_arr0), (1, .long v1), (4, .int v4)]) hx hb dArrays_fillJ_16 hl (k := 2) rfl rfl (by decide) rfl (fun ls hl => ?_)
      refine lv_goto (tgt := 6) hx hb dArrays_fillJ_19 (by decide) ?_
      exact ih (v3 + 1) (vp_updL arr0 v3.toNatClampNeg v1) _ h _ _ ls (hK.sub [0] rfl) (lv_sub hl [1, 2, 0, 3] rfl) (hP.sub [0] rfl) (hD.sub [0] (by decide) rfl) hS kx0
set_option maxHeartbeats 4000000 in
set_option maxRecDepth 100000 in
theorem om_k_Arrays_fillJ (l : Launch) (dC : Nat → ClassId) (dI : Nat → Nat → Nat) (a_arr0 : Nat) (c_arr0 : ClassId) (arr0_n : Nat) (sz : Nat) (arr0 : (Nat → Int64)) (x1 : Int64) (n : Nat) (o : (Nat → Int64)) (h : om_f_Arrays_fillJ n arr0_n arr0 x1 = some o) : Met l yArrays_fillJ wsArrays_fillJ ({ frames := 0, cells := 0, slots := 0, locals := 0 }) (va_Pc [.ref a_arr0, .long x1] (fun U => U.heap.size = sz ∧ va_P (dC, dI) vwCl [(a_arr0, .inl (c_arr0, arr0_n, .inr (.inl arr0)))] U.heap ∧ va_K (dC, dI) vwCl [(c_arr0, .long)] U ∧ va_D (fun _ => True) [(a_arr0, .inl (c_arr0, arr0_n, .inr (.inl arr0)))])) (va_Qv (fun (_ : Unit) => True) (fun (_ : Unit) t => va_P (dC, dI) vwCl [(a_arr0, .inl (c_arr0, arr0_n, .inr (.inl o)))] t.heap ∧ va_K (dC, dI) vwCl [(c_arr0, .long)] t ∧ va_D (va_A [(a_arr0, .inl (c_arr0, arr0_n, .inr (.inl arr0)))] sz) [(a_arr0, .inl (c_arr0, arr0_n, .inr (.inl o)))]) (va_A [(a_arr0, .inl (c_arr0, arr0_n, .inr (.inl arr0)))] sz)) 0 0 (va_A [(a_arr0, .inl (c_arr0, arr0_n, .inr (.inl arr0)))] sz) := by
  refine Met.ofW (cc := cArrays_fillJ) (maxL := 5) (ret := none) (by decide) rfl ?_
  intro p e s m args below meth c s₁ B hml hv
  obtain ⟨rfl, hsz, hP, hK, hD0⟩ := hv
  have hx := B.exec
  have hb := B.bytes
  have hr := B.returns
  have hts := atoms_spec (ws := wsArrays_fillJ) B.pre
  have hown : s.vm.findClass RArrays = some m.cls := findClass_of_methodNamed B.named
  have hlocks := B.notSynchronized
  subst hsz
  have hD := hD0.self (sz := s.heap.size)
  generalize hAe : va_A [(a_arr0, .inl (c_arr0, arr0_n, .inr (.inl arr0)))] s.heap.size = A at hD ⊢
  have hA : ∀ q : Nat, s.heap.size ≤ q → A q := fun q h => by rw [← hAe]; exact Or.inr h
  have hS : va_S A s.heap s.heap [] := va_S.rf
  have hP : va_P (dC, dI) vwCl [(a_arr0, .inl (c_arr0, arr0_n, .inr (.inl arr0)))] s.heap := hP
  have hl := lv_entry ([.ref a_arr0, .long x1]) (n := 5) (Nat.le_of_ble_eq_true rfl)
  rw [lg_entry_eq]
  generalize (lg_sl ([.ref a_arr0, .long x1]) ++ List.replicate (5 - (lg_sl ([.ref a_arr0, .long x1])).length) Slot.unset).toArray = ls at hl ⊢
  have hl : lv_has ls 5 [(0, .ref a_arr0), (1, .long x1)] := hl
  unfold om_f_Arrays_fillJ at h
  refine lv_iconst (v := 0) hx hb dArrays_fillJ_0 (by decide) ?_
  refine lv_istore_n (lv' := [(3, .int 0), (0, .ref a_arr0), (1, .long x1)]) hx hb dArrays_fillJ_1 rfl hl (by decide) rfl (fun ls hl => ?_)
  refine lv_aload_n hx hb dArrays_fillJ_2 rfl (lv_at hl 1 rfl) ?_
  refine va_alen (D := (dC, dI)) hx hb hK hP 0 0 rfl rfl (v := Int32.ofNat arr0_n) rfl dArrays_fillJ_3 ?_
  refine lv_istore (lv' := [(4, .int (Int32.ofNat arr0_n)), (3, .int 0), (0, .ref a_arr0), (1, .long x1)]) hx hb dArrays_fillJ_4 hl (by decide) rfl (fun ls hl => ?_)
  obtain ⟨u3, hu3, h⟩ := om_b h
  refine om_w_Arrays_fillJ_6 dC dI a_arr0 c_arr0 arr0_n hx hb hml hts hown hA n x1 (Int32.ofNat arr0_n) n 0 arr0 u3 hu3 _ _ ls (hK.sub [0] rfl) (lv_sub hl [2, 3, 1, 0] rfl) (hP.sub [0] rfl) (hD.sub [0] (by decide) rfl) hS (fun H locs ls hK hl hP hD hS => ?_)
  obtain rfl := Option.some.inj h
  have hP9 := hP.sub (ws' := [(a_arr0, .inl (c_arr0, arr0_n, .inr (.inl u3.2)))]) [0] rfl
  have hD9 := hD.sub (ws' := [(a_arr0, .inl (c_arr0, arr0_n, .inr (.inl u3.2)))]) [0] (by decide) rfl
  have hK9 := hK.sub (tys' := [(c_arr0, .long)]) [0] rfl
  exact W.vret hx hb hr (fun t ht hW => ⟨⟨(), rfl, trivial, by rw [ht]; exact hP9, va_K.moved hW.alike hK9, hD9⟩, hS.F ht⟩) hS.2.2 dArrays_fillJ_22
def om_L_Arrays_fillI_5 (arr0_n : Nat) (v1 : Int32) (v3 : Int32) : Nat → Int32 → (Nat → Int32) → Option ((Int32 × (Nat → Int32)))
  | 0, _, _ => none
  | k + 1, v2, arr0 => if v3 ≤ v2 then some (v2, arr0) else if om_in v2 arr0_n = true then om_L_Arrays_fillI_5 arr0_n v1 v3 k (v2 + 1) (upd arr0 v2.toNatClampNeg v1) else none
def om_f_Arrays_fillI (n : Nat) (arr0_n : Nat) (arr0 : (Nat → Int32)) (x1 : Int32) : Option (Nat → Int32) := (om_L_Arrays_fillI_5 arr0_n x1 (Int32.ofNat arr0_n) n 0 arr0).bind fun u3 => some u3.2
set_option maxHeartbeats 4000000 in
set_option maxRecDepth 100000 in
theorem om_w_Arrays_fillI_5 {p : Program} {l : Launch} {e : Env} {s : State} {m : MethodId} {args : Array Value} {below : List Frame} {meth : Method} {c : Code} {Q : State → Prop} {A : Nat → Prop} (dC : Nat → ClassId) (dI : Nat → Nat → Nat) (a_arr0 : Nat) (c_arr0 : ClassId) (arr0_n : Nat) (hx : p.tables.exec = Jvm.exec) (hb : c.code = cArrays_fillI) (hml : c.maxLocals = 4) (hts : ∀ w ∈ wsArrays_fillI, w.before args s = true) (hown : s.vm.findClass RArrays = some m.cls) (hA : ∀ q, s.heap.size ≤ q → A q) (n : Nat) (v1 : Int32) (v3 : Int32) : ∀ (k : Nat) (v2 : Int32) (arr0 : (Nat → Int32)) (u : (Int32 × (Nat → Int32))), om_L_Arrays_fillI_5 arr0_n v1 v3 k v2 arr0 = some u → ∀ (H : Heap) (locs : List Loc) (ls : Array Slot), va_K (dC, dI) vwCl [(c_arr0, .int)] s → lv_has ls 4 [(0, .ref a_arr0), (1, .int v1), (2, .int v2), (3, .int v3)] → va_P (dC, dI) vwCl [(a_arr0, .inl (c_arr0, arr0_n, .inl arr0))] H → va_D A [(a_arr0, .inl (c_arr0, arr0_n, .inl arr0))] → va_S A s.heap H locs → (∀ (H : Heap) (locs : List Loc) (ls : Array Slot), va_K (dC, dI) vwCl [(c_arr0, .int)] s → lv_has ls 4 [(0, .ref a_arr0), (1, .int v1), (2, .int u.1), (3, .int v3)] → va_P (dC, dI) vwCl [(a_arr0, .inl (c_arr0, arr0_n, .inl u.2))] H → va_D A [(a_arr0, .inl (c_arr0, arr0_n, .inl u.2))] → va_S A s.heap H locs → W p l e ({ frames := 0, cells := 0, slots := 0, locals := 0 } : Room) s m args below meth c H locs 0 0 Q (F0 m 20 ls [])) → W p l e ({ frames := 0, cells := 0, slots := 0, locals := 0 } : Room) s m args below meth c H locs 0 0 Q (F0 m 5 ls []) := by
  intro k
  induction k with
  | zero => intro _ _ _ h; rw [om_L_Arrays_fillI_5] at h; cases h
  | succ k ih =>
    intro v2 arr0 u h H locs ls hK hl hP hD hS kx0
    rw [om_L_Arrays_fillI_5] at h
    refine lv_iload_n hx hb dArrays_fillI_5 rfl (lv_at hl 2 rfl) ?_
    refine lv_iload_n hx hb dArrays_fillI_6 rfl (lv_at hl 3 rfl) ?_
    refine lv_icmp_ge (tgt := 20) hx hb dArrays_fillI_7 (by decide) (fun g2 => ?_) (fun g2 => ?_)
    · have h := om_t g2 h
      obtain rfl := Option.some.inj h
      exact kx0 _ _ ls (hK.sub [0] rfl) (lv_sub hl [0, 1, 2, 3] rfl) (hP.sub [0] rfl) (hD.sub [0] (by decide) rfl) hS
    · have h := om_f g2 h
      refine lv_aload_n hx hb dArrays_fillI_10 rfl (lv_at hl 0 rfl) ?_
      refine lv_iload_n hx hb dArrays_fillI_11 rfl (lv_at hl 2 rfl) ?_
      refine lv_iload_n hx hb dArrays_fillI_12 rfl (lv_at hl 1 rfl) ?_
      obtain ⟨hi, h⟩ := om_g h
      refine va_iast (D := (dC, dI)) hx hb hK hP hD hS 0 0 rfl rfl (om_ok hi) dArrays_fillI_13 (fun H locs hP hD hS => ?_)
      have hP : va_P (dC, dI) vwCl [(a_arr0, .inl (c_arr0, arr0_n, .inl (upd arr0 v2.toNatClampNeg v1)))] H := hP
      have hD : va_D A [(a_arr0, .inl (c_arr0, arr0_n, .inl (upd arr0 v2.toNatClampNeg v1)))] := hD
      refine lv_iinc (v := v2 + 1) (lv' := [(2, .int (v2 + 1)), (0, .ref a_arr0), (1, .int v1), (3, .int v3)]) hx hb dArrays_fillI_14 hl (k := 2) rfl rfl (by decide) rfl (fun ls hl => ?_)
      refine lv_goto (tgt := 5) hx hb dArrays_fillI_17 (by decide) ?_
      exact ih (v2 + 1) (upd arr0 v2.toNatClampNeg v1) _ h _ _ ls (hK.sub [0] rfl) (lv_sub hl [1, 2, 0, 3] rfl) (hP.sub [0] rfl) (hD.sub [0] (by decide) rfl) hS kx0
set_option maxHeartbeats 4000000 in
set_option maxRecDepth 100000 in
theorem om_k_Arrays_fillI (l : Launch) (dC : Nat → ClassId) (dI : Nat → Nat → Nat) (a_arr0 : Nat) (c_arr0 : ClassId) (arr0_n : Nat) (sz : Nat) (arr0 : (Nat → Int32)) (x1 : Int32) (n : Nat) (o : (Nat → Int32)) (h : om_f_Arrays_fillI n arr0_n arr0 x1 = some o) : Met l yArrays_fillI wsArrays_fillI ({ frames := 0, cells := 0, slots := 0, locals := 0 }) (va_Pc [.ref a_arr0, .int x1] (fun U => U.heap.size = sz ∧ va_P (dC, dI) vwCl [(a_arr0, .inl (c_arr0, arr0_n, .inl arr0))] U.heap ∧ va_K (dC, dI) vwCl [(c_arr0, .int)] U ∧ va_D (fun _ => True) [(a_arr0, .inl (c_arr0, arr0_n, .inl arr0))])) (va_Qv (fun (_ : Unit) => True) (fun (_ : Unit) t => va_P (dC, dI) vwCl [(a_arr0, .inl (c_arr0, arr0_n, .inl o))] t.heap ∧ va_K (dC, dI) vwCl [(c_arr0, .int)] t ∧ va_D (va_A [(a_arr0, .inl (c_arr0, arr0_n, .inl arr0))] sz) [(a_arr0, .inl (c_arr0, arr0_n, .inl o))]) (va_A [(a_arr0, .inl (c_arr0, arr0_n, .inl arr0))] sz)) 0 0 (va_A [(a_arr0, .inl (c_arr0, arr0_n, .inl arr0))] sz) := by
  refine Met.ofW (cc := cArrays_fillI) (maxL := 4) (ret := none) (by decide) rfl ?_
  intro p e s m args below meth c s₁ B hml hv
  obtain ⟨rfl, hsz, hP, hK, hD0⟩ := hv
  have hx := B.exec
  have hb := B.bytes
  have hr := B.returns
  have hts := atoms_spec (ws := wsArrays_fillI) B.pre
  have hown : s.vm.findClass RArrays = some m.cls := findClass_of_methodNamed B.named
  have hlocks := B.notSynchronized
  subst hsz
  have hD := hD0.self (sz := s.heap.size)
  generalize hAe : va_A [(a_arr0, .inl (c_arr0, arr0_n, .inl arr0))] s.heap.size = A at hD ⊢
  have hA : ∀ q : Nat, s.heap.size ≤ q → A q := fun q h => by rw [← hAe]; exact Or.inr h
  have hS : va_S A s.heap s.heap [] := va_S.rf
  have hP : va_P (dC, dI) vwCl [(a_arr0, .inl (c_arr0, arr0_n, .inl arr0))] s.heap := hP
  have hl := lv_entry ([.ref a_arr0, .int x1]) (n := 4) (Nat.le_of_ble_eq_true rfl)
  rw [lg_entry_eq]
  generalize (lg_sl ([.ref a_arr0, .int x1]) ++ List.replicate (4 - (lg_sl ([.ref a_arr0, .int x1])).length) Slot.unset).toArray = ls at hl ⊢
  have hl : lv_has ls 4 [(0, .ref a_arr0), (1, .int x1)] := hl
  unfold om_f_Arrays_fillI at h
  refine lv_iconst (v := 0) hx hb dArrays_fillI_0 (by decide) ?_
  refine lv_istore_n (lv' := [(2, .int 0), (0, .ref a_arr0), (1, .int x1)]) hx hb dArrays_fillI_1 rfl hl (by decide) rfl (fun ls hl => ?_)
  refine lv_aload_n hx hb dArrays_fillI_2 rfl (lv_at hl 1 rfl) ?_
  refine va_alen (D := (dC, dI)) hx hb hK hP 0 0 rfl rfl (v := Int32.ofNat arr0_n) rfl dArrays_fillI_3 ?_
  refine lv_istore_n (lv' := [(3, .int (Int32.ofNat arr0_n)), (2, .int 0), (0, .ref a_arr0), (1, .int x1)]) hx hb dArrays_fillI_4 rfl hl (by decide) rfl (fun ls hl => ?_)
  obtain ⟨u3, hu3, h⟩ := om_b h
  refine om_w_Arrays_fillI_5 dC dI a_arr0 c_arr0 arr0_n hx hb hml hts hown hA n x1 (Int32.ofNat arr0_n) n 0 arr0 u3 hu3 _ _ ls (hK.sub [0] rfl) (lv_sub hl [2, 3, 1, 0] rfl) (hP.sub [0] rfl) (hD.sub [0] (by decide) rfl) hS (fun H locs ls hK hl hP hD hS => ?_)
  obtain rfl := Option.some.inj h
  have hP9 := hP.sub (ws' := [(a_arr0, .inl (c_arr0, arr0_n, .inl u3.2))]) [0] rfl
  have hD9 := hD.sub (ws' := [(a_arr0, .inl (c_arr0, arr0_n, .inl u3.2))]) [0] (by decide) rfl
  have hK9 := hK.sub (tys' := [(c_arr0, .int)]) [0] rfl
  exact W.vret hx hb hr (fun t ht hW => ⟨⟨(), rfl, trivial, by rw [ht]; exact hP9, va_K.moved hW.alike hK9, hD9⟩, hS.F ht⟩) hS.2.2 dArrays_fillI_20
