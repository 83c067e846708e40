abbrev ROL : String := "OptimalLines"
def TOL : u_T := fun k => match k with
  | 0 => ("OptimalLines", "items", "LOptimalLines$Items;", true)
  | 1 => ("OptimalLines", "lineWidths", "[I", true)
  | 2 => ("OptimalLines", "settings", "[I", true)
  | 3 => ("OptimalLines", "breaks", "LOptimalLines$Breaks;", true)
  | 4 => ("OptimalLines", "ruler", "LOptimalLines$Ruler;", true)
  | 5 => ("OptimalLines", "search", "LOptimalLines$Search;", true)
  | _ => ("OptimalLines", "layout", "LOptimalLines$Layout;", true)
def tyOL : Nat → FieldType := fun k => match k with
  | 0 => .object "OptimalLines$Items"
  | 1 => .array .int
  | 2 => .array .int
  | 3 => .object "OptimalLines$Breaks"
  | 4 => .object "OptimalLines$Ruler"
  | 5 => .object "OptimalLines$Search"
  | _ => .object "OptimalLines$Layout"
theorem nmOL : ∀ a, a < 7 → ∀ b, b < 7 → a ≠ b → (TOL a).2.1 ≠ (TOL b).2.1 := by decide +kernel
theorem tyOL_ok : ∀ k, k < 7 → parseFieldDescriptor (TOL k).2.2.1 = some (tyOL k) := by decide +kernel
theorem inOL : ∀ w ∈ u_ws ROL TOL 7, w ∈ om_W := by
  intro w h
  obtain ⟨k, hk, rfl⟩ := List.mem_map.mp h
  have hk : k < 7 := List.mem_range.mp hk
  by_cases e0 : k = 0
  · subst e0; exact w_193
  by_cases e1 : k = 1
  · subst e1; exact w_194
  by_cases e2 : k = 2
  · subst e2; exact w_195
  by_cases e3 : k = 3
  · subst e3; exact w_196
  by_cases e4 : k = 4
  · subst e4; exact w_197
  by_cases e5 : k = 5
  · subst e5; exact w_198
  by_cases e6 : k = 6
  · subst e6; exact w_199
  omega
abbrev RItems : String := "OptimalLines$Items"
def TItems : u_T := fun k => match k with
  | 0 => ("OptimalLines$Items", "count", "I", false)
  | 1 => ("OptimalLines$Items", "kinds", "[I", true)
  | 2 => ("OptimalLines$Items", "penaltyWidths", "[I", true)
  | 3 => ("OptimalLines$Items", "costs", "[I", true)
  | 4 => ("OptimalLines$Items", "flags", "[Z", true)
  | 5 => ("OptimalLines$Items", "widthBefore", "[I", true)
  | 6 => ("OptimalLines$Items", "stretchBefore", "[I", true)
  | 7 => ("OptimalLines$Items", "shrinkBefore", "[I", true)
  | _ => ("OptimalLines$Items", "fillBefore", "[I", true)
def tyItems : Nat → FieldType := fun k => match k with
  | 0 => .int
  | 1 => .array .int
  | 2 => .array .int
  | 3 => .array .int
  | 4 => .array .boolean
  | 5 => .array .int
  | 6 => .array .int
  | 7 => .array .int
  | _ => .array .int
theorem nmItems : ∀ a, a < 9 → ∀ b, b < 9 → a ≠ b → (TItems a).2.1 ≠ (TItems b).2.1 := by decide +kernel
theorem tyItems_ok : ∀ k, k < 9 → parseFieldDescriptor (TItems k).2.2.1 = some (tyItems k) := by decide +kernel
theorem inItems : ∀ w ∈ u_ws RItems TItems 9, w ∈ om_W := by
  intro w h
  obtain ⟨k, hk, rfl⟩ := List.mem_map.mp h
  have hk : k < 9 := List.mem_range.mp hk
  by_cases e0 : k = 0
  · subst e0; exact w_49
  by_cases e1 : k = 1
  · subst e1; exact w_50
  by_cases e2 : k = 2
  · subst e2; exact w_51
  by_cases e3 : k = 3
  · subst e3; exact w_52
  by_cases e4 : k = 4
  · subst e4; exact w_53
  by_cases e5 : k = 5
  · subst e5; exact w_54
  by_cases e6 : k = 6
  · subst e6; exact w_55
  by_cases e7 : k = 7
  · subst e7; exact w_56
  by_cases e8 : k = 8
  · subst e8; exact w_57
  omega
abbrev RBreaks : String := "OptimalLines$Breaks"
def TBreaks : u_T := fun k => match k with
  | 0 => ("OptimalLines$Breaks", "items", "LOptimalLines$Items;", true)
  | 1 => ("OptimalLines$Breaks", "last", "I", false)
  | 2 => ("OptimalLines$Breaks", "at", "[I", true)
  | 3 => ("OptimalLines$Breaks", "heads", "[I", true)
  | 4 => ("OptimalLines$Breaks", "farthest", "[I", true)
  | _ => ("OptimalLines$Breaks", "leastReach", "[I", true)
def tyBreaks : Nat → FieldType := fun k => match k with
  | 0 => .object "OptimalLines$Items"
  | 1 => .int
  | 2 => .array .int
  | 3 => .array .int
  | 4 => .array .int
  | _ => .array .int
theorem nmBreaks : ∀ a, a < 6 → ∀ b, b < 6 → a ≠ b → (TBreaks a).2.1 ≠ (TBreaks b).2.1 := by decide +kernel
theorem tyBreaks_ok : ∀ k, k < 6 → parseFieldDescriptor (TBreaks k).2.2.1 = some (tyBreaks k) := by decide +kernel
theorem inBreaks : ∀ w ∈ u_ws RBreaks TBreaks 6, w ∈ om_W := by
  intro w h
  obtain ⟨k, hk, rfl⟩ := List.mem_map.mp h
  have hk : k < 6 := List.mem_range.mp hk
  by_cases e0 : k = 0
  · subst e0; exact w_95
  by_cases e1 : k = 1
  · subst e1; exact w_96
  by_cases e2 : k = 2
  · subst e2; exact w_97
  by_cases e3 : k = 3
  · subst e3; exact w_98
  by_cases e4 : k = 4
  · subst e4; exact w_99
  by_cases e5 : k = 5
  · subst e5; exact w_100
  omega
abbrev RRuler : String := "OptimalLines$Ruler"
def TRuler : u_T := fun k => match k with
  | 0 => ("OptimalLines$Ruler", "items", "LOptimalLines$Items;", true)
  | 1 => ("OptimalLines$Ruler", "start", "I", false)
  | 2 => ("OptimalLines$Ruler", "stretch", "I", false)
  | 3 => ("OptimalLines$Ruler", "shrink", "I", false)
  | 4 => ("OptimalLines$Ruler", "fill", "I", false)
  | _ => ("OptimalLines$Ruler", "excess", "I", false)
def tyRuler : Nat → FieldType := fun k => match k with
  | 0 => .object "OptimalLines$Items"
  | 1 => .int
  | 2 => .int
  | 3 => .int
  | 4 => .int
  | _ => .int
theorem nmRuler : ∀ a, a < 6 → ∀ b, b < 6 → a ≠ b → (TRuler a).2.1 ≠ (TRuler b).2.1 := by decide +kernel
theorem tyRuler_ok : ∀ k, k < 6 → parseFieldDescriptor (TRuler k).2.2.1 = some (tyRuler k) := by decide +kernel
theorem inRuler : ∀ w ∈ u_ws RRuler TRuler 6, w ∈ om_W := by
  intro w h
  obtain ⟨k, hk, rfl⟩ := List.mem_map.mp h
  have hk : k < 6 := List.mem_range.mp hk
  by_cases e0 : k = 0
  · subst e0; exact w_114
  by_cases e1 : k = 1
  · subst e1; exact w_115
  by_cases e2 : k = 2
  · subst e2; exact w_116
  by_cases e3 : k = 3
  · subst e3; exact w_117
  by_cases e4 : k = 4
  · subst e4; exact w_118
  by_cases e5 : k = 5
  · subst e5; exact w_119
  omega
abbrev RSearch : String := "OptimalLines$Search"
def TSearch : u_T := fun k => match k with
  | 0 => ("OptimalLines$Search", "breaks", "LOptimalLines$Breaks;", true)
  | 1 => ("OptimalLines$Search", "ruler", "LOptimalLines$Ruler;", true)
  | 2 => ("OptimalLines$Search", "lineWidths", "[I", true)
  | 3 => ("OptimalLines$Search", "settings", "[I", true)
  | 4 => ("OptimalLines$Search", "trail", "LOptimalLines$Trail;", true)
  | 5 => ("OptimalLines$Search", "sums", "[J", false)
  | 6 => ("OptimalLines$Search", "nextSums", "[J", false)
  | 7 => ("OptimalLines$Search", "entrySums", "[J", true)
  | 8 => ("OptimalLines$Search", "entryFitnesses", "[I", true)
  | 9 => ("OptimalLines$Search", "endSums", "[J", true)
  | 10 => ("OptimalLines$Search", "endFitnesses", "[I", true)
  | 11 => ("OptimalLines$Search", "tolerance", "I", false)
  | _ => ("OptimalLines$Search", "extraStretch", "I", false)
def tySearch : Nat → FieldType := fun k => match k with
  | 0 => .object "OptimalLines$Breaks"
  | 1 => .object "OptimalLines$Ruler"
  | 2 => .array .int
  | 3 => .array .int
  | 4 => .object "OptimalLines$Trail"
  | 5 => .array .long
  | 6 => .array .long
  | 7 => .array .long
  | 8 => .array .int
  | 9 => .array .long
  | 10 => .array .int
  | 11 => .int
  | _ => .int
theorem nmSearch : ∀ a, a < 13 → ∀ b, b < 13 → a ≠ b → (TSearch a).2.1 ≠ (TSearch b).2.1 := by decide +kernel
theorem tySearch_ok : ∀ k, k < 13 → parseFieldDescriptor (TSearch k).2.2.1 = some (tySearch k) := by decide +kernel
theorem inSearch : ∀ w ∈ u_ws RSearch TSearch 13, w ∈ om_W := by
  intro w h
  obtain ⟨k, hk, rfl⟩ := List.mem_map.mp h
  have hk : k < 13 := List.mem_range.mp hk
  by_cases e0 : k = 0
  · subst e0; exact w_147
  by_cases e1 : k = 1
  · subst e1; exact w_148
  by_cases e2 : k = 2
  · subst e2; exact w_149
  by_cases e3 : k = 3
  · subst e3; exact w_150
  by_cases e4 : k = 4
  · subst e4; exact w_151
  by_cases e5 : k = 5
  · subst e5; exact w_152
  by_cases e6 : k = 6
  · subst e6; exact w_153
  by_cases e7 : k = 7
  · subst e7; exact w_154
  by_cases e8 : k = 8
  · subst e8; exact w_155
  by_cases e9 : k = 9
  · subst e9; exact w_156
  by_cases e10 : k = 10
  · subst e10; exact w_157
  by_cases e11 : k = 11
  · subst e11; exact w_158
  by_cases e12 : k = 12
  · subst e12; exact w_159
  omega
abbrev RTrail : String := "OptimalLines$Trail"
def TTrail : u_T := fun k => match k with
  | _ => ("OptimalLines$Trail", "roots", "[J", true)
def tyTrail : Nat → FieldType := fun k => match k with
  | _ => .array .long
theorem nmTrail : ∀ a, a < 1 → ∀ b, b < 1 → a ≠ b → (TTrail a).2.1 ≠ (TTrail b).2.1 := by decide +kernel
theorem tyTrail_ok : ∀ k, k < 1 → parseFieldDescriptor (TTrail k).2.2.1 = some (tyTrail k) := by decide +kernel
theorem inTrail : ∀ w ∈ u_ws RTrail TTrail 1, w ∈ om_W := by
  intro w h
  obtain ⟨k, hk, rfl⟩ := List.mem_map.mp h
  have hk : k < 1 := List.mem_range.mp hk
  by_cases e0 : k = 0
  · subst e0; exact w_132
  omega
abbrev RLayout : String := "OptimalLines$Layout"
def TLayout : u_T := fun k => match k with
  | 0 => ("OptimalLines$Layout", "known", "Z", false)
  | 1 => ("OptimalLines$Layout", "lines", "I", false)
  | 2 => ("OptimalLines$Layout", "passTaken", "I", false)
  | 3 => ("OptimalLines$Layout", "extraStretch", "I", false)
  | 4 => ("OptimalLines$Layout", "demeritSum", "J", false)
  | 5 => ("OptimalLines$Layout", "starts", "[I", true)
  | _ => ("OptimalLines$Layout", "ends", "[I", true)
def tyLayout : Nat → FieldType := fun k => match k with
  | 0 => .boolean
  | 1 => .int
  | 2 => .int
  | 3 => .int
  | 4 => .long
  | 5 => .array .int
  | _ => .array .int
theorem nmLayout : ∀ a, a < 7 → ∀ b, b < 7 → a ≠ b → (TLayout a).2.1 ≠ (TLayout b).2.1 := by decide +kernel
theorem tyLayout_ok : ∀ k, k < 7 → parseFieldDescriptor (TLayout k).2.2.1 = some (tyLayout k) := by decide +kernel
theorem inLayout : ∀ w ∈ u_ws RLayout TLayout 7, w ∈ om_W := by
  intro w h
  obtain ⟨k, hk, rfl⟩ := List.mem_map.mp h
  have hk : k < 7 := List.mem_range.mp hk
  by_cases e0 : k = 0
  · subst e0; exact w_179
  by_cases e1 : k = 1
  · subst e1; exact w_180
  by_cases e2 : k = 2
  · subst e2; exact w_181
  by_cases e3 : k = 3
  · subst e3; exact w_182
  by_cases e4 : k = 4
  · subst e4; exact w_183
  by_cases e5 : k = 5
  · subst e5; exact w_184
  by_cases e6 : k = 6
  · subst e6; exact w_185
  omega
abbrev RMd : String := "OptimalLinesModel"
def TMd : u_T := fun k => match k with
  | 0 => ("OptimalLinesModel", "fault", "I", false)
  | 1 => ("OptimalLinesModel", "size", "I", false)
  | 2 => ("OptimalLinesModel", "sorts", "[I", true)
  | 3 => ("OptimalLinesModel", "widths", "[I", true)
  | 4 => ("OptimalLinesModel", "stretches", "[I", true)
  | 5 => ("OptimalLinesModel", "shrinks", "[I", true)
  | 6 => ("OptimalLinesModel", "fills", "[I", true)
  | 7 => ("OptimalLinesModel", "costs", "[I", true)
  | 8 => ("OptimalLinesModel", "flags", "[Z", true)
  | 9 => ("OptimalLinesModel", "lineWidths", "[I", true)
  | 10 => ("OptimalLinesModel", "settings", "[I", true)
  | 11 => ("OptimalLinesModel", "isBroken", "Z", false)
  | 12 => ("OptimalLinesModel", "taken", "I", false)
  | 13 => ("OptimalLinesModel", "least", "J", false)
  | 14 => ("OptimalLinesModel", "lines", "I", false)
  | 15 => ("OptimalLinesModel", "breaks", "[I", true)
  | 16 => ("OptimalLinesModel", "withFlagged", "Z", false)
  | 17 => ("OptimalLinesModel", "tolerance", "J", false)
  | 18 => ("OptimalLinesModel", "more", "J", false)
  | 19 => ("OptimalLinesModel", "isReached", "[Z", true)
  | 20 => ("OptimalLinesModel", "sums", "[J", true)
  | 21 => ("OptimalLinesModel", "from", "[I", true)
  | 22 => ("OptimalLinesModel", "natural", "J", false)
  | 23 => ("OptimalLinesModel", "stretch", "J", false)
  | 24 => ("OptimalLinesModel", "shrink", "J", false)
  | _ => ("OptimalLinesModel", "fill", "J", false)
def tyMd : Nat → FieldType := fun k => match k with
  | 0 => .int
  | 1 => .int
  | 2 => .array .int
  | 3 => .array .int
  | 4 => .array .int
  | 5 => .array .int
  | 6 => .array .int
  | 7 => .array .int
  | 8 => .array .boolean
  | 9 => .array .int
  | 10 => .array .int
  | 11 => .boolean
  | 12 => .int
  | 13 => .long
  | 14 => .int
  | 15 => .array .int
  | 16 => .boolean
  | 17 => .long
  | 18 => .long
  | 19 => .array .boolean
  | 20 => .array .long
  | 21 => .array .int
  | 22 => .long
  | 23 => .long
  | 24 => .long
  | _ => .long
theorem nmMd : ∀ a, a < 26 → ∀ b, b < 26 → a ≠ b → (TMd a).2.1 ≠ (TMd b).2.1 := by decide +kernel
theorem tyMd_ok : ∀ k, k < 26 → parseFieldDescriptor (TMd k).2.2.1 = some (tyMd k) := by decide +kernel
theorem inMd : ∀ w ∈ u_ws RMd TMd 26, w ∈ om_W := by
  intro w h
  obtain ⟨k, hk, rfl⟩ := List.mem_map.mp h
  have hk : k < 26 := List.mem_range.mp hk
  by_cases e0 : k = 0
  · subst e0; exact w_583
  by_cases e1 : k = 1
  · subst e1; exact w_584
  by_cases e2 : k = 2
  · subst e2; exact w_585
  by_cases e3 : k = 3
  · subst e3; exact w_586
  by_cases e4 : k = 4
  · subst e4; exact w_587
  by_cases e5 : k = 5
  · subst e5; exact w_588
  by_cases e6 : k = 6
  · subst e6; exact w_589
  by_cases e7 : k = 7
  · subst e7; exact w_590
  by_cases e8 : k = 8
  · subst e8; exact w_591
  by_cases e9 : k = 9
  · subst e9; exact w_592
  by_cases e10 : k = 10
  · subst e10; exact w_593
  by_cases e11 : k = 11
  · subst e11; exact w_594
  by_cases e12 : k = 12
  · subst e12; exact w_595
  by_cases e13 : k = 13
  · subst e13; exact w_596
  by_cases e14 : k = 14
  · subst e14; exact w_597
  by_cases e15 : k = 15
  · subst e15; exact w_598
  by_cases e16 : k = 16
  · subst e16; exact w_599
  by_cases e17 : k = 17
  · subst e17; exact w_600
  by_cases e18 : k = 18
  · subst e18; exact w_601
  by_cases e19 : k = 19
  · subst e19; exact w_602
  by_cases e20 : k = 20
  · subst e20; exact w_603
  by_cases e21 : k = 21
  · subst e21; exact w_604
  by_cases e22 : k = 22
  · subst e22; exact w_605
  by_cases e23 : k = 23
  · subst e23; exact w_606
  by_cases e24 : k = 24
  · subst e24; exact w_607
  by_cases e25 : k = 25
  · subst e25; exact w_608
  omega
abbrev RArrays : String := "java/util/Arrays"
abbrev RLaw : String := "OptimalLinesLaw"
abbrev vwCl : List vw_C := [(ROL, TOL, 7), (RItems, TItems, 9), (RBreaks, TBreaks, 6), (RRuler, TRuler, 6), (RSearch, TSearch, 13), (RTrail, TTrail, 1), (RLayout, TLayout, 7), (RMd, TMd, 26)]
/-! What the mirrors are made of: a mirror answers none where an index is out of its array, a divisor is 0, or a loop has no fuel left. -/
def om_in (i : Int32) (n : Nat) : Bool := !(decide (i < 0) || decide (n ≤ i.toNatClampNeg))
theorem om_ok {i : Int32} {n : Nat} (h : om_in i n = true) : vp_in i n := by
  intro q
  rcases q with q | q
  · simp [om_in, q] at h
  · simp [om_in, q] at h
theorem om_inI {i : Int32} {n : Nat} (h : vp_in i n) : om_in i n = true := by
  unfold om_in
  have h1 : ¬ i < 0 := fun q => h (Or.inl q)
  have h2 : ¬ n ≤ i.toNatClampNeg := fun q => h (Or.inr q)
  simp [h1, h2]
theorem om_g {α : Type} {c : Prop} {d : Decidable c} {a : Option α} {o : α} (h : (if c then a else none) = some o) : c ∧ a = some o := by
  by_cases hc : c
  · rw [if_pos hc] at h; exact ⟨hc, h⟩
  · rw [if_neg hc] at h; cases h
theorem om_t {α : Type} {c : Prop} {d : Decidable c} {a b o : α} (hc : c) (h : (if c then a else b) = o) : a = o := by
  rw [if_pos hc] at h; exact h
theorem om_f {α : Type} {c : Prop} {d : Decidable c} {a b o : α} (hc : ¬ c) (h : (if c then a else b) = o) : b = o := by
  rw [if_neg hc] at h; exact h
theorem om_b {α β : Type} {x : Option α} {f : α → Option β} {o : β} (h : x.bind f = some o) : ∃ u, x = some u ∧ f u = some o := by
  cases x with
  | none => cases h
  | some u => exact ⟨u, rfl, h⟩
def om_c {α β γ : Type} (u : α ⊕ β) (f : α → γ) (g : β → γ) : γ := match u with
  | .inl a => f a
  | .inr b => g b
theorem om_cl {α β γ : Type} {u : α ⊕ β} {f : α → γ} {g : β → γ} {a : α} {o : γ} (e : u = .inl a) (h : om_c u f g = o) : f a = o := by
  subst e; exact h
theorem om_cr {α β γ : Type} {u : α ⊕ β} {f : α → γ} {g : β → γ} {b : β} {o : γ} (e : u = .inr b) (h : om_c u f g = o) : g b = o := by
  subst e; exact h
def om_z (x : Int32) : Bool := decide (x = 0) || decide (x = 1)
theorem om_zn {x : Int32} (h : om_z x = true) : narrow .boolean (.int x) = .int x := by
  simp [om_z] at h
  rcases h with rfl | rfl <;> rfl
theorem om_zf {x : Int32} (h : om_z x = true) : fits .boolean (.int x) = true := by
  simp [om_z] at h
  rcases h with rfl | rfl <;> rfl
