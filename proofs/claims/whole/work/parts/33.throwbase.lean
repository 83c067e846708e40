/-! Methods that may throw: a mirror answers .inl k (thrown: 1 IllegalArgument, 2 IllegalState, 3 IndexOutOfBounds) or .inr. -/
def om_r {α : Type} (x : Option α) : Option (Nat ⊕ α) := x.map Sum.inr
theorem om_ri {α : Type} {x : Option α} {o : α} (h : om_r x = some (.inr o)) : x = some o := by
  cases x with
  | none => cases h
  | some a => cases h; rfl
theorem om_rn {α : Type} {x : Option α} {k : Nat} : ¬ (om_r x = some (.inl k)) := by
  intro h
  cases x with
  | none => cases h
  | some a => cases h
def om_least : Nat → Int32 := fun j => ([0, 0, 0, 0, -1, -1, 0, -20] : List Int32).getD j 0
def om_most : Nat → Int32 := fun j => ([1000, 100000, 100000, 100000, 10000, 10000, 100000, 20] : List Int32).getD j 0
def om_first : Nat → Int32 := fun j => ([10, 10000, 5000, 10000, 100, 200, 0, 0] : List Int32).getD j 0
