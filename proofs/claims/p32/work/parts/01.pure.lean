section RFBase
theorem rf_bindv {α β : Type} {x y : α} {k : α → Option β} {r : Option β} (h : (some x).bind k = r) (e : y = x) : k y = r := by
  subst e
  exact h
theorem rf_bindq {α β : Type} {x : Option α} {k : α → Option β} {r : β} (h : x.bind k = some r) : ∃ q, x = some q ∧ k q = some r := by
  cases x with
  | none => cases h
  | some q => exact ⟨q, rfl, h⟩
theorem rf_ifp {α : Type} {c : Prop} [Decidable c] {a b r : α} (h : (if c then a else b) = r) (hc : c) : a = r := by
  rw [if_pos hc] at h
  exact h
theorem rf_ifn {α : Type} {c : Prop} [Decidable c] {a b r : α} (h : (if c then a else b) = r) (hc : ¬ c) : b = r := by
  rw [if_neg hc] at h
  exact h
theorem rf_chk {α : Type} {c : Prop} [Decidable c] {a : Option α} {r : α} (h : (if c then a else none) = some r) : c ∧ a = some r := by
  by_cases hc : c
  · rw [if_pos hc] at h
    exact ⟨hc, h⟩
  · rw [if_neg hc] at h
    cases h
end RFBase
abbrev rf_max (x y : Int32) : Int32 := if x < y then y else x
abbrev rf_min (x y : Int32) : Int32 := if y < x then y else x
abbrev rf_rem (x y : Int32) : Int32 := x - x / y * y
abbrev rf_ushr (x y : Int32) : Int32 := (x.toUInt32 >>> (y.toUInt32 &&& Int32.toUInt32 31)).toInt32
def rf_fu : Nat := 20000
def rf_sum {α β γ : Type} (s : α ⊕ β) (f : α → γ) (g : β → γ) : γ := match s with
  | .inl a => f a
  | .inr b => g b
theorem rf_sumr {α β γ : Type} {b : β} {f : α → γ} {g : β → γ} {r : γ} (h : rf_sum (Sum.inr b) f g = r) : g b = r := h
def rf_a0 : Nat → Int32 := fun j => ([100, 1, 0, 0, 0] : List Int32).getD j 0
def rf_a1 : Nat → Int32 := fun j => ([250, 9, 30, 20, 9] : List Int32).getD j 0
def rf_a2 : Nat → Int32 := fun j => ([1, 2, 3, 4, 1, 6, 8, 5] : List Int32).getD j 0
def rf_a3 : Nat → Int32 := fun j => ([2, 2, 3, 1, 5, 1, 2, 0] : List Int32).getD j 0
def rf_a4 : Nat → Int32 := fun j => ([1, 1, 1, 1, 3, 2, 1, 0] : List Int32).getD j 0
