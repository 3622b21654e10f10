section
section RFBase
theorem rf_bindv {α β : Type} {x y : α} {k : α → Option β} {r : Option β} (h : (some x).bind k = r) (e : y = x) : k y = r := by
  subst e
  exact h
theorem rf_bindq {α β : Type} {x : Option α} {k : α → Option β} {r : β} (h : x.bind k = some r) : ∃ q, x = some q ∧ k q = some r := by
  cases x with
  | none => cases h
  | some q => exact ⟨q, rfl, h⟩
theorem rf_ifp {α : Type} {c : Prop} [Decidable c] {a b r : α} (h : (if c then a else b) = r) (hc : c) : a = r := by
  rw [if_pos hc] at h
  exact h
theorem rf_ifn {α : Type} {c : Prop} [Decidable c] {a b r : α} (h : (if c then a else b) = r) (hc : ¬ c) : b = r := by
  rw [if_neg hc] at h
  exact h
theorem rf_chk {α : Type} {c : Prop} [Decidable c] {a : Option α} {r : α} (h : (if c then a else none) = some r) : c ∧ a = some r := by
  by_cases hc : c
  · rw [if_pos hc] at h
    exact ⟨hc, h⟩
  · rw [if_neg hc] at h
    cases h
end RFBase
abbrev rf_max (x y : Int32) : Int32 := if x < y then y else x
abbrev rf_min (x y : Int32) : Int32 := if y < x then y else x
abbrev rf_rem (x y : Int32) : Int32 := x - x / y * y
abbrev rf_ushr (x y : Int32) : Int32 := (x.toUInt32 >>> (y.toUInt32 &&& Int32.toUInt32 31)).toInt32
def rf_fu : Nat := 20000
def rf_sum {α β γ : Type} (s : α ⊕ β) (f : α → γ) (g : β → γ) : γ := match s with
  | .inl a => f a
  | .inr b => g b
theorem rf_sumr {α β γ : Type} {b : β} {f : α → γ} {g : β → γ} {r : γ} (h : rf_sum (Sum.inr b) f g = r) : g b = r := h
def rf_a0 : Nat → Int32 := fun j => ([100, 1, 0, 0, 0] : List Int32).getD j 0
def rf_a1 : Nat → Int32 := fun j => ([250, 9, 30, 20, 9] : List Int32).getD j 0
def rf_a2 : Nat → Int32 := fun j => ([1, 2, 3, 4, 1, 6, 8, 5] : List Int32).getD j 0
def rf_a3 : Nat → Int32 := fun j => ([2, 2, 3, 1, 5, 1, 2, 0] : List Int32).getD j 0
def rf_a4 : Nat → Int32 := fun j => ([1, 1, 1, 1, 3, 2, 1, 0] : List Int32).getD j 0
end
section
def f_X0_copyFrom (g_this f_this_kinds f_this_thicks g_o1 f_o1_kinds f_o1_thicks : Nat → Int32) : Option ((Nat → Int32) × (Nat → Int32) × (Nat → Int32)) := some (g_o1, f_o1_kinds, f_o1_thicks)
def f_X0_isOff (g_this : Nat → Int32) : Option (Int32) := if (g_this 3) < (g_this 0) then (some 0) else (some 1)
def f_X0_hasMinutes (g_this : Nat → Int32) (p1 : Int32) : Option (Int32) := if 999 < ((g_this 8) + p1) then (some 0) else (some 1)
def f_X2_at (n_o0 : Nat) (f_o0 : Nat → Int32) (p1 : Int32) : Option (Int32) := if p1 < 0 then (some 0) else (if (Int32.ofNat n_o0) ≤ p1 then (some 0) else (if ¬ (p1 < 0 ∨ n_o0 ≤ p1.toNatClampNeg) then some (f_o0 (p1.toNatClampNeg)) else none))
def f_X2_thickness (p0 p1 p2 p3 p4 : Int32) : Option (Int32) := (some (rf_max 0 ((p1 + p2) - p3))).bind fun (v1 : Int32) => (some (rf_max 0 ((p1 + (p2 / 2)) - (p3 / 4)))).bind fun (v2 : Int32) => if p0 = 1 then (some v2) else (if p0 = 2 then (some (v1 + p2)) else (if p0 = 3 then (if p2 ≤ 9 then (some ((v1 + p2) + 0)) else (some ((v1 + p2) + 3))) else (if p0 = 4 then (some (v2 + p4)) else (if p0 = 5 then ((some (rf_max 0 ((v2 + p4) - 10))).bind fun (v9 : Int32) => some v9) else (some v1)))))
def f_X0_thickNow (g_this f_this_kinds f_this_thicks : Nat → Int32) (p1 : Int32) : Option (Int32) := (f_X2_at 6 f_this_kinds p1).bind fun (q1 : Int32) => (f_X2_at 6 f_this_thicks p1).bind fun (q2 : Int32) => (f_X2_thickness q1 q2 (g_this 4) (g_this 5) (g_this 7)).bind fun (q3 : Int32) => some q3
def f_X0_thickestNow_L4 (g_this f_this_kinds f_this_thicks : Nat → Int32) : Nat → Int32 → Int32 → Option (Int32 × Int32)
  | 0, _, _ => none
  | n + 1, x1, x2 => if (g_this 0) ≤ x2 then (some (x1, x2)) else ((f_X0_thickNow g_this f_this_kinds f_this_thicks x2).bind fun (q2 : Int32) => (some (rf_max x1 q2)).bind fun (v3 : Int32) => (some (x2 + 1)).bind fun (v4 : Int32) => f_X0_thickestNow_L4 g_this f_this_kinds f_this_thicks n v3 v4)
def f_X0_thickestNow (g_this f_this_kinds f_this_thicks : Nat → Int32) : Option (Int32) := (f_X0_thickestNow_L4 g_this f_this_kinds f_this_thicks rf_fu (-1) 0).bind fun (q5 : Int32 × Int32) => some q5.1
def f_X0_coldAhead (g_this : Nat → Int32) (p1 : Int32) : Option (Int32) := if p1 = 6 then ((some (rf_min 20 ((g_this 5) + 8))).bind fun (v2 : Int32) => some v2) else (some (g_this 5))
def f_X2_allowance (p0 p1 : Int32) : Option (Int32) := if p0 = 1 then (some 4) else (if p0 = 2 then (some 7) else (if p0 = 3 then (some (9 - p1)) else (if p0 = 4 then (some 6) else (if p0 = 5 then (some 15) else (if p0 = 6 then (some 4) else (some 0))))))
def f_X0_goesOver (g_this f_this_kinds f_this_thicks : Nat → Int32) (p1 : Int32) : Option (Int32) := (f_X0_isOff g_this).bind fun (q1 : Int32) => if q1 = 0 then ((f_X2_at 6 f_this_kinds (g_this 3)).bind fun (q3 : Int32) => (f_X2_at 6 f_this_thicks (g_this 3)).bind fun (q4 : Int32) => (f_X0_coldAhead g_this p1).bind fun (q5 : Int32) => (f_X2_thickness q3 q4 (g_this 4) q5 (g_this 7)).bind fun (q6 : Int32) => (f_X2_allowance p1 (g_this 2)).bind fun (q7 : Int32) => if ((g_this 1) + q7) < q6 then (some 0) else (some 1)) else (some 0)
def f_X2_put (n_o0 : Nat) (f_o0 : Nat → Int32) (p1 p2 : Int32) : Option ((Nat → Int32)) := if p1 < 0 then (some f_o0) else (if (Int32.ofNat n_o0) ≤ p1 then (some f_o0) else (if ¬ (p1 < 0 ∨ n_o0 ≤ p1.toNatClampNeg) then some (upd f_o0 (p1.toNatClampNeg) p2) else none))
def f_X0_thickestThatGoes_L4 (g_this f_this_kinds : Nat → Int32) (p1 : Int32) : Nat → Int32 → (Nat → Int32) → Option ((Int32 × (Nat → Int32)) ⊕ (Int32 × (Nat → Int32)))
  | 0, _, _ => none
  | n + 1, x2, yf_this_thicks => if x2 < 0 then (some (Sum.inr (x2, yf_this_thicks))) else ((f_X2_put 6 yf_this_thicks (g_this 3) x2).bind fun (q2 : (Nat → Int32)) => (f_X0_goesOver g_this f_this_kinds q2 p1).bind fun (q3 : Int32) => if q3 = 0 then ((some (x2 + (-1))).bind fun (v5 : Int32) => f_X0_thickestThatGoes_L4 g_this f_this_kinds p1 n v5 q2) else (some (Sum.inl (x2, q2))))
def f_X0_thickestThatGoes (g_this f_this_kinds f_this_thicks : Nat → Int32) (p1 : Int32) : Option (Int32 × (Nat → Int32)) := (f_X0_thickestThatGoes_L4 g_this f_this_kinds p1 rf_fu 240 f_this_thicks).bind fun (q6 : (Int32 × (Nat → Int32)) ⊕ (Int32 × (Nat → Int32))) => rf_sum q6 (fun r => some r) (fun (x7 : Int32 × (Nat → Int32)) => some ((-1), x7.2))
def f_X0_strain (g_this : Nat → Int32) (p1 : Int32) : Option ((Nat → Int32)) := (f_X0_coldAhead g_this p1).bind fun (q1 : Int32) => (f_X2_at 8 rf_a3 p1).bind fun (q2 : Int32) => (some (rf_min 30 ((g_this 4) + q2))).bind fun (v3 : Int32) => (f_X2_at 8 rf_a4 p1).bind fun (q4 : Int32) => (some ((g_this 9) + q4)).bind fun (v5 : Int32) => (f_X2_at 8 rf_a2 p1).bind fun (q6 : Int32) => (some ((g_this 8) + q6)).bind fun (v7 : Int32) => if p1 = 5 then ((some (rf_min 99 ((g_this 6) + 5))).bind fun (v9 : Int32) => some (upd (upd (upd (upd (upd g_this 5 q1) 4 v3) 9 v5) 8 v7) 6 v9)) else (some (upd (upd (upd (upd g_this 5 q1) 4 v3) 9 v5) 8 v7))
def f_X0_attempt (g_this f_this_kinds f_this_thicks : Nat → Int32) (p1 : Int32) : Option (Int32 × (Nat → Int32)) := (f_X0_goesOver g_this f_this_kinds f_this_thicks p1).bind fun (q1 : Int32) => (f_X0_strain g_this p1).bind fun (q2 : (Nat → Int32)) => if q1 = 0 then (if q1 &&& 1 = q1 then some (q1, q2) else none) else ((some ((q2 3) + 1)).bind fun (v5 : Int32) => if q1 &&& 1 = q1 then some (q1, (upd q2 3 v5)) else none)
def f_X0_rest (g_this : Nat → Int32) (p1 : Int32) : Option ((Nat → Int32)) := (some (rf_max 0 ((g_this 4) - (p1 / 2)))).bind fun (v1 : Int32) => (some (rf_max 0 ((g_this 5) - (p1 / 3)))).bind fun (v2 : Int32) => (some (rf_max 0 ((g_this 6) - p1))).bind fun (v3 : Int32) => (some ((g_this 8) + p1)).bind fun (v4 : Int32) => some (upd (upd (upd (upd g_this 4 v1) 5 v2) 6 v3) 8 v4)
def f_X2_isTry (p0 : Int32) : Option (Int32) := if p0 < 0 then (some 0) else (if 6 < p0 then (some 0) else (some 1))
def f_X0_move (g_this f_this_kinds f_this_thicks : Nat → Int32) (p1 : Int32) : Option ((Nat → Int32)) := (f_X2_isTry p1).bind fun (q1 : Int32) => if q1 = 0 then (if p1 = 7 then ((f_X0_rest g_this 5).bind fun (q4 : (Nat → Int32)) => some q4) else (some g_this)) else ((f_X0_attempt g_this f_this_kinds f_this_thicks p1).bind fun (q5 : Int32 × (Nat → Int32)) => some q5.2)
def f_X0_setting (g_this : Nat → Int32) (p1 : Int32) : Option (Int32) := if p1 = 0 then (some (g_this 1)) else (if p1 = 1 then (some (g_this 2)) else (if p1 = 2 then (some (g_this 4)) else (if p1 = 3 then (some (g_this 5)) else (some (g_this 7)))))
def f_X0_change (g_this : Nat → Int32) (p1 p2 : Int32) : Option ((Nat → Int32)) := if p1 = 0 then (some (upd g_this 1 p2)) else (if p1 = 1 then (some (upd g_this 2 p2)) else (if p1 = 2 then (some (upd g_this 4 p2)) else (if p1 = 3 then (some (upd g_this 5 p2)) else (some (upd g_this 7 p2)))))
def f_X0_takeSetting (g_this : Nat → Int32) (p1 p2 : Int32) : Option (Int32 × (Nat → Int32)) := (f_X2_at 5 rf_a0 p1).bind fun (q1 : Int32) => if p2 < q1 then (some (0, g_this)) else ((f_X2_at 5 rf_a1 p1).bind fun (q3 : Int32) => if p2 ≤ q3 then ((f_X0_change g_this p1 p2).bind fun (q5 : (Nat → Int32)) => some (1, q5)) else (some (0, g_this)))
def f_X0_takePart (g_this f_this_kinds f_this_thicks : Nat → Int32) (p1 p2 : Int32) : Option (Int32 × (Nat → Int32) × (Nat → Int32) × (Nat → Int32)) := if (g_this 0) ≤ 0 then (if 240 < p2 then (some (0, g_this, f_this_kinds, f_this_thicks)) else (if (g_this 0) < 6 then ((f_X2_put 6 f_this_kinds (g_this 0) p1).bind fun (q5 : (Nat → Int32)) => (f_X2_put 6 f_this_thicks (g_this 0) p2).bind fun (q6 : (Nat → Int32)) => (some ((g_this 0) + 1)).bind fun (v7 : Int32) => some (1, (upd g_this 0 v7), q5, q6)) else (some (0, g_this, f_this_kinds, f_this_thicks)))) else ((f_X0_isOff g_this).bind fun (q8 : Int32) => if q8 = 0 then (if 240 < p2 then (some (0, g_this, f_this_kinds, f_this_thicks)) else (if (g_this 0) < 6 then ((f_X2_put 6 f_this_kinds (g_this 0) p1).bind fun (q13 : (Nat → Int32)) => (f_X2_put 6 f_this_thicks (g_this 0) p2).bind fun (q14 : (Nat → Int32)) => (some ((g_this 0) + 1)).bind fun (v15 : Int32) => some (1, (upd g_this 0 v15), q13, q14)) else (some (0, g_this, f_this_kinds, f_this_thicks)))) else (if 240 < p2 then (some (0, g_this, f_this_kinds, f_this_thicks)) else (some (0, g_this, f_this_kinds, f_this_thicks))))
def f_X0_takeTry (g_this f_this_kinds f_this_thicks : Nat → Int32) (p1 : Int32) : Option (Int32 × (Nat → Int32)) := (f_X2_isTry p1).bind fun (q1 : Int32) => if q1 = 0 then (some (0, g_this)) else ((f_X0_isOff g_this).bind fun (q3 : Int32) => if q3 = 0 then ((f_X2_at 8 rf_a2 p1).bind fun (q5 : Int32) => (f_X0_hasMinutes g_this q5).bind fun (q6 : Int32) => if q6 = 0 then (some (0, g_this)) else ((f_X0_attempt g_this f_this_kinds f_this_thicks p1).bind fun (q8 : Int32 × (Nat → Int32)) => some (1, q8.2))) else (some (0, g_this)))
def f_X0_takeWait (g_this : Nat → Int32) (p1 : Int32) : Option (Int32 × (Nat → Int32)) := if p1 < 1 then (some (0, g_this)) else (if 60 < p1 then (some (0, g_this)) else ((f_X0_hasMinutes g_this p1).bind fun (q3 : Int32) => if q3 = 0 then (some (0, g_this)) else ((f_X0_rest g_this p1).bind fun (q5 : (Nat → Int32)) => some (1, q5))))
def f_X1_arrive (g_this g_this_finger f_this_waiting f_this_held f_this_seen : Nat → Int32) (p1 p2 : Int32) : Option ((Nat → Int32) × (Nat → Int32) × (Nat → Int32)) := if p1 < (g_this 1) then ((f_X0_isOff g_this_finger).bind fun (q2 : Int32) => if q2 = 0 then ((some (((((g_this_finger 3) * 3) + p2) * 31) + (g_this_finger 4))).bind fun (v4 : Int32) => (some (rf_rem p1 9)).bind fun (v5 : Int32) => (some ((v5 * 558) + v4)).bind fun (v6 : Int32) => (f_X2_at 5022 f_this_waiting v6).bind fun (q7 : Int32) => (f_X2_at 558 f_this_seen v4).bind fun (q8 : Int32) => if (g_this_finger 5) < q8 then (some (g_this, f_this_waiting, f_this_held)) else (if q7 ≤ (g_this_finger 5) then ((f_X2_put 5022 f_this_waiting v6 ((g_this_finger 5) + 1)).bind fun (q11 : (Nat → Int32)) => if q7 = 0 then ((f_X2_at 9 f_this_held v5).bind fun (q13 : Int32) => (f_X2_put 9 f_this_held v5 (q13 + 1)).bind fun (q14 : (Nat → Int32)) => (some ((g_this 0) + 1)).bind fun (v15 : Int32) => some ((upd g_this 0 v15), q11, q14)) else (some (g_this, q11, f_this_held))) else (some (g_this, f_this_waiting, f_this_held)))) else (some ((upd g_this 1 p1), f_this_waiting, f_this_held))) else (some (g_this, f_this_waiting, f_this_held))
def f_X1_clear_L2 (yg_this yf_this_waiting yf_this_seen : Nat → Int32) : Nat → Int32 → (Nat → Int32) → Option (Int32 × (Nat → Int32))
  | 0, _, _ => none
  | n + 1, x1, yf_this_held => if 9 ≤ x1 then (some (x1, yf_this_held)) else (if ¬ (x1 < 0 ∨ 9 ≤ x1.toNatClampNeg) then (some (x1 + 1)).bind fun (v3 : Int32) => f_X1_clear_L2 yg_this yf_this_waiting yf_this_seen n v3 (upd yf_this_held (x1.toNatClampNeg) 0) else none)
def f_X1_clear_L26 (yg_this yf_this_held yf_this_seen : Nat → Int32) : Nat → Int32 → (Nat → Int32) → Option (Int32 × (Nat → Int32))
  | 0, _, _ => none
  | n + 1, x1, yf_this_waiting => if 5022 ≤ x1 then (some (x1, yf_this_waiting)) else (if ¬ (x1 < 0 ∨ 5022 ≤ x1.toNatClampNeg) then (some (x1 + 1)).bind fun (v6 : Int32) => f_X1_clear_L26 yg_this yf_this_held yf_this_seen n v6 (upd yf_this_waiting (x1.toNatClampNeg) 0) else none)
def f_X1_clear_L50 (yg_this yf_this_waiting yf_this_held : Nat → Int32) : Nat → Int32 → (Nat → Int32) → Option (Int32 × (Nat → Int32))
  | 0, _, _ => none
  | n + 1, x1, yf_this_seen => if 558 ≤ x1 then (some (x1, yf_this_seen)) else (if ¬ (x1 < 0 ∨ 558 ≤ x1.toNatClampNeg) then (some (x1 + 1)).bind fun (v9 : Int32) => f_X1_clear_L50 yg_this yf_this_waiting yf_this_held n v9 (upd yf_this_seen (x1.toNatClampNeg) 0) else none)
def f_X1_clear (g_this f_this_waiting f_this_held f_this_seen : Nat → Int32) : Option ((Nat → Int32) × (Nat → Int32) × (Nat → Int32) × (Nat → Int32)) := (f_X1_clear_L2 g_this f_this_waiting f_this_seen rf_fu 0 f_this_held).bind fun (q10 : Int32 × (Nat → Int32)) => (f_X1_clear_L26 g_this q10.2 f_this_seen rf_fu 0 f_this_waiting).bind fun (q11 : Int32 × (Nat → Int32)) => (f_X1_clear_L50 g_this q11.2 q10.2 rf_fu 0 f_this_seen).bind fun (q12 : Int32 × (Nat → Int32)) => some ((upd g_this 0 0), q11.2, q10.2, q12.2)
def f_X1_see_L8 (g_this : Nat → Int32) (p1 p2 : Int32) (x3 : Int32) : Nat → Int32 → (Nat → Int32) → Option (Int32 × (Nat → Int32))
  | 0, _, _ => none
  | n + 1, x4, yf_this_seen => if 31 ≤ (x3 + x4) then (some (x4, yf_this_seen)) else ((f_X2_at 558 yf_this_seen (p1 + x4)).bind fun (q2 : Int32) => if p2 < q2 then (some (x4, yf_this_seen)) else ((f_X2_put 558 yf_this_seen (p1 + x4) (p2 + 1)).bind fun (q4 : (Nat → Int32)) => (some (x4 + 1)).bind fun (v5 : Int32) => f_X1_see_L8 g_this p1 p2 x3 n v5 q4))
def f_X1_see (g_this f_this_seen : Nat → Int32) (p1 p2 : Int32) : Option ((Nat → Int32)) := (some (rf_rem p1 31)).bind fun (v6 : Int32) => (f_X1_see_L8 g_this p1 p2 v6 rf_fu 0 f_this_seen).bind fun (q7 : Int32 × (Nat → Int32)) => some q7.2
def f_X1_stand (g_this g_this_finger : Nat → Int32) (p1 p2 : Int32) : Option ((Nat → Int32)) := (some ((p1 / 31) / 3)).bind fun (v1 : Int32) => (some (rf_rem p1 31)).bind fun (v2 : Int32) => some (upd (upd (upd g_this_finger 3 v1) 4 v2) 5 p2)
def f_X2_movePrice (p0 p1 : Int32) : Option (Int32) := if p1 = 0 then ((f_X2_at 8 rf_a2 p0).bind fun (q2 : Int32) => some q2) else ((f_X2_at 8 rf_a4 p0).bind fun (q3 : Int32) => some q3)
def f_X1_spread_L11 (f_this_finger_kinds f_this_finger_thicks f_this_seen : Nat → Int32) (p1 p2 p3 : Int32) (x4 : Int32) : Nat → Int32 → (Nat → Int32) → (Nat → Int32) → (Nat → Int32) → (Nat → Int32) → Option (Int32 × (Nat → Int32) × (Nat → Int32) × (Nat → Int32) × (Nat → Int32))
  | 0, _, _, _, _, _ => none
  | n + 1, x5, yg_this, yg_this_finger, yf_this_waiting, yf_this_held => if 6 < x5 then (some (x5, yg_this, yg_this_finger, yf_this_waiting, yf_this_held)) else ((f_X1_stand yg_this yg_this_finger p2 p3).bind fun (q2 : (Nat → Int32)) => if x5 = 5 then ((f_X0_goesOver q2 f_this_finger_kinds f_this_finger_thicks x5).bind fun (q34 : Int32) => if q34 = 0 then (if x5 = 6 then (if x4 < 2 then ((f_X0_strain q2 x5).bind fun (q55 : (Nat → Int32)) => if q34 = 0 then ((some ((q55 3) + 0)).bind fun (v57 : Int32) => (f_X2_movePrice x5 (yg_this 2)).bind fun (q58 : Int32) => (f_X1_arrive yg_this (upd q55 3 v57) yf_this_waiting yf_this_held f_this_seen (p1 + q58) (x4 + 1)).bind fun (q60 : (Nat → Int32) × (Nat → Int32) × (Nat → Int32)) => (some (x5 + 1)).bind fun (v61 : Int32) => f_X1_spread_L11 f_this_finger_kinds f_this_finger_thicks f_this_seen p1 p2 p3 x4 n v61 q60.1 (upd q55 3 v57) q60.2.1 q60.2.2) else ((some ((q55 3) + 1)).bind fun (v62 : Int32) => (f_X2_movePrice x5 (yg_this 2)).bind fun (q63 : Int32) => (f_X1_arrive yg_this (upd q55 3 v62) yf_this_waiting yf_this_held f_this_seen (p1 + q63) (x4 + 1)).bind fun (q65 : (Nat → Int32) × (Nat → Int32) × (Nat → Int32)) => (some (x5 + 1)).bind fun (v66 : Int32) => f_X1_spread_L11 f_this_finger_kinds f_this_finger_thicks f_this_seen p1 p2 p3 x4 n v66 q65.1 (upd q55 3 v62) q65.2.1 q65.2.2)) else ((some (x5 + 1)).bind fun (v67 : Int32) => f_X1_spread_L11 f_this_finger_kinds f_this_finger_thicks f_this_seen p1 p2 p3 x4 n v67 yg_this q2 yf_this_waiting yf_this_held)) else ((some (x5 + 1)).bind fun (v52 : Int32) => f_X1_spread_L11 f_this_finger_kinds f_this_finger_thicks f_this_seen p1 p2 p3 x4 n v52 yg_this q2 yf_this_waiting yf_this_held)) else (if x4 < 2 then ((f_X0_strain q2 x5).bind fun (q38 : (Nat → Int32)) => if q34 = 0 then ((some ((q38 3) + 0)).bind fun (v40 : Int32) => (f_X2_movePrice x5 (yg_this 2)).bind fun (q41 : Int32) => (f_X1_arrive yg_this (upd q38 3 v40) yf_this_waiting yf_this_held f_this_seen (p1 + q41) (x4 + 1)).bind fun (q43 : (Nat → Int32) × (Nat → Int32) × (Nat → Int32)) => (some (x5 + 1)).bind fun (v44 : Int32) => f_X1_spread_L11 f_this_finger_kinds f_this_finger_thicks f_this_seen p1 p2 p3 x4 n v44 q43.1 (upd q38 3 v40) q43.2.1 q43.2.2) else ((some ((q38 3) + 1)).bind fun (v45 : Int32) => (f_X2_movePrice x5 (yg_this 2)).bind fun (q46 : Int32) => (f_X1_arrive yg_this (upd q38 3 v45) yf_this_waiting yf_this_held f_this_seen (p1 + q46) (x4 + 1)).bind fun (q48 : (Nat → Int32) × (Nat → Int32) × (Nat → Int32)) => (some (x5 + 1)).bind fun (v49 : Int32) => f_X1_spread_L11 f_this_finger_kinds f_this_finger_thicks f_this_seen p1 p2 p3 x4 n v49 q48.1 (upd q38 3 v45) q48.2.1 q48.2.2)) else ((some (x5 + 1)).bind fun (v50 : Int32) => f_X1_spread_L11 f_this_finger_kinds f_this_finger_thicks f_this_seen p1 p2 p3 x4 n v50 yg_this q2 yf_this_waiting yf_this_held))) else ((f_X0_goesOver q2 f_this_finger_kinds f_this_finger_thicks x5).bind fun (q4 : Int32) => if q4 = 0 then (if x5 = 6 then ((f_X0_strain q2 x5).bind fun (q22 : (Nat → Int32)) => if q4 = 0 then ((some ((q22 3) + 0)).bind fun (v24 : Int32) => (f_X2_movePrice x5 (yg_this 2)).bind fun (q25 : Int32) => (f_X1_arrive yg_this (upd q22 3 v24) yf_this_waiting yf_this_held f_this_seen (p1 + q25) x4).bind fun (q27 : (Nat → Int32) × (Nat → Int32) × (Nat → Int32)) => (some (x5 + 1)).bind fun (v28 : Int32) => f_X1_spread_L11 f_this_finger_kinds f_this_finger_thicks f_this_seen p1 p2 p3 x4 n v28 q27.1 (upd q22 3 v24) q27.2.1 q27.2.2) else ((some ((q22 3) + 1)).bind fun (v29 : Int32) => (f_X2_movePrice x5 (yg_this 2)).bind fun (q30 : Int32) => (f_X1_arrive yg_this (upd q22 3 v29) yf_this_waiting yf_this_held f_this_seen (p1 + q30) x4).bind fun (q32 : (Nat → Int32) × (Nat → Int32) × (Nat → Int32)) => (some (x5 + 1)).bind fun (v33 : Int32) => f_X1_spread_L11 f_this_finger_kinds f_this_finger_thicks f_this_seen p1 p2 p3 x4 n v33 q32.1 (upd q22 3 v29) q32.2.1 q32.2.2)) else ((some (x5 + 1)).bind fun (v20 : Int32) => f_X1_spread_L11 f_this_finger_kinds f_this_finger_thicks f_this_seen p1 p2 p3 x4 n v20 yg_this q2 yf_this_waiting yf_this_held)) else ((f_X0_strain q2 x5).bind fun (q7 : (Nat → Int32)) => if q4 = 0 then ((some ((q7 3) + 0)).bind fun (v9 : Int32) => (f_X2_movePrice x5 (yg_this 2)).bind fun (q10 : Int32) => (f_X1_arrive yg_this (upd q7 3 v9) yf_this_waiting yf_this_held f_this_seen (p1 + q10) x4).bind fun (q12 : (Nat → Int32) × (Nat → Int32) × (Nat → Int32)) => (some (x5 + 1)).bind fun (v13 : Int32) => f_X1_spread_L11 f_this_finger_kinds f_this_finger_thicks f_this_seen p1 p2 p3 x4 n v13 q12.1 (upd q7 3 v9) q12.2.1 q12.2.2) else ((some ((q7 3) + 1)).bind fun (v14 : Int32) => (f_X2_movePrice x5 (yg_this 2)).bind fun (q15 : Int32) => (f_X1_arrive yg_this (upd q7 3 v14) yf_this_waiting yf_this_held f_this_seen (p1 + q15) x4).bind fun (q17 : (Nat → Int32) × (Nat → Int32) × (Nat → Int32)) => (some (x5 + 1)).bind fun (v18 : Int32) => f_X1_spread_L11 f_this_finger_kinds f_this_finger_thicks f_this_seen p1 p2 p3 x4 n v18 q17.1 (upd q7 3 v14) q17.2.1 q17.2.2))))
def f_X1_spread (g_this g_this_finger f_this_finger_kinds f_this_finger_thicks f_this_waiting f_this_held f_this_seen : Nat → Int32) (p1 p2 p3 : Int32) : Option ((Nat → Int32) × (Nat → Int32) × (Nat → Int32) × (Nat → Int32)) := (some (rf_rem (p2 / 31) 3)).bind fun (v68 : Int32) => (f_X1_spread_L11 f_this_finger_kinds f_this_finger_thicks f_this_seen p1 p2 p3 v68 rf_fu 0 g_this g_this_finger f_this_waiting f_this_held).bind fun (q69 : Int32 × (Nat → Int32) × (Nat → Int32) × (Nat → Int32) × (Nat → Int32)) => (f_X1_stand q69.2.1 q69.2.2.1 p2 p3).bind fun (q70 : (Nat → Int32)) => (f_X0_rest q70 5).bind fun (q71 : (Nat → Int32)) => (f_X2_movePrice 7 (q69.2.1 2)).bind fun (q72 : Int32) => (f_X1_arrive q69.2.1 q71 q69.2.2.2.1 q69.2.2.2.2 f_this_seen (p1 + q72) v68).bind fun (q73 : (Nat → Int32) × (Nat → Int32) × (Nat → Int32)) => some (q73.1, q71, q73.2.1, q73.2.2)
def f_X1_spreadLayer_L9 (f_this_finger_kinds f_this_finger_thicks : Nat → Int32) (p1 : Int32) (x2 : Int32) : Nat → Int32 → (Nat → Int32) → (Nat → Int32) → (Nat → Int32) → (Nat → Int32) → (Nat → Int32) → Option (Int32 × (Nat → Int32) × (Nat → Int32) × (Nat → Int32) × (Nat → Int32) × (Nat → Int32))
  | 0, _, _, _, _, _, _ => none
  | n + 1, x3, yg_this, yg_this_finger, yf_this_waiting, yf_this_held, yf_this_seen => if x3 < 0 then (some (x3, yg_this, yg_this_finger, yf_this_waiting, yf_this_held, yf_this_seen)) else ((f_X2_at 9 yf_this_held x2).bind fun (q2 : Int32) => if q2 ≤ 0 then (some (x3, yg_this, yg_this_finger, yf_this_waiting, yf_this_held, yf_this_seen)) else ((some ((x2 * 558) + x3)).bind fun (v4 : Int32) => (f_X2_at 5022 yf_this_waiting v4).bind fun (q5 : Int32) => (some (q5 - 1)).bind fun (v6 : Int32) => if 0 ≤ v6 then ((f_X2_put 5022 yf_this_waiting v4 0).bind fun (q8 : (Nat → Int32)) => (f_X2_at 9 yf_this_held x2).bind fun (q9 : Int32) => (f_X2_put 9 yf_this_held x2 (q9 - 1)).bind fun (q10 : (Nat → Int32)) => (some ((yg_this 0) - 1)).bind fun (v11 : Int32) => (f_X2_at 558 yf_this_seen x3).bind fun (q12 : Int32) => if v6 < q12 then ((some (x3 + (-1))).bind fun (v14 : Int32) => f_X1_spreadLayer_L9 f_this_finger_kinds f_this_finger_thicks p1 x2 n v14 (upd yg_this 0 v11) yg_this_finger q8 q10 yf_this_seen) else ((f_X1_see (upd yg_this 0 v11) yf_this_seen x3 v6).bind fun (q15 : (Nat → Int32)) => (f_X1_spread (upd yg_this 0 v11) yg_this_finger f_this_finger_kinds f_this_finger_thicks q8 q10 q15 p1 x3 v6).bind fun (q16 : (Nat → Int32) × (Nat → Int32) × (Nat → Int32) × (Nat → Int32)) => (some (x3 + (-1))).bind fun (v17 : Int32) => f_X1_spreadLayer_L9 f_this_finger_kinds f_this_finger_thicks p1 x2 n v17 q16.1 q16.2.1 q16.2.2.1 q16.2.2.2 q15)) else ((some (x3 + (-1))).bind fun (v18 : Int32) => f_X1_spreadLayer_L9 f_this_finger_kinds f_this_finger_thicks p1 x2 n v18 yg_this yg_this_finger yf_this_waiting yf_this_held yf_this_seen)))
def f_X1_spreadLayer (g_this g_this_finger f_this_finger_kinds f_this_finger_thicks f_this_waiting f_this_held f_this_seen : Nat → Int32) (p1 : Int32) : Option ((Nat → Int32) × (Nat → Int32) × (Nat → Int32) × (Nat → Int32) × (Nat → Int32)) := (some (rf_rem p1 9)).bind fun (v19 : Int32) => (f_X1_spreadLayer_L9 f_this_finger_kinds f_this_finger_thicks p1 v19 rf_fu 557 g_this g_this_finger f_this_waiting f_this_held f_this_seen).bind fun (q20 : Int32 × (Nat → Int32) × (Nat → Int32) × (Nat → Int32) × (Nat → Int32) × (Nat → Int32)) => some (q20.2.1, q20.2.2.1, q20.2.2.2.1, q20.2.2.2.2.1, q20.2.2.2.2.2)
def f_X1_least_L43 (g_o1 f_o1_kinds f_o1_thicks : Nat → Int32) (p2 p3 p4 : Int32) (yf_this_finger_kinds yf_this_finger_thicks : Nat → Int32) : Nat → Int32 → (Nat → Int32) → (Nat → Int32) → (Nat → Int32) → (Nat → Int32) → (Nat → Int32) → Option (Int32 × (Nat → Int32) × (Nat → Int32) × (Nat → Int32) × (Nat → Int32) × (Nat → Int32))
  | 0, _, _, _, _, _, _ => none
  | n + 1, x5, yg_this, yg_this_finger, yf_this_waiting, yf_this_held, yf_this_seen => if (yg_this 1) ≤ x5 then (some (x5, yg_this, yg_this_finger, yf_this_waiting, yf_this_held, yf_this_seen)) else (if (yg_this 0) ≤ 0 then (some (x5, yg_this, yg_this_finger, yf_this_waiting, yf_this_held, yf_this_seen)) else ((f_X1_spreadLayer yg_this yg_this_finger yf_this_finger_kinds yf_this_finger_thicks yf_this_waiting yf_this_held yf_this_seen x5).bind fun (q3 : (Nat → Int32) × (Nat → Int32) × (Nat → Int32) × (Nat → Int32) × (Nat → Int32)) => (some (x5 + 1)).bind fun (v4 : Int32) => f_X1_least_L43 g_o1 f_o1_kinds f_o1_thicks p2 p3 p4 yf_this_finger_kinds yf_this_finger_thicks n v4 q3.1 q3.2.1 q3.2.2.1 q3.2.2.2.1 q3.2.2.2.2))
def f_X1_least (g_this g_this_finger f_this_finger_kinds f_this_finger_thicks f_this_waiting f_this_held f_this_seen g_o1 f_o1_kinds f_o1_thicks : Nat → Int32) (p2 p3 p4 : Int32) : Option (Int32 × (Nat → Int32) × (Nat → Int32) × (Nat → Int32) × (Nat → Int32) × (Nat → Int32) × (Nat → Int32) × (Nat → Int32)) := (f_X0_isOff g_o1).bind fun (q5 : Int32) => if q5 = 0 then ((f_X1_clear g_this f_this_waiting f_this_held f_this_seen).bind fun (q7 : (Nat → Int32) × (Nat → Int32) × (Nat → Int32) × (Nat → Int32)) => (f_X0_copyFrom g_this_finger f_this_finger_kinds f_this_finger_thicks g_o1 f_o1_kinds f_o1_thicks).bind fun (q8 : (Nat → Int32) × (Nat → Int32) × (Nat → Int32)) => if p3 &&& 1 = p3 then (some (p4 + 1)).bind fun (v10 : Int32) => (f_X1_arrive (upd (upd q7.1 2 p3) 1 v10) q8.1 q7.2.1 q7.2.2.1 q7.2.2.2 0 p2).bind fun (q11 : (Nat → Int32) × (Nat → Int32) × (Nat → Int32)) => (f_X1_least_L43 g_o1 f_o1_kinds f_o1_thicks p2 p3 p4 q8.2.1 q8.2.2 rf_fu 0 q11.1 q8.1 q11.2.1 q11.2.2 q7.2.2.2).bind fun (q12 : Int32 × (Nat → Int32) × (Nat → Int32) × (Nat → Int32) × (Nat → Int32) × (Nat → Int32)) => if p4 < (q12.2.1 1) then (some ((-9), q12.2.1, q12.2.2.1, q8.2.1, q8.2.2, q12.2.2.2.1, q12.2.2.2.2.1, q12.2.2.2.2.2)) else (some ((q12.2.1 1), q12.2.1, q12.2.2.1, q8.2.1, q8.2.2, q12.2.2.2.1, q12.2.2.2.2.1, q12.2.2.2.2.2)) else none) else (some (0, g_this, g_this_finger, f_this_finger_kinds, f_this_finger_thicks, f_this_waiting, f_this_held, f_this_seen))
def f_X2_refuse (g_this f_this_refusals : Nat → Int32) (p1 : Int32) : Option (Int32 × (Nat → Int32)) := (f_X2_at 7 f_this_refusals (-p1)).bind fun (q1 : Int32) => (f_X2_put 7 f_this_refusals (-p1) (q1 + 1)).bind fun (q2 : (Nat → Int32)) => some (p1, q2)
def f_X2_letter (g_this f_this_letters f_this_refusals : Nat → Int32) (p1 : Int32) : Option (Int32 × (Nat → Int32) × (Nat → Int32) × (Nat → Int32)) := if 0 ≤ p1 then (if 255 < p1 then ((f_X2_refuse g_this f_this_refusals (-6)).bind fun (q3 : Int32 × (Nat → Int32)) => some (q3.1, g_this, f_this_letters, q3.2)) else (if (g_this 0) < 96 then ((f_X2_put 96 f_this_letters (g_this 0) p1).bind fun (q5 : (Nat → Int32)) => (some ((g_this 0) + 1)).bind fun (v6 : Int32) => some (v6, (upd g_this 0 v6), q5, f_this_refusals)) else ((f_X2_refuse g_this f_this_refusals (-6)).bind fun (q7 : Int32 × (Nat → Int32)) => some (q7.1, g_this, f_this_letters, q7.2)))) else ((f_X2_refuse g_this f_this_refusals (-4)).bind fun (q8 : Int32 × (Nat → Int32)) => some (q8.1, g_this, f_this_letters, q8.2))
def f_X2_kindOf (p0 : Int32) : Option (Int32) := if p0 = 106 then (some 4) else (if p0 = 107 then (some 1) else (if p0 = 112 then (some 0) else (if p0 = 114 then (some 3) else (if p0 = 115 then (some 2) else (if p0 = 116 then (some 5) else (some (-1)))))))
def f_X2_fits (p0 p1 p2 p3 : Int32) : Option (Int32) := if p1 = (p2 - 1) then (if p3 = 59 then (some 1) else (some 0)) else (if p0 = 112 then (if p1 = 1 then ((f_X2_kindOf p3).bind fun (q8 : Int32) => if q8 < 0 then (some 0) else (some 1)) else (if p3 < 48 then (some 0) else (if 57 < p3 then (some 0) else (some 1)))) else (if p3 < 48 then (some 0) else (if 57 < p3 then (some 0) else (some 1))))
def f_X2_letterAt (g_this f_this_letters : Nat → Int32) (p1 : Int32) : Option (Int32) := if (g_this 0) ≤ p1 then (some (-1)) else ((f_X2_at 96 f_this_letters p1).bind fun (q2 : Int32) => some q2)
def f_X2_statementLength (p0 : Int32) : Option (Int32) := if p0 = 99 then (some 4) else (if p0 = 104 then (some 3) else (if p0 = 112 then (some 6) else (if p0 = 114 then (some 6) else (if p0 = 115 then (some 4) else (if p0 = 116 then (some 3) else (if p0 = 119 then (some 4) else (some 0)))))))
def f_X2_formFault_L49 (g_this f_this_letters : Nat → Int32) (x1 x2 x3 x4 : Int32) : Nat → Int32 → Option ((Int32) ⊕ (Int32))
  | 0, _ => none
  | n + 1, x5 => if x4 ≤ x5 then (some (Sum.inr x5)) else ((f_X2_letterAt g_this f_this_letters (x1 + x5)).bind fun (q2 : Int32) => (f_X2_fits x3 x5 x4 q2).bind fun (q3 : Int32) => if q3 = 0 then (some (Sum.inl (x1 + x5))) else ((some (x5 + 1)).bind fun (v5 : Int32) => f_X2_formFault_L49 g_this f_this_letters x1 x2 x3 x4 n v5))
def f_X2_formFault_L13 (g_this f_this_letters : Nat → Int32) : Nat → Int32 → Int32 → Option ((Int32) ⊕ (Int32 × Int32))
  | 0, _, _ => none
  | n + 1, x1, x2 => if 96 ≤ x2 then (some (Sum.inr (x1, x2))) else (if (g_this 0) ≤ x1 then (some (Sum.inr (x1, x2))) else ((f_X2_letterAt g_this f_this_letters x1).bind fun (q8 : Int32) => (f_X2_statementLength q8).bind fun (q9 : Int32) => if q9 = 0 then (some (Sum.inl x1)) else ((f_X2_formFault_L49 g_this f_this_letters x1 x2 q8 q9 rf_fu 1).bind fun (q11 : (Int32) ⊕ (Int32)) => rf_sum q11 (fun r => some (Sum.inl r)) (fun (x12 : Int32) => (some (x1 + q9)).bind fun (v13 : Int32) => (some (x2 + 1)).bind fun (v14 : Int32) => f_X2_formFault_L13 g_this f_this_letters n v13 v14))))
def f_X2_formFault (g_this f_this_letters : Nat → Int32) : Option (Int32) := if (g_this 0) = 0 then (some 0) else ((f_X2_formFault_L13 g_this f_this_letters rf_fu 0 0).bind fun (q16 : (Int32) ⊕ (Int32 × Int32)) => rf_sum q16 (fun r => some r) (fun (x17 : Int32 × Int32) => some (-1)))
def f_X2_numberAt_L5 (g_this f_this_letters : Nat → Int32) (p1 p2 : Int32) : Nat → Int32 → Int32 → Option (Int32 × Int32)
  | 0, _, _ => none
  | n + 1, x3, x4 => if p2 ≤ x4 then (some (x3, x4)) else ((f_X2_letterAt g_this f_this_letters (p1 + x4)).bind fun (q2 : Int32) => (some (((x3 * 10) + q2) - 48)).bind fun (v3 : Int32) => (some (x4 + 1)).bind fun (v4 : Int32) => f_X2_numberAt_L5 g_this f_this_letters p1 p2 n v3 v4)
def f_X2_numberAt (g_this f_this_letters : Nat → Int32) (p1 p2 : Int32) : Option (Int32) := (f_X2_numberAt_L5 g_this f_this_letters p1 p2 rf_fu 0 0).bind fun (q5 : Int32 × Int32) => some q5.1
def f_X2_takeStatement (g_this g_this_trial f_this_trial_kinds f_this_trial_thicks f_this_letters : Nat → Int32) (p1 : Int32) : Option (Int32 × (Nat → Int32) × (Nat → Int32) × (Nat → Int32)) := (f_X2_letterAt g_this f_this_letters p1).bind fun (q1 : Int32) => if q1 = 99 then ((f_X2_numberAt g_this f_this_letters (p1 + 1) 2).bind fun (q3 : Int32) => (f_X0_takeSetting g_this_trial 3 q3).bind fun (q4 : Int32 × (Nat → Int32)) => if q4.1 &&& 1 = q4.1 then some (q4.1, q4.2, f_this_trial_kinds, f_this_trial_thicks) else none) else (if q1 = 104 then ((f_X2_numberAt g_this f_this_letters (p1 + 1) 1).bind fun (q7 : Int32) => (f_X0_takeSetting g_this_trial 4 q7).bind fun (q8 : Int32 × (Nat → Int32)) => if q8.1 &&& 1 = q8.1 then some (q8.1, q8.2, f_this_trial_kinds, f_this_trial_thicks) else none) else (if q1 = 112 then ((f_X2_letterAt g_this f_this_letters (p1 + 1)).bind fun (q11 : Int32) => (f_X2_kindOf q11).bind fun (q12 : Int32) => (f_X2_numberAt g_this f_this_letters (p1 + 2) 3).bind fun (q13 : Int32) => (f_X0_takePart g_this_trial f_this_trial_kinds f_this_trial_thicks q12 q13).bind fun (q14 : Int32 × (Nat → Int32) × (Nat → Int32) × (Nat → Int32)) => if q14.1 &&& 1 = q14.1 then some (q14.1, q14.2.1, q14.2.2.1, q14.2.2.2) else none) else (if q1 = 114 then ((f_X2_numberAt g_this f_this_letters (p1 + 1) 3).bind fun (q17 : Int32) => (f_X0_takeSetting g_this_trial 0 q17).bind fun (q18 : Int32 × (Nat → Int32)) => if q18.1 = 0 then (some (0, q18.2, f_this_trial_kinds, f_this_trial_thicks)) else ((f_X2_numberAt g_this f_this_letters (p1 + 4) 1).bind fun (q20 : Int32) => (f_X0_takeSetting q18.2 1 q20).bind fun (q21 : Int32 × (Nat → Int32)) => if q21.1 = 0 then (some (0, q21.2, f_this_trial_kinds, f_this_trial_thicks)) else (some (1, q21.2, f_this_trial_kinds, f_this_trial_thicks)))) else (if q1 = 115 then ((f_X2_numberAt g_this f_this_letters (p1 + 1) 2).bind fun (q24 : Int32) => (f_X0_takeSetting g_this_trial 2 q24).bind fun (q25 : Int32 × (Nat → Int32)) => if q25.1 &&& 1 = q25.1 then some (q25.1, q25.2, f_this_trial_kinds, f_this_trial_thicks) else none) else (if q1 = 116 then ((f_X2_numberAt g_this f_this_letters (p1 + 1) 1).bind fun (q28 : Int32) => (f_X0_takeTry g_this_trial f_this_trial_kinds f_this_trial_thicks q28).bind fun (q29 : Int32 × (Nat → Int32)) => if q29.1 &&& 1 = q29.1 then some (q29.1, q29.2, f_this_trial_kinds, f_this_trial_thicks) else none) else (if q1 = 119 then ((f_X2_numberAt g_this f_this_letters (p1 + 1) 2).bind fun (q32 : Int32) => (f_X0_takeWait g_this_trial q32).bind fun (q33 : Int32 × (Nat → Int32)) => if q33.1 &&& 1 = q33.1 then some (q33.1, q33.2, f_this_trial_kinds, f_this_trial_thicks) else none) else (some (0, g_this_trial, f_this_trial_kinds, f_this_trial_thicks))))))))
def f_X2_takeStatements_L17 (g_this f_this_letters : Nat → Int32) (yg_this_now yf_this_now_kinds yf_this_now_thicks : Nat → Int32) : Nat → Int32 → Int32 → Int32 → (Nat → Int32) → (Nat → Int32) → (Nat → Int32) → Option ((Int32 × (Nat → Int32) × (Nat → Int32) × (Nat → Int32) × (Nat → Int32) × (Nat → Int32) × (Nat → Int32)) ⊕ (Int32 × Int32 × Int32 × (Nat → Int32) × (Nat → Int32) × (Nat → Int32)))
  | 0, _, _, _, _, _, _ => none
  | n + 1, x1, x2, x3, yg_this_trial, yf_this_trial_kinds, yf_this_trial_thicks => if 96 ≤ x3 then (some (Sum.inr (x1, x2, x3, yg_this_trial, yf_this_trial_kinds, yf_this_trial_thicks))) else (if (g_this 0) ≤ x2 then (some (Sum.inr (x1, x2, x3, yg_this_trial, yf_this_trial_kinds, yf_this_trial_thicks))) else ((f_X2_takeStatement g_this yg_this_trial yf_this_trial_kinds yf_this_trial_thicks f_this_letters x2).bind fun (q3 : Int32 × (Nat → Int32) × (Nat → Int32) × (Nat → Int32)) => if q3.1 = 0 then (some (Sum.inl (((-2000) - x2), yg_this_now, yf_this_now_kinds, yf_this_now_thicks, q3.2.1, q3.2.2.1, q3.2.2.2))) else ((some (x1 + 1)).bind fun (v5 : Int32) => (f_X2_letterAt g_this f_this_letters x2).bind fun (q6 : Int32) => (f_X2_statementLength q6).bind fun (q7 : Int32) => (some (x2 + q7)).bind fun (v8 : Int32) => (some (x3 + 1)).bind fun (v9 : Int32) => f_X2_takeStatements_L17 g_this f_this_letters yg_this_now yf_this_now_kinds yf_this_now_thicks n v5 v8 v9 q3.2.1 q3.2.2.1 q3.2.2.2)))
def f_X2_takeStatements (g_this g_this_now f_this_now_kinds f_this_now_thicks g_this_trial f_this_trial_kinds f_this_trial_thicks f_this_letters : Nat → Int32) : Option (Int32 × (Nat → Int32) × (Nat → Int32) × (Nat → Int32) × (Nat → Int32) × (Nat → Int32) × (Nat → Int32)) := (f_X0_copyFrom g_this_trial f_this_trial_kinds f_this_trial_thicks g_this_now f_this_now_kinds f_this_now_thicks).bind fun (q10 : (Nat → Int32) × (Nat → Int32) × (Nat → Int32)) => (f_X2_takeStatements_L17 g_this f_this_letters g_this_now f_this_now_kinds f_this_now_thicks rf_fu 0 0 0 q10.1 q10.2.1 q10.2.2).bind fun (q11 : (Int32 × (Nat → Int32) × (Nat → Int32) × (Nat → Int32) × (Nat → Int32) × (Nat → Int32) × (Nat → Int32)) ⊕ (Int32 × Int32 × Int32 × (Nat → Int32) × (Nat → Int32) × (Nat → Int32))) => rf_sum q11 (fun r => some r) (fun (x12 : Int32 × Int32 × Int32 × (Nat → Int32) × (Nat → Int32) × (Nat → Int32)) => (f_X0_copyFrom g_this_now f_this_now_kinds f_this_now_thicks x12.2.2.2.1 x12.2.2.2.2.1 x12.2.2.2.2.2).bind fun (q13 : (Nat → Int32) × (Nat → Int32) × (Nat → Int32)) => some (x12.1, q13.1, q13.2.1, q13.2.2, x12.2.2.2.1, x12.2.2.2.2.1, x12.2.2.2.2.2))
def f_X2_hand (g_this g_this_now f_this_now_kinds f_this_now_thicks g_this_trial f_this_trial_kinds f_this_trial_thicks f_this_letters : Nat → Int32) : Option (Int32 × (Nat → Int32) × (Nat → Int32) × (Nat → Int32) × (Nat → Int32) × (Nat → Int32) × (Nat → Int32) × (Nat → Int32)) := (f_X2_formFault g_this f_this_letters).bind fun (q1 : Int32) => if q1 < 0 then ((f_X2_takeStatements g_this g_this_now f_this_now_kinds f_this_now_thicks g_this_trial f_this_trial_kinds f_this_trial_thicks f_this_letters).bind fun (q3 : Int32 × (Nat → Int32) × (Nat → Int32) × (Nat → Int32) × (Nat → Int32) × (Nat → Int32) × (Nat → Int32)) => some (q3.1, (upd g_this 0 0), q3.2.1, q3.2.2.1, q3.2.2.2.1, q3.2.2.2.2.1, q3.2.2.2.2.2.1, q3.2.2.2.2.2.2)) else ((some ((-1000) - q1)).bind fun (v4 : Int32) => some (v4, (upd g_this 0 0), g_this_now, f_this_now_kinds, f_this_now_thicks, g_this_trial, f_this_trial_kinds, f_this_trial_thicks))
def f_X2_part (g_this g_this_now f_this_now_kinds f_this_now_thicks f_this_refusals : Nat → Int32) (p1 p2 : Int32) : Option (Int32 × (Nat → Int32)) := if p1 < 0 then ((f_X2_refuse g_this f_this_refusals (-1)).bind fun (q2 : Int32 × (Nat → Int32)) => some (q2.1, q2.2)) else (if p1 < (g_this_now 0) then (if p2 = 0 then ((f_X2_at 6 f_this_now_kinds p1).bind fun (q5 : Int32) => some (q5, f_this_refusals)) else (if p2 = 1 then ((f_X2_at 6 f_this_now_thicks p1).bind fun (q7 : Int32) => some (q7, f_this_refusals)) else (if p2 = 2 then ((f_X0_thickNow g_this_now f_this_now_kinds f_this_now_thicks p1).bind fun (q9 : Int32) => some (q9, f_this_refusals)) else ((f_X2_refuse g_this f_this_refusals (-2)).bind fun (q10 : Int32 × (Nat → Int32)) => some (q10.1, q10.2))))) else ((f_X2_refuse g_this f_this_refusals (-1)).bind fun (q11 : Int32 × (Nat → Int32)) => some (q11.1, q11.2)))
def f_X2_set (g_this g_this_now f_this_refusals : Nat → Int32) (p1 p2 : Int32) : Option (Int32 × (Nat → Int32) × (Nat → Int32)) := if p1 < 0 then ((f_X2_refuse g_this f_this_refusals (-2)).bind fun (q2 : Int32 × (Nat → Int32)) => some (q2.1, g_this_now, q2.2)) else (if p1 ≤ 4 then ((f_X2_at 5 rf_a0 p1).bind fun (q4 : Int32) => if q4 ≤ p2 then ((f_X2_at 5 rf_a1 p1).bind fun (q6 : Int32) => if p2 ≤ q6 then ((f_X0_setting g_this_now p1).bind fun (q8 : Int32) => (f_X0_change g_this_now p1 p2).bind fun (q9 : (Nat → Int32)) => some (q8, q9, f_this_refusals)) else ((f_X2_refuse g_this f_this_refusals (-6)).bind fun (q10 : Int32 × (Nat → Int32)) => some (q10.1, g_this_now, q10.2))) else ((f_X2_refuse g_this f_this_refusals (-4)).bind fun (q11 : Int32 × (Nat → Int32)) => some (q11.1, g_this_now, q11.2))) else ((f_X2_refuse g_this f_this_refusals (-2)).bind fun (q12 : Int32 × (Nat → Int32)) => some (q12.1, g_this_now, q12.2)))
def f_X2_back (g_this g_this_now : Nat → Int32) : Option (Int32 × (Nat → Int32)) := (some (g_this_now 3)).bind fun (v1 : Int32) => some (v1, (upd g_this_now 3 0))
def f_X2_kind (g_this g_this_now f_this_refusals : Nat → Int32) (p1 p2 : Int32) : Option (Int32 × (Nat → Int32)) := (f_X2_isTry p1).bind fun (q1 : Int32) => if q1 = 0 then ((f_X2_refuse g_this f_this_refusals (-2)).bind fun (q12 : Int32 × (Nat → Int32)) => some (q12.1, q12.2)) else (if p2 = 0 then ((f_X2_allowance p1 (g_this_now 2)).bind fun (q4 : Int32) => some (q4, f_this_refusals)) else (if p2 = 1 then ((f_X2_at 8 rf_a2 p1).bind fun (q6 : Int32) => some (q6, f_this_refusals)) else (if p2 = 2 then ((f_X2_at 8 rf_a3 p1).bind fun (q8 : Int32) => some (q8, f_this_refusals)) else (if p2 = 3 then ((f_X2_at 8 rf_a4 p1).bind fun (q10 : Int32) => some (q10, f_this_refusals)) else ((f_X2_refuse g_this f_this_refusals (-2)).bind fun (q11 : Int32 × (Nat → Int32)) => some (q11.1, q11.2))))))
def f_X2_tryRefusal (g_this g_this_now f_this_refusals : Nat → Int32) (p1 : Int32) : Option (Int32 × (Nat → Int32)) := (f_X2_isTry p1).bind fun (q1 : Int32) => if q1 = 0 then ((f_X2_refuse g_this f_this_refusals (-2)).bind fun (q6 : Int32 × (Nat → Int32)) => some (q6.1, q6.2)) else ((f_X0_isOff g_this_now).bind fun (q3 : Int32) => if q3 = 0 then (some (0, f_this_refusals)) else ((f_X2_refuse g_this f_this_refusals (-3)).bind fun (q5 : Int32 × (Nat → Int32)) => some (q5.1, q5.2)))
def f_X2_tries (g_this g_this_now f_this_now_kinds f_this_now_thicks f_this_refusals : Nat → Int32) (p1 : Int32) : Option (Int32 × (Nat → Int32) × (Nat → Int32)) := (f_X2_tryRefusal g_this g_this_now f_this_refusals p1).bind fun (q1 : Int32 × (Nat → Int32)) => if q1.1 = 0 then ((f_X2_at 8 rf_a2 p1).bind fun (q3 : Int32) => (f_X0_hasMinutes g_this_now q3).bind fun (q4 : Int32) => if q4 = 0 then ((f_X2_refuse g_this q1.2 (-6)).bind fun (q8 : Int32 × (Nat → Int32)) => some (q8.1, g_this_now, q8.2)) else ((f_X0_attempt g_this_now f_this_now_kinds f_this_now_thicks p1).bind fun (q6 : Int32 × (Nat → Int32)) => if q6.1 = 0 then (some (0, q6.2, q1.2)) else (some (1, q6.2, q1.2)))) else (some (q1.1, g_this_now, q1.2))
def f_X2_pause (g_this g_this_now f_this_refusals : Nat → Int32) (p1 : Int32) : Option (Int32 × (Nat → Int32) × (Nat → Int32)) := if 1 ≤ p1 then (if 60 < p1 then ((f_X2_refuse g_this f_this_refusals (-6)).bind fun (q3 : Int32 × (Nat → Int32)) => some (q3.1, g_this_now, q3.2)) else ((f_X0_hasMinutes g_this_now p1).bind fun (q4 : Int32) => if q4 = 0 then ((f_X2_refuse g_this f_this_refusals (-6)).bind fun (q7 : Int32 × (Nat → Int32)) => some (q7.1, g_this_now, q7.2)) else ((f_X0_rest g_this_now p1).bind fun (q6 : (Nat → Int32)) => some ((q6 8), q6, f_this_refusals)))) else ((f_X2_refuse g_this f_this_refusals (-4)).bind fun (q8 : Int32 × (Nat → Int32)) => some (q8.1, g_this_now, q8.2))
def f_X2_would (g_this g_this_now f_this_now_kinds f_this_now_thicks f_this_refusals : Nat → Int32) (p1 : Int32) : Option (Int32 × (Nat → Int32)) := (f_X2_tryRefusal g_this g_this_now f_this_refusals p1).bind fun (q1 : Int32 × (Nat → Int32)) => if q1.1 = 0 then ((f_X0_goesOver g_this_now f_this_now_kinds f_this_now_thicks p1).bind fun (q3 : Int32) => if q3 = 0 then (some (0, q1.2)) else (some (1, q1.2))) else (some (q1.1, q1.2))
def f_X2_holds (g_this g_this_now f_this_now_kinds f_this_now_thicks : Nat → Int32) : Option (Int32) := (f_X0_isOff g_this_now).bind fun (q1 : Int32) => if q1 = 0 then ((f_X0_thickNow g_this_now f_this_now_kinds f_this_now_thicks (g_this_now 3)).bind fun (q3 : Int32) => some (q3 - (g_this_now 1))) else (some (-9999))
def f_X2_failuresAhead_L13 (g_this g_this_now f_this_now_kinds f_this_now_thicks : Nat → Int32) (p1 : Int32) (yf_this_trial_kinds yf_this_trial_thicks : Nat → Int32) : Nat → Int32 → (Nat → Int32) → Option ((Int32 × (Nat → Int32) × (Nat → Int32) × (Nat → Int32)) ⊕ (Int32 × (Nat → Int32)))
  | 0, _, _ => none
  | n + 1, x2, yg_this_trial => if 12 < x2 then (some (Sum.inr (x2, yg_this_trial))) else ((f_X0_goesOver yg_this_trial yf_this_trial_kinds yf_this_trial_thicks p1).bind fun (q2 : Int32) => if q2 = 0 then ((f_X0_strain yg_this_trial p1).bind fun (q4 : (Nat → Int32)) => (some (x2 + 1)).bind fun (v5 : Int32) => f_X2_failuresAhead_L13 g_this g_this_now f_this_now_kinds f_this_now_thicks p1 yf_this_trial_kinds yf_this_trial_thicks n v5 q4) else (some (Sum.inl (x2, yg_this_trial, yf_this_trial_kinds, yf_this_trial_thicks))))
def f_X2_failuresAhead (g_this g_this_now f_this_now_kinds f_this_now_thicks g_this_trial f_this_trial_kinds f_this_trial_thicks : Nat → Int32) (p1 : Int32) : Option (Int32 × (Nat → Int32) × (Nat → Int32) × (Nat → Int32)) := (f_X0_copyFrom g_this_trial f_this_trial_kinds f_this_trial_thicks g_this_now f_this_now_kinds f_this_now_thicks).bind fun (q6 : (Nat → Int32) × (Nat → Int32) × (Nat → Int32)) => (f_X2_failuresAhead_L13 g_this g_this_now f_this_now_kinds f_this_now_thicks p1 q6.2.1 q6.2.2 rf_fu 0 q6.1).bind fun (q7 : (Int32 × (Nat → Int32) × (Nat → Int32) × (Nat → Int32)) ⊕ (Int32 × (Nat → Int32))) => rf_sum q7 (fun r => some r) (fun (x8 : Int32 × (Nat → Int32)) => some ((-9), x8.2, q6.2.1, q6.2.2))
def f_X2_goes (g_this g_this_now f_this_now_kinds f_this_now_thicks g_this_trial f_this_trial_kinds f_this_trial_thicks f_this_refusals : Nat → Int32) (p1 : Int32) : Option (Int32 × (Nat → Int32) × (Nat → Int32) × (Nat → Int32) × (Nat → Int32)) := (f_X2_tryRefusal g_this g_this_now f_this_refusals p1).bind fun (q1 : Int32 × (Nat → Int32)) => if q1.1 = 0 then ((f_X2_failuresAhead g_this g_this_now f_this_now_kinds f_this_now_thicks g_this_trial f_this_trial_kinds f_this_trial_thicks p1).bind fun (q3 : Int32 × (Nat → Int32) × (Nat → Int32) × (Nat → Int32)) => some (q3.1, q3.2.1, q3.2.2.1, q3.2.2.2, q1.2)) else (some (q1.1, g_this_trial, f_this_trial_kinds, f_this_trial_thicks, q1.2))
def f_X2_stop_L25 (g_this g_this_now f_this_now_kinds f_this_now_thicks : Nat → Int32) (yf_this_refusals : Nat → Int32) : Nat → Int32 → Int32 → Int32 → (Nat → Int32) → (Nat → Int32) → (Nat → Int32) → Option (Int32 × Int32 × Int32 × (Nat → Int32) × (Nat → Int32) × (Nat → Int32))
  | 0, _, _, _, _, _, _ => none
  | n + 1, x1, x2, x3, yg_this_trial, yf_this_trial_kinds, yf_this_trial_thicks => if 6 < x3 then (some (x1, x2, x3, yg_this_trial, yf_this_trial_kinds, yf_this_trial_thicks)) else ((f_X2_failuresAhead g_this g_this_now f_this_now_kinds f_this_now_thicks yg_this_trial yf_this_trial_kinds yf_this_trial_thicks x3).bind fun (q2 : Int32 × (Nat → Int32) × (Nat → Int32) × (Nat → Int32)) => if q2.1 < 0 then ((some (x3 + 1)).bind fun (v4 : Int32) => f_X2_stop_L25 g_this g_this_now f_this_now_kinds f_this_now_thicks yf_this_refusals n x1 x2 v4 q2.2.1 q2.2.2.1 q2.2.2.2) else (if x2 ≤ q2.1 then ((some (x3 + 1)).bind fun (v6 : Int32) => f_X2_stop_L25 g_this g_this_now f_this_now_kinds f_this_now_thicks yf_this_refusals n x1 x2 v6 q2.2.1 q2.2.2.1 q2.2.2.2) else ((some (x3 + 1)).bind fun (v7 : Int32) => f_X2_stop_L25 g_this g_this_now f_this_now_kinds f_this_now_thicks yf_this_refusals n x3 q2.1 v7 q2.2.1 q2.2.2.1 q2.2.2.2)))
def f_X2_stop (g_this g_this_now f_this_now_kinds f_this_now_thicks g_this_trial f_this_trial_kinds f_this_trial_thicks f_this_refusals : Nat → Int32) : Option (Int32 × (Nat → Int32) × (Nat → Int32) × (Nat → Int32) × (Nat → Int32)) := (f_X0_isOff g_this_now).bind fun (q8 : Int32) => if q8 = 0 then ((f_X2_stop_L25 g_this g_this_now f_this_now_kinds f_this_now_thicks f_this_refusals rf_fu (-9) 13 0 g_this_trial f_this_trial_kinds f_this_trial_thicks).bind fun (q10 : Int32 × Int32 × Int32 × (Nat → Int32) × (Nat → Int32) × (Nat → Int32)) => some (q10.1, q10.2.2.2.1, q10.2.2.2.2.1, q10.2.2.2.2.2, f_this_refusals)) else ((f_X2_refuse g_this f_this_refusals (-3)).bind fun (q11 : Int32 × (Nat → Int32)) => some (q11.1, g_this_trial, f_this_trial_kinds, f_this_trial_thicks, q11.2))
def f_X2_waited_L14 (g_this g_this_now f_this_now_kinds f_this_now_thicks : Nat → Int32) (p1 : Int32) (yf_this_refusals : Nat → Int32) : Nat → Int32 → (Nat → Int32) → (Nat → Int32) → (Nat → Int32) → Option ((Int32 × (Nat → Int32) × (Nat → Int32) × (Nat → Int32) × (Nat → Int32)) ⊕ (Int32 × (Nat → Int32) × (Nat → Int32) × (Nat → Int32)))
  | 0, _, _, _, _ => none
  | n + 1, x3, yg_this_trial, yf_this_trial_kinds, yf_this_trial_thicks => if 60 < x3 then (some (Sum.inr (x3, yg_this_trial, yf_this_trial_kinds, yf_this_trial_thicks))) else ((f_X0_copyFrom yg_this_trial yf_this_trial_kinds yf_this_trial_thicks g_this_now f_this_now_kinds f_this_now_thicks).bind fun (q2 : (Nat → Int32) × (Nat → Int32) × (Nat → Int32)) => (f_X0_rest q2.1 x3).bind fun (q3 : (Nat → Int32)) => (f_X0_goesOver q3 q2.2.1 q2.2.2 p1).bind fun (q4 : Int32) => if q4 = 0 then ((some (x3 + 1)).bind fun (v6 : Int32) => f_X2_waited_L14 g_this g_this_now f_this_now_kinds f_this_now_thicks p1 yf_this_refusals n v6 q3 q2.2.1 q2.2.2) else (some (Sum.inl (x3, q3, q2.2.1, q2.2.2, yf_this_refusals))))
def f_X2_waited (g_this g_this_now f_this_now_kinds f_this_now_thicks g_this_trial f_this_trial_kinds f_this_trial_thicks f_this_refusals : Nat → Int32) (p1 : Int32) : Option (Int32 × (Nat → Int32) × (Nat → Int32) × (Nat → Int32) × (Nat → Int32)) := (f_X2_tryRefusal g_this g_this_now f_this_refusals p1).bind fun (q7 : Int32 × (Nat → Int32)) => if q7.1 = 0 then ((f_X2_waited_L14 g_this g_this_now f_this_now_kinds f_this_now_thicks p1 q7.2 rf_fu 0 g_this_trial f_this_trial_kinds f_this_trial_thicks).bind fun (q9 : (Int32 × (Nat → Int32) × (Nat → Int32) × (Nat → Int32) × (Nat → Int32)) ⊕ (Int32 × (Nat → Int32) × (Nat → Int32) × (Nat → Int32))) => rf_sum q9 (fun r => some r) (fun (x10 : Int32 × (Nat → Int32) × (Nat → Int32) × (Nat → Int32)) => some ((-9), x10.2.1, x10.2.2.1, x10.2.2.2, q7.2))) else (some (q7.1, g_this_trial, f_this_trial_kinds, f_this_trial_thicks, q7.2))
def f_X2_firstMove_L25 (g_this g_this_now f_this_now_kinds f_this_now_thicks : Nat → Int32) (p1 p2 : Int32) (x3 : Int32) : Nat → Int32 → (Nat → Int32) → (Nat → Int32) → (Nat → Int32) → (Nat → Int32) → (Nat → Int32) → (Nat → Int32) → (Nat → Int32) → (Nat → Int32) → (Nat → Int32) → (Nat → Int32) → Option ((Int32 × (Nat → Int32) × (Nat → Int32) × (Nat → Int32) × (Nat → Int32) × (Nat → Int32) × (Nat → Int32) × (Nat → Int32) × (Nat → Int32) × (Nat → Int32) × (Nat → Int32)) ⊕ (Int32 × (Nat → Int32) × (Nat → Int32) × (Nat → Int32) × (Nat → Int32) × (Nat → Int32) × (Nat → Int32) × (Nat → Int32) × (Nat → Int32) × (Nat → Int32) × (Nat → Int32)))
  | 0, _, _, _, _, _, _, _, _, _, _, _ => none
  | n + 1, x4, yg_this_trial, yf_this_trial_kinds, yf_this_trial_thicks, yg_this_search, yg_this_search_finger, yf_this_search_finger_kinds, yf_this_search_finger_thicks, yf_this_search_waiting, yf_this_search_held, yf_this_search_seen => if 7 < x4 then (some (Sum.inr (x4, yg_this_trial, yf_this_trial_kinds, yf_this_trial_thicks, yg_this_search, yg_this_search_finger, yf_this_search_finger_kinds, yf_this_search_finger_thicks, yf_this_search_waiting, yf_this_search_held, yf_this_search_seen))) else ((f_X2_movePrice x4 p1).bind fun (q2 : Int32) => (some (x3 - q2)).bind fun (v3 : Int32) => if x4 = 5 then ((f_X0_copyFrom yg_this_trial yf_this_trial_kinds yf_this_trial_thicks g_this_now f_this_now_kinds f_this_now_thicks).bind fun (q12 : (Nat → Int32) × (Nat → Int32) × (Nat → Int32)) => (f_X0_move q12.1 q12.2.1 q12.2.2 x4).bind fun (q13 : (Nat → Int32)) => if v3 < 0 then ((some (x4 + 1)).bind fun (v15 : Int32) => f_X2_firstMove_L25 g_this g_this_now f_this_now_kinds f_this_now_thicks p1 p2 x3 n v15 q13 q12.2.1 q12.2.2 yg_this_search yg_this_search_finger yf_this_search_finger_kinds yf_this_search_finger_thicks yf_this_search_waiting yf_this_search_held yf_this_search_seen) else ((f_X1_least yg_this_search yg_this_search_finger yf_this_search_finger_kinds yf_this_search_finger_thicks yf_this_search_waiting yf_this_search_held yf_this_search_seen q13 q12.2.1 q12.2.2 1 p1 v3).bind fun (q16 : Int32 × (Nat → Int32) × (Nat → Int32) × (Nat → Int32) × (Nat → Int32) × (Nat → Int32) × (Nat → Int32) × (Nat → Int32)) => if q16.1 = v3 then (some (Sum.inl (x4, q13, q12.2.1, q12.2.2, q16.2.1, q16.2.2.1, q16.2.2.2.1, q16.2.2.2.2.1, q16.2.2.2.2.2.1, q16.2.2.2.2.2.2.1, q16.2.2.2.2.2.2.2))) else ((some (x4 + 1)).bind fun (v18 : Int32) => f_X2_firstMove_L25 g_this g_this_now f_this_now_kinds f_this_now_thicks p1 p2 x3 n v18 q13 q12.2.1 q12.2.2 q16.2.1 q16.2.2.1 q16.2.2.2.1 q16.2.2.2.2.1 q16.2.2.2.2.2.1 q16.2.2.2.2.2.2.1 q16.2.2.2.2.2.2.2))) else ((f_X0_copyFrom yg_this_trial yf_this_trial_kinds yf_this_trial_thicks g_this_now f_this_now_kinds f_this_now_thicks).bind fun (q5 : (Nat → Int32) × (Nat → Int32) × (Nat → Int32)) => (f_X0_move q5.1 q5.2.1 q5.2.2 x4).bind fun (q6 : (Nat → Int32)) => if v3 < 0 then ((some (x4 + 1)).bind fun (v8 : Int32) => f_X2_firstMove_L25 g_this g_this_now f_this_now_kinds f_this_now_thicks p1 p2 x3 n v8 q6 q5.2.1 q5.2.2 yg_this_search yg_this_search_finger yf_this_search_finger_kinds yf_this_search_finger_thicks yf_this_search_waiting yf_this_search_held yf_this_search_seen) else ((f_X1_least yg_this_search yg_this_search_finger yf_this_search_finger_kinds yf_this_search_finger_thicks yf_this_search_waiting yf_this_search_held yf_this_search_seen q6 q5.2.1 q5.2.2 0 p1 v3).bind fun (q9 : Int32 × (Nat → Int32) × (Nat → Int32) × (Nat → Int32) × (Nat → Int32) × (Nat → Int32) × (Nat → Int32) × (Nat → Int32)) => if q9.1 = v3 then (some (Sum.inl (x4, q6, q5.2.1, q5.2.2, q9.2.1, q9.2.2.1, q9.2.2.2.1, q9.2.2.2.2.1, q9.2.2.2.2.2.1, q9.2.2.2.2.2.2.1, q9.2.2.2.2.2.2.2))) else ((some (x4 + 1)).bind fun (v11 : Int32) => f_X2_firstMove_L25 g_this g_this_now f_this_now_kinds f_this_now_thicks p1 p2 x3 n v11 q6 q5.2.1 q5.2.2 q9.2.1 q9.2.2.1 q9.2.2.2.1 q9.2.2.2.2.1 q9.2.2.2.2.2.1 q9.2.2.2.2.2.2.1 q9.2.2.2.2.2.2.2))))
def f_X2_firstMove (g_this g_this_now f_this_now_kinds f_this_now_thicks g_this_trial f_this_trial_kinds f_this_trial_thicks g_this_search g_this_search_finger f_this_search_finger_kinds f_this_search_finger_thicks f_this_search_waiting f_this_search_held f_this_search_seen : Nat → Int32) (p1 p2 : Int32) : Option (Int32 × (Nat → Int32) × (Nat → Int32) × (Nat → Int32) × (Nat → Int32) × (Nat → Int32) × (Nat → Int32) × (Nat → Int32) × (Nat → Int32) × (Nat → Int32) × (Nat → Int32)) := (f_X1_least g_this_search g_this_search_finger f_this_search_finger_kinds f_this_search_finger_thicks f_this_search_waiting f_this_search_held f_this_search_seen g_this_now f_this_now_kinds f_this_now_thicks 0 p1 p2).bind fun (q19 : Int32 × (Nat → Int32) × (Nat → Int32) × (Nat → Int32) × (Nat → Int32) × (Nat → Int32) × (Nat → Int32) × (Nat → Int32)) => if 0 < q19.1 then ((f_X2_firstMove_L25 g_this g_this_now f_this_now_kinds f_this_now_thicks p1 p2 q19.1 rf_fu 0 g_this_trial f_this_trial_kinds f_this_trial_thicks q19.2.1 q19.2.2.1 q19.2.2.2.1 q19.2.2.2.2.1 q19.2.2.2.2.2.1 q19.2.2.2.2.2.2.1 q19.2.2.2.2.2.2.2).bind fun (q21 : (Int32 × (Nat → Int32) × (Nat → Int32) × (Nat → Int32) × (Nat → Int32) × (Nat → Int32) × (Nat → Int32) × (Nat → Int32) × (Nat → Int32) × (Nat → Int32) × (Nat → Int32)) ⊕ (Int32 × (Nat → Int32) × (Nat → Int32) × (Nat → Int32) × (Nat → Int32) × (Nat → Int32) × (Nat → Int32) × (Nat → Int32) × (Nat → Int32) × (Nat → Int32) × (Nat → Int32))) => rf_sum q21 (fun r => some r) (fun (x22 : Int32 × (Nat → Int32) × (Nat → Int32) × (Nat → Int32) × (Nat → Int32) × (Nat → Int32) × (Nat → Int32) × (Nat → Int32) × (Nat → Int32) × (Nat → Int32) × (Nat → Int32)) => some ((-9), x22.2.1, x22.2.2.1, x22.2.2.2.1, x22.2.2.2.2.1, x22.2.2.2.2.2.1, x22.2.2.2.2.2.2.1, x22.2.2.2.2.2.2.2.1, x22.2.2.2.2.2.2.2.2.1, x22.2.2.2.2.2.2.2.2.2.1, x22.2.2.2.2.2.2.2.2.2.2))) else (some ((-9), g_this_trial, f_this_trial_kinds, f_this_trial_thicks, q19.2.1, q19.2.2.1, q19.2.2.2.1, q19.2.2.2.2.1, q19.2.2.2.2.2.1, q19.2.2.2.2.2.2.1, q19.2.2.2.2.2.2.2))
def f_X2_isEither (p0 : Int32) : Option (Int32) := if p0 = 0 then (some 1) else (if p0 = 1 then (some 1) else (some 0))
def f_X2_soonest (g_this g_this_now f_this_now_kinds f_this_now_thicks g_this_trial f_this_trial_kinds f_this_trial_thicks g_this_search g_this_search_finger f_this_search_finger_kinds f_this_search_finger_thicks f_this_search_waiting f_this_search_held f_this_search_seen f_this_refusals : Nat → Int32) (p1 : Int32) : Option (Int32 × (Nat → Int32) × (Nat → Int32) × (Nat → Int32) × (Nat → Int32) × (Nat → Int32) × (Nat → Int32) × (Nat → Int32) × (Nat → Int32) × (Nat → Int32) × (Nat → Int32) × (Nat → Int32)) := (f_X2_isEither p1).bind fun (q1 : Int32) => if q1 = 0 then ((f_X2_refuse g_this f_this_refusals (-2)).bind fun (q6 : Int32 × (Nat → Int32)) => some (q6.1, g_this_trial, f_this_trial_kinds, f_this_trial_thicks, g_this_search, g_this_search_finger, f_this_search_finger_kinds, f_this_search_finger_thicks, f_this_search_waiting, f_this_search_held, f_this_search_seen, q6.2)) else (if p1 = 0 then ((f_X1_least g_this_search g_this_search_finger f_this_search_finger_kinds f_this_search_finger_thicks f_this_search_waiting f_this_search_held f_this_search_seen g_this_now f_this_now_kinds f_this_now_thicks 0 0 120).bind fun (q5 : Int32 × (Nat → Int32) × (Nat → Int32) × (Nat → Int32) × (Nat → Int32) × (Nat → Int32) × (Nat → Int32) × (Nat → Int32)) => some (q5.1, g_this_trial, f_this_trial_kinds, f_this_trial_thicks, q5.2.1, q5.2.2.1, q5.2.2.2.1, q5.2.2.2.2.1, q5.2.2.2.2.2.1, q5.2.2.2.2.2.2.1, q5.2.2.2.2.2.2.2, f_this_refusals)) else ((f_X2_firstMove g_this g_this_now f_this_now_kinds f_this_now_thicks g_this_trial f_this_trial_kinds f_this_trial_thicks g_this_search g_this_search_finger f_this_search_finger_kinds f_this_search_finger_thicks f_this_search_waiting f_this_search_held f_this_search_seen 0 120).bind fun (q4 : Int32 × (Nat → Int32) × (Nat → Int32) × (Nat → Int32) × (Nat → Int32) × (Nat → Int32) × (Nat → Int32) × (Nat → Int32) × (Nat → Int32) × (Nat → Int32) × (Nat → Int32)) => some (q4.1, q4.2.1, q4.2.2.1, q4.2.2.2.1, q4.2.2.2.2.1, q4.2.2.2.2.2.1, q4.2.2.2.2.2.2.1, q4.2.2.2.2.2.2.2.1, q4.2.2.2.2.2.2.2.2.1, q4.2.2.2.2.2.2.2.2.2.1, q4.2.2.2.2.2.2.2.2.2.2, f_this_refusals)))
def f_X2_gentlest (g_this g_this_now f_this_now_kinds f_this_now_thicks g_this_trial f_this_trial_kinds f_this_trial_thicks g_this_search g_this_search_finger f_this_search_finger_kinds f_this_search_finger_thicks f_this_search_waiting f_this_search_held f_this_search_seen f_this_refusals : Nat → Int32) (p1 : Int32) : Option (Int32 × (Nat → Int32) × (Nat → Int32) × (Nat → Int32) × (Nat → Int32) × (Nat → Int32) × (Nat → Int32) × (Nat → Int32) × (Nat → Int32) × (Nat → Int32) × (Nat → Int32) × (Nat → Int32)) := (f_X2_isEither p1).bind fun (q1 : Int32) => if q1 = 0 then ((f_X2_refuse g_this f_this_refusals (-2)).bind fun (q6 : Int32 × (Nat → Int32)) => some (q6.1, g_this_trial, f_this_trial_kinds, f_this_trial_thicks, g_this_search, g_this_search_finger, f_this_search_finger_kinds, f_this_search_finger_thicks, f_this_search_waiting, f_this_search_held, f_this_search_seen, q6.2)) else (if p1 = 0 then ((f_X1_least g_this_search g_this_search_finger f_this_search_finger_kinds f_this_search_finger_thicks f_this_search_waiting f_this_search_held f_this_search_seen g_this_now f_this_now_kinds f_this_now_thicks 0 1 60).bind fun (q5 : Int32 × (Nat → Int32) × (Nat → Int32) × (Nat → Int32) × (Nat → Int32) × (Nat → Int32) × (Nat → Int32) × (Nat → Int32)) => some (q5.1, g_this_trial, f_this_trial_kinds, f_this_trial_thicks, q5.2.1, q5.2.2.1, q5.2.2.2.1, q5.2.2.2.2.1, q5.2.2.2.2.2.1, q5.2.2.2.2.2.2.1, q5.2.2.2.2.2.2.2, f_this_refusals)) else ((f_X2_firstMove g_this g_this_now f_this_now_kinds f_this_now_thicks g_this_trial f_this_trial_kinds f_this_trial_thicks g_this_search g_this_search_finger f_this_search_finger_kinds f_this_search_finger_thicks f_this_search_waiting f_this_search_held f_this_search_seen 1 60).bind fun (q4 : Int32 × (Nat → Int32) × (Nat → Int32) × (Nat → Int32) × (Nat → Int32) × (Nat → Int32) × (Nat → Int32) × (Nat → Int32) × (Nat → Int32) × (Nat → Int32) × (Nat → Int32)) => some (q4.1, q4.2.1, q4.2.2.1, q4.2.2.2.1, q4.2.2.2.2.1, q4.2.2.2.2.2.1, q4.2.2.2.2.2.2.1, q4.2.2.2.2.2.2.2.1, q4.2.2.2.2.2.2.2.2.1, q4.2.2.2.2.2.2.2.2.2.1, q4.2.2.2.2.2.2.2.2.2.2, f_this_refusals)))
def f_X2_danger (g_this g_this_now f_this_refusals : Nat → Int32) (p1 : Int32) : Option (Int32 × (Nat → Int32)) := if 0 ≤ p1 then (if p1 ≤ 9 then ((some (rf_min 99 ((g_this_now 6) + (p1 * 5)))).bind fun (v3 : Int32) => (some (rf_max 0 (v3 - 9))).bind fun (v4 : Int32) => some (v4, f_this_refusals)) else ((f_X2_refuse g_this f_this_refusals (-6)).bind fun (q5 : Int32 × (Nat → Int32)) => some (q5.1, q5.2))) else ((f_X2_refuse g_this f_this_refusals (-4)).bind fun (q6 : Int32 × (Nat → Int32)) => some (q6.1, q6.2))
def f_X2_measureMonths_L13 (g_this g_this_now f_this_now_kinds f_this_now_thicks f_this_numbers : Nat → Int32) (yf_this_trial_kinds yf_this_trial_thicks : Nat → Int32) : Nat → Int32 → (Nat → Int32) → (Nat → Int32) → Option (Int32 × (Nat → Int32) × (Nat → Int32))
  | 0, _, _, _ => none
  | n + 1, x1, yg_this_trial, yf_this_thickest => if 12 ≤ x1 then (some (x1, yg_this_trial, yf_this_thickest)) else ((f_X2_at 12 f_this_numbers x1).bind fun (q2 : Int32) => (some (2 * q2)).bind fun (v3 : Int32) => (some (9 - q2)).bind fun (v4 : Int32) => (f_X0_thickestNow (upd (upd (upd yg_this_trial 7 q2) 4 v3) 5 v4) yf_this_trial_kinds yf_this_trial_thicks).bind fun (q5 : Int32) => (f_X2_put 12 yf_this_thickest x1 q5).bind fun (q6 : (Nat → Int32)) => (some (x1 + 1)).bind fun (v7 : Int32) => f_X2_measureMonths_L13 g_this g_this_now f_this_now_kinds f_this_now_thicks f_this_numbers yf_this_trial_kinds yf_this_trial_thicks n v7 (upd (upd (upd yg_this_trial 7 q2) 4 v3) 5 v4) q6)
def f_X2_measureMonths (g_this g_this_now f_this_now_kinds f_this_now_thicks g_this_trial f_this_trial_kinds f_this_trial_thicks f_this_numbers f_this_thickest : Nat → Int32) : Option ((Nat → Int32) × (Nat → Int32) × (Nat → Int32) × (Nat → Int32)) := (f_X0_copyFrom g_this_trial f_this_trial_kinds f_this_trial_thicks g_this_now f_this_now_kinds f_this_now_thicks).bind fun (q8 : (Nat → Int32) × (Nat → Int32) × (Nat → Int32)) => (f_X2_measureMonths_L13 g_this g_this_now f_this_now_kinds f_this_now_thicks f_this_numbers q8.2.1 q8.2.2 rf_fu 0 q8.1 f_this_thickest).bind fun (q9 : Int32 × (Nat → Int32) × (Nat → Int32)) => some (q9.2.1, q8.2.1, q8.2.2, q9.2.2)
def f_X2_monthRefusal (g_this f_this_refusals : Nat → Int32) (p1 : Int32) : Option (Int32 × (Nat → Int32)) := if 100 ≤ p1 then (if p1 ≤ 250 then (if (g_this 1) = 12 then (some (0, f_this_refusals)) else ((f_X2_refuse g_this f_this_refusals (-3)).bind fun (q4 : Int32 × (Nat → Int32)) => some (q4.1, q4.2))) else ((f_X2_refuse g_this f_this_refusals (-6)).bind fun (q5 : Int32 × (Nat → Int32)) => some (q5.1, q5.2))) else ((f_X2_refuse g_this f_this_refusals (-4)).bind fun (q6 : Int32 × (Nat → Int32)) => some (q6.1, q6.2))
def f_X2_stickMonths_L4 (g_this f_this_thickest : Nat → Int32) (p1 : Int32) : Nat → Int32 → Int32 → Option (Int32 × Int32)
  | 0, _, _ => none
  | n + 1, x2, x3 => if 12 ≤ x3 then (some (x2, x3)) else ((f_X2_at 12 f_this_thickest x3).bind fun (q2 : Int32) => if q2 ≤ (p1 + 4) then ((some (x3 + 1)).bind fun (v4 : Int32) => f_X2_stickMonths_L4 g_this f_this_thickest p1 n x2 v4) else ((some (x2 ||| (1 <<< (x3 &&& 31)))).bind fun (v5 : Int32) => (some (x3 + 1)).bind fun (v6 : Int32) => f_X2_stickMonths_L4 g_this f_this_thickest p1 n v5 v6))
def f_X2_stickMonths (g_this f_this_thickest : Nat → Int32) (p1 : Int32) : Option (Int32) := (f_X2_stickMonths_L4 g_this f_this_thickest p1 rf_fu 0 0).bind fun (q7 : Int32 × Int32) => some q7.1
def f_X2_sticks (g_this g_this_now f_this_now_kinds f_this_now_thicks g_this_trial f_this_trial_kinds f_this_trial_thicks f_this_numbers f_this_thickest f_this_refusals : Nat → Int32) (p1 : Int32) : Option (Int32 × (Nat → Int32) × (Nat → Int32) × (Nat → Int32) × (Nat → Int32) × (Nat → Int32)) := (f_X2_monthRefusal g_this f_this_refusals p1).bind fun (q1 : Int32 × (Nat → Int32)) => if q1.1 = 0 then ((f_X2_measureMonths g_this g_this_now f_this_now_kinds f_this_now_thicks g_this_trial f_this_trial_kinds f_this_trial_thicks f_this_numbers f_this_thickest).bind fun (q3 : (Nat → Int32) × (Nat → Int32) × (Nat → Int32) × (Nat → Int32)) => (f_X2_stickMonths g_this q3.2.2.2 p1).bind fun (q4 : Int32) => some (q4, q3.1, q3.2.1, q3.2.2.1, q3.2.2.2, q1.2)) else (some (q1.1, g_this_trial, f_this_trial_kinds, f_this_trial_thicks, f_this_thickest, q1.2))
def f_X2_fallMonths_L4 (g_this f_this_thickest : Nat → Int32) (p1 : Int32) : Nat → Int32 → Int32 → Option (Int32 × Int32)
  | 0, _, _ => none
  | n + 1, x2, x3 => if 12 ≤ x3 then (some (x2, x3)) else ((f_X2_at 12 f_this_thickest x3).bind fun (q2 : Int32) => if (p1 - 9) ≤ q2 then ((some (x3 + 1)).bind fun (v4 : Int32) => f_X2_fallMonths_L4 g_this f_this_thickest p1 n x2 v4) else ((some (x2 ||| (1 <<< (x3 &&& 31)))).bind fun (v5 : Int32) => (some (x3 + 1)).bind fun (v6 : Int32) => f_X2_fallMonths_L4 g_this f_this_thickest p1 n v5 v6))
def f_X2_fallMonths (g_this f_this_thickest : Nat → Int32) (p1 : Int32) : Option (Int32) := (f_X2_fallMonths_L4 g_this f_this_thickest p1 rf_fu 0 0).bind fun (q7 : Int32 × Int32) => some q7.1
def f_X2_falls (g_this g_this_now f_this_now_kinds f_this_now_thicks g_this_trial f_this_trial_kinds f_this_trial_thicks f_this_numbers f_this_thickest f_this_refusals : Nat → Int32) (p1 : Int32) : Option (Int32 × (Nat → Int32) × (Nat → Int32) × (Nat → Int32) × (Nat → Int32) × (Nat → Int32)) := (f_X2_monthRefusal g_this f_this_refusals p1).bind fun (q1 : Int32 × (Nat → Int32)) => if q1.1 = 0 then ((f_X2_measureMonths g_this g_this_now f_this_now_kinds f_this_now_thicks g_this_trial f_this_trial_kinds f_this_trial_thicks f_this_numbers f_this_thickest).bind fun (q3 : (Nat → Int32) × (Nat → Int32) × (Nat → Int32) × (Nat → Int32)) => (f_X2_fallMonths g_this q3.2.2.2 p1).bind fun (q4 : Int32) => some (q4, q3.1, q3.2.1, q3.2.2.1, q3.2.2.2, q1.2)) else (some (q1.1, g_this_trial, f_this_trial_kinds, f_this_trial_thicks, f_this_thickest, q1.2))
def f_J6_bitCount_0f7a4 (p0 : Int32) : Option (Int32) := (some (p0 - ((rf_ushr p0 1) &&& 1431655765))).bind fun (v1 : Int32) => (some ((v1 &&& 858993459) + ((rf_ushr v1 2) &&& 858993459))).bind fun (v2 : Int32) => (some ((v2 + (rf_ushr v2 4)) &&& 252645135)).bind fun (v3 : Int32) => (some (v3 + (rf_ushr v3 8))).bind fun (v4 : Int32) => (some (v4 + (rf_ushr v4 16))).bind fun (v5 : Int32) => some (v5 &&& 63)
def f_X2_cost (g_this f_this_thickest : Nat → Int32) (p1 p2 p3 p4 : Int32) : Option (Int32) := (f_X2_stickMonths g_this f_this_thickest p1).bind fun (q1 : Int32) => (f_J6_bitCount_0f7a4 (q1 &&& p2)).bind fun (q2 : Int32) => (f_X2_fallMonths g_this f_this_thickest p1).bind fun (q3 : Int32) => (f_J6_bitCount_0f7a4 (q3 &&& p2)).bind fun (q4 : Int32) => some ((p3 * q2) + (p4 * q4))
def f_X2_bestSize_L19 (g_this f_this_thickest : Nat → Int32) (p1 p2 p3 : Int32) : Nat → Int32 → Int32 → Int32 → Option (Int32 × Int32 × Int32)
  | 0, _, _, _ => none
  | n + 1, x4, x5, x6 => if 250 < x6 then (some (x4, x5, x6)) else (if x5 ≤ 0 then (some (x4, x5, x6)) else ((f_X2_cost g_this f_this_thickest x6 p1 p2 p3).bind fun (q3 : Int32) => if x5 ≤ q3 then ((some (x6 + 1)).bind fun (v5 : Int32) => f_X2_bestSize_L19 g_this f_this_thickest p1 p2 p3 n x4 x5 v5) else ((some (x6 + 1)).bind fun (v6 : Int32) => f_X2_bestSize_L19 g_this f_this_thickest p1 p2 p3 n x6 q3 v6)))
def f_X2_bestSize (g_this f_this_thickest : Nat → Int32) (p1 p2 p3 : Int32) : Option (Int32) := (f_X2_cost g_this f_this_thickest 100 p1 p2 p3).bind fun (q7 : Int32) => (f_X2_bestSize_L19 g_this f_this_thickest p1 p2 p3 rf_fu 100 q7 101).bind fun (q8 : Int32 × Int32 × Int32) => some q8.1
def f_X2_priceRange (p0 p1 : Int32) : Option (Int32) := if p0 < 0 then (some (-4)) else (if 0 ≤ p1 then (if 99 < p0 then (some (-6)) else (if p1 ≤ 99 then (some 0) else (some (-6)))) else (some (-4)))
def f_X2_year (g_this g_this_now f_this_now_kinds f_this_now_thicks g_this_trial f_this_trial_kinds f_this_trial_thicks f_this_numbers f_this_thickest f_this_refusals : Nat → Int32) (p1 p2 p3 : Int32) : Option (Int32 × (Nat → Int32) × (Nat → Int32) × (Nat → Int32) × (Nat → Int32) × (Nat → Int32)) := (f_X2_priceRange p1 p2).bind fun (q1 : Int32) => if q1 = 0 then ((f_X2_isEither p3).bind fun (q3 : Int32) => if q3 = 0 then ((f_X2_refuse g_this f_this_refusals (-2)).bind fun (q11 : Int32 × (Nat → Int32)) => some (q11.1, g_this_trial, f_this_trial_kinds, f_this_trial_thicks, f_this_thickest, q11.2)) else (if (g_this 1) = 12 then ((f_X2_measureMonths g_this g_this_now f_this_now_kinds f_this_now_thicks g_this_trial f_this_trial_kinds f_this_trial_thicks f_this_numbers f_this_thickest).bind fun (q6 : (Nat → Int32) × (Nat → Int32) × (Nat → Int32) × (Nat → Int32)) => (f_X2_bestSize g_this q6.2.2.2 4095 p1 p2).bind fun (q7 : Int32) => if p3 = 0 then (some (q7, q6.1, q6.2.1, q6.2.2.1, q6.2.2.2, f_this_refusals)) else ((f_X2_cost g_this q6.2.2.2 q7 4095 p1 p2).bind fun (q9 : Int32) => some (q9, q6.1, q6.2.1, q6.2.2.1, q6.2.2.2, f_this_refusals))) else ((f_X2_refuse g_this f_this_refusals (-3)).bind fun (q10 : Int32 × (Nat → Int32)) => some (q10.1, g_this_trial, f_this_trial_kinds, f_this_trial_thicks, f_this_thickest, q10.2)))) else ((f_X2_refuse g_this f_this_refusals q1).bind fun (q12 : Int32 × (Nat → Int32)) => some (q12.1, g_this_trial, f_this_trial_kinds, f_this_trial_thicks, f_this_thickest, q12.2))
def f_X2_monthSpan (p0 p1 : Int32) : Option (Int32) := some ((1 <<< (p1 &&& 31)) - (1 <<< (p0 &&& 31)))
def f_X2_spanRange (p0 p1 p2 p3 : Int32) : Option (Int32) := if p0 < 0 then (some (-4)) else (if p1 < 0 then (some (-4)) else (if p2 < 0 then (some (-4)) else (if 0 ≤ p3 then (if 12 < p1 then (some (-6)) else (if p0 ≤ p1 then ((f_X2_priceRange p2 p3).bind fun (q7 : Int32) => some q7) else (some (-6)))) else (some (-4)))))
def f_X2_leastCost (g_this f_this_thickest : Nat → Int32) (p1 p2 p3 : Int32) : Option (Int32) := (f_X2_bestSize g_this f_this_thickest p1 p2 p3).bind fun (q1 : Int32) => (f_X2_cost g_this f_this_thickest q1 p1 p2 p3).bind fun (q2 : Int32) => some q2
def f_X2_twoCost (g_this f_this_thickest : Nat → Int32) (p1 p2 p3 : Int32) : Option (Int32) := (f_X2_leastCost g_this f_this_thickest p1 p2 p3).bind fun (q1 : Int32) => (f_X2_leastCost g_this f_this_thickest (4095 - p1) p2 p3).bind fun (q2 : Int32) => some (q1 + q2)
def f_X2_two (g_this g_this_now f_this_now_kinds f_this_now_thicks g_this_trial f_this_trial_kinds f_this_trial_thicks f_this_numbers f_this_thickest f_this_refusals : Nat → Int32) (p1 p2 p3 p4 p5 : Int32) : Option (Int32 × (Nat → Int32) × (Nat → Int32) × (Nat → Int32) × (Nat → Int32) × (Nat → Int32)) := (f_X2_spanRange p1 p2 p3 p4).bind fun (q1 : Int32) => if q1 = 0 then (if p5 < 0 then ((f_X2_refuse g_this f_this_refusals (-2)).bind fun (q4 : Int32 × (Nat → Int32)) => some (q4.1, g_this_trial, f_this_trial_kinds, f_this_trial_thicks, f_this_thickest, q4.2)) else (if p5 ≤ 2 then (if (g_this 1) = 12 then ((f_X2_measureMonths g_this g_this_now f_this_now_kinds f_this_now_thicks g_this_trial f_this_trial_kinds f_this_trial_thicks f_this_numbers f_this_thickest).bind fun (q7 : (Nat → Int32) × (Nat → Int32) × (Nat → Int32) × (Nat → Int32)) => (f_X2_monthSpan p1 p2).bind fun (q8 : Int32) => if p5 = 0 then ((f_X2_bestSize g_this q7.2.2.2 q8 p3 p4).bind fun (q10 : Int32) => some (q10, q7.1, q7.2.1, q7.2.2.1, q7.2.2.2, f_this_refusals)) else (if p5 = 1 then ((f_X2_bestSize g_this q7.2.2.2 (4095 - q8) p3 p4).bind fun (q12 : Int32) => some (q12, q7.1, q7.2.1, q7.2.2.1, q7.2.2.2, f_this_refusals)) else ((f_X2_twoCost g_this q7.2.2.2 q8 p3 p4).bind fun (q13 : Int32) => some (q13, q7.1, q7.2.1, q7.2.2.1, q7.2.2.2, f_this_refusals)))) else ((f_X2_refuse g_this f_this_refusals (-3)).bind fun (q14 : Int32 × (Nat → Int32)) => some (q14.1, g_this_trial, f_this_trial_kinds, f_this_trial_thicks, f_this_thickest, q14.2))) else ((f_X2_refuse g_this f_this_refusals (-2)).bind fun (q15 : Int32 × (Nat → Int32)) => some (q15.1, g_this_trial, f_this_trial_kinds, f_this_trial_thicks, f_this_thickest, q15.2)))) else ((f_X2_refuse g_this f_this_refusals q1).bind fun (q16 : Int32 × (Nat → Int32)) => some (q16.1, g_this_trial, f_this_trial_kinds, f_this_trial_thicks, f_this_thickest, q16.2))
def f_X2_worth (g_this g_this_now f_this_now_kinds f_this_now_thicks g_this_trial f_this_trial_kinds f_this_trial_thicks f_this_numbers f_this_thickest f_this_refusals : Nat → Int32) (p1 p2 p3 p4 : Int32) : Option (Int32 × (Nat → Int32) × (Nat → Int32) × (Nat → Int32) × (Nat → Int32) × (Nat → Int32)) := (f_X2_spanRange p1 p2 p3 p4).bind fun (q1 : Int32) => if q1 = 0 then (if (g_this 1) = 12 then ((f_X2_measureMonths g_this g_this_now f_this_now_kinds f_this_now_thicks g_this_trial f_this_trial_kinds f_this_trial_thicks f_this_numbers f_this_thickest).bind fun (q4 : (Nat → Int32) × (Nat → Int32) × (Nat → Int32) × (Nat → Int32)) => (f_X2_leastCost g_this q4.2.2.2 4095 p3 p4).bind fun (q5 : Int32) => (f_X2_monthSpan p1 p2).bind fun (q6 : Int32) => (f_X2_twoCost g_this q4.2.2.2 q6 p3 p4).bind fun (q7 : Int32) => some ((q5 - q7), q4.1, q4.2.1, q4.2.2.1, q4.2.2.2, f_this_refusals)) else ((f_X2_refuse g_this f_this_refusals (-3)).bind fun (q8 : Int32 × (Nat → Int32)) => some ((1000000000 - q8.1), g_this_trial, f_this_trial_kinds, f_this_trial_thicks, f_this_thickest, q8.2))) else ((f_X2_refuse g_this f_this_refusals q1).bind fun (q9 : Int32 × (Nat → Int32)) => some ((1000000000 - q9.1), g_this_trial, f_this_trial_kinds, f_this_trial_thicks, f_this_thickest, q9.2))
def f_X2_went_L41 (g_this g_this_now f_this_now_kinds f_this_now_thicks : Nat → Int32) (p1 p2 : Int32) (yf_this_trial_kinds yf_this_trial_thicks yf_this_refusals : Nat → Int32) : Nat → Int32 → Int32 → Int32 → (Nat → Int32) → Option (Int32 × Int32 × Int32 × (Nat → Int32))
  | 0, _, _, _, _ => none
  | n + 1, x3, x4, x5, yg_this_trial => if 30 < x5 then (some (x3, x4, x5, yg_this_trial)) else ((f_X0_thickestNow (upd yg_this_trial 4 x5) yf_this_trial_kinds yf_this_trial_thicks).bind fun (q2 : Int32) => (f_X2_allowance p1 (yg_this_trial 2)).bind fun (q3 : Int32) => if ((yg_this_trial 1) + q3) < q2 then ((some (x5 + 1)).bind fun (v5 : Int32) => f_X2_went_L41 g_this g_this_now f_this_now_kinds f_this_now_thicks p1 p2 yf_this_trial_kinds yf_this_trial_thicks yf_this_refusals n x3 x4 v5 (upd yg_this_trial 4 x5)) else ((some (x3 + 1)).bind fun (v6 : Int32) => (some (x5 + 1)).bind fun (v7 : Int32) => f_X2_went_L41 g_this g_this_now f_this_now_kinds f_this_now_thicks p1 p2 yf_this_trial_kinds yf_this_trial_thicks yf_this_refusals n v6 x5 v7 (upd yg_this_trial 4 x5)))
def f_X2_went (g_this g_this_now f_this_now_kinds f_this_now_thicks g_this_trial f_this_trial_kinds f_this_trial_thicks f_this_refusals : Nat → Int32) (p1 p2 : Int32) : Option (Int32 × (Nat → Int32) × (Nat → Int32) × (Nat → Int32) × (Nat → Int32)) := (f_X2_isTry p1).bind fun (q8 : Int32) => if q8 = 0 then ((f_X2_refuse g_this f_this_refusals (-2)).bind fun (q10 : Int32 × (Nat → Int32)) => some (q10.1, g_this_trial, f_this_trial_kinds, f_this_trial_thicks, q10.2)) else ((f_X2_isEither p2).bind fun (q11 : Int32) => if q11 = 0 then ((f_X2_refuse g_this f_this_refusals (-2)).bind fun (q16 : Int32 × (Nat → Int32)) => some (q16.1, g_this_trial, f_this_trial_kinds, f_this_trial_thicks, q16.2)) else ((f_X0_copyFrom g_this_trial f_this_trial_kinds f_this_trial_thicks g_this_now f_this_now_kinds f_this_now_thicks).bind fun (q13 : (Nat → Int32) × (Nat → Int32) × (Nat → Int32)) => (f_X2_went_L41 g_this g_this_now f_this_now_kinds f_this_now_thicks p1 p2 q13.2.1 q13.2.2 f_this_refusals rf_fu 0 (-9) 0 q13.1).bind fun (q14 : Int32 × Int32 × Int32 × (Nat → Int32)) => if p2 = 0 then (some (q14.1, q14.2.2.2, q13.2.1, q13.2.2, f_this_refusals)) else (some (q14.2.1, q14.2.2.2, q13.2.1, q13.2.2, f_this_refusals))))
def f_X2_numbersTellTries_L13 (g_this f_this_numbers : Nat → Int32) : Nat → Int32 → Option ((Int32) ⊕ (Int32))
  | 0, _ => none
  | n + 1, x1 => if (g_this 1) ≤ (x1 + 1) then (some (Sum.inr x1)) else ((f_X2_at 12 f_this_numbers x1).bind fun (q2 : Int32) => (f_X2_isTry q2).bind fun (q3 : Int32) => if q3 = 0 then (some (Sum.inl 0)) else ((f_X2_at 12 f_this_numbers (x1 + 1)).bind fun (q5 : Int32) => if q5 ≤ 1 then ((some (x1 + 2)).bind fun (v7 : Int32) => f_X2_numbersTellTries_L13 g_this f_this_numbers n v7) else (some (Sum.inl 0))))
def f_X2_numbersTellTries (g_this f_this_numbers : Nat → Int32) : Option (Int32) := (some (rf_rem (g_this 1) 2)).bind fun (v8 : Int32) => if v8 = 0 then ((f_X2_numbersTellTries_L13 g_this f_this_numbers rf_fu 0).bind fun (q10 : (Int32) ⊕ (Int32)) => rf_sum q10 (fun r => some r) (fun (x11 : Int32) => some 1)) else (some 0)
def f_X2_feel_L58 (g_this g_this_now f_this_now_kinds f_this_now_thicks f_this_numbers : Nat → Int32) (p1 : Int32) (yf_this_trial_kinds yf_this_refusals : Nat → Int32) : Nat → Int32 → Int32 → Int32 → (Nat → Int32) → (Nat → Int32) → Option (Int32 × Int32 × Int32 × (Nat → Int32) × (Nat → Int32))
  | 0, _, _, _, _, _ => none
  | n + 1, x2, x3, x4, yg_this_trial, yf_this_trial_thicks => if (g_this 1) ≤ (x4 + 1) then (some (x2, x3, x4, yg_this_trial, yf_this_trial_thicks)) else ((f_X2_at 12 f_this_numbers x4).bind fun (q2 : Int32) => (f_X0_thickestThatGoes yg_this_trial yf_this_trial_kinds yf_this_trial_thicks q2).bind fun (q3 : Int32 × (Nat → Int32)) => (f_X2_at 12 f_this_numbers (x4 + 1)).bind fun (q4 : Int32) => if q4 = 1 then ((some (rf_min x3 q3.1)).bind fun (v9 : Int32) => (f_X0_strain yg_this_trial q2).bind fun (q10 : (Nat → Int32)) => (some (x4 + 2)).bind fun (v11 : Int32) => f_X2_feel_L58 g_this g_this_now f_this_now_kinds f_this_now_thicks f_this_numbers p1 yf_this_trial_kinds yf_this_refusals n x2 v9 v11 q10 q3.2) else ((some (rf_max x2 (q3.1 + 1))).bind fun (v6 : Int32) => (f_X0_strain yg_this_trial q2).bind fun (q7 : (Nat → Int32)) => (some (x4 + 2)).bind fun (v8 : Int32) => f_X2_feel_L58 g_this g_this_now f_this_now_kinds f_this_now_thicks f_this_numbers p1 yf_this_trial_kinds yf_this_refusals n v6 x3 v8 q7 q3.2))
def f_X2_feel (g_this g_this_now f_this_now_kinds f_this_now_thicks g_this_trial f_this_trial_kinds f_this_trial_thicks f_this_numbers f_this_refusals : Nat → Int32) (p1 : Int32) : Option (Int32 × (Nat → Int32) × (Nat → Int32) × (Nat → Int32) × (Nat → Int32)) := (f_X2_isEither p1).bind fun (q12 : Int32) => if q12 = 0 then ((f_X2_refuse g_this f_this_refusals (-2)).bind fun (q24 : Int32 × (Nat → Int32)) => some (q24.1, g_this_trial, f_this_trial_kinds, f_this_trial_thicks, q24.2)) else ((f_X0_isOff g_this_now).bind fun (q14 : Int32) => if q14 = 0 then ((f_X2_numbersTellTries g_this f_this_numbers).bind fun (q17 : Int32) => if q17 = 0 then ((f_X2_refuse g_this f_this_refusals (-3)).bind fun (q23 : Int32 × (Nat → Int32)) => some (q23.1, g_this_trial, f_this_trial_kinds, f_this_trial_thicks, q23.2)) else ((f_X0_copyFrom g_this_trial f_this_trial_kinds f_this_trial_thicks g_this_now f_this_now_kinds f_this_now_thicks).bind fun (q19 : (Nat → Int32) × (Nat → Int32) × (Nat → Int32)) => (f_X2_feel_L58 g_this g_this_now f_this_now_kinds f_this_now_thicks f_this_numbers p1 q19.2.1 f_this_refusals rf_fu 0 240 0 q19.1 q19.2.2).bind fun (q20 : Int32 × Int32 × Int32 × (Nat → Int32) × (Nat → Int32)) => if q20.1 ≤ q20.2.1 then (if p1 = 0 then (some (q20.1, q20.2.2.2.1, q19.2.1, q20.2.2.2.2, f_this_refusals)) else (some (q20.2.1, q20.2.2.2.1, q19.2.1, q20.2.2.2.2, f_this_refusals))) else (some ((-9), q20.2.2.2.1, q19.2.1, q20.2.2.2.2, f_this_refusals)))) else ((f_X2_refuse g_this f_this_refusals (-3)).bind fun (q16 : Int32 × (Nat → Int32)) => some (q16.1, g_this_trial, f_this_trial_kinds, f_this_trial_thicks, q16.2)))
def f_X2_row (g_this f_this_numbers f_this_refusals : Nat → Int32) (p1 : Int32) : Option (Int32 × (Nat → Int32) × (Nat → Int32) × (Nat → Int32)) := if 0 ≤ p1 then (if 9 < p1 then ((f_X2_refuse g_this f_this_refusals (-6)).bind fun (q3 : Int32 × (Nat → Int32)) => some (q3.1, g_this, f_this_numbers, q3.2)) else (if (g_this 1) < 12 then ((f_X2_put 12 f_this_numbers (g_this 1) p1).bind fun (q5 : (Nat → Int32)) => (some ((g_this 1) + 1)).bind fun (v6 : Int32) => some (v6, (upd g_this 1 v6), q5, f_this_refusals)) else ((f_X2_refuse g_this f_this_refusals (-6)).bind fun (q7 : Int32 × (Nat → Int32)) => some (q7.1, g_this, f_this_numbers, q7.2)))) else ((f_X2_refuse g_this f_this_refusals (-4)).bind fun (q8 : Int32 × (Nat → Int32)) => some (q8.1, g_this, f_this_numbers, q8.2))
def f_X2_judge_L36 (g_this_now f_this_now_kinds f_this_now_thicks f_this_numbers : Nat → Int32) (x1 : Int32) (yg_this yf_this_trial_kinds yf_this_trial_thicks : Nat → Int32) : Nat → Int32 → (Nat → Int32) → Option ((Int32 × (Nat → Int32) × (Nat → Int32) × (Nat → Int32) × (Nat → Int32)) ⊕ (Int32 × (Nat → Int32)))
  | 0, _, _ => none
  | n + 1, x2, yg_this_trial => if x1 ≤ x2 then (some (Sum.inr (x2, yg_this_trial))) else ((f_X2_at 12 f_this_numbers x2).bind fun (q2 : Int32) => (f_X0_move yg_this_trial yf_this_trial_kinds yf_this_trial_thicks q2).bind fun (q3 : (Nat → Int32)) => (f_X0_isOff q3).bind fun (q4 : Int32) => if q4 = 0 then ((some (x2 + 1)).bind fun (v6 : Int32) => f_X2_judge_L36 g_this_now f_this_now_kinds f_this_now_thicks f_this_numbers x1 yg_this yf_this_trial_kinds yf_this_trial_thicks n v6 q3) else (some (Sum.inl (x2, yg_this, q3, yf_this_trial_kinds, yf_this_trial_thicks))))
def f_X2_judge (g_this g_this_now f_this_now_kinds f_this_now_thicks g_this_trial f_this_trial_kinds f_this_trial_thicks f_this_numbers : Nat → Int32) : Option (Int32 × (Nat → Int32) × (Nat → Int32) × (Nat → Int32) × (Nat → Int32)) := (some (g_this 1)).bind fun (v7 : Int32) => (f_X0_isOff g_this_now).bind fun (q8 : Int32) => if q8 = 0 then ((f_X0_copyFrom g_this_trial f_this_trial_kinds f_this_trial_thicks g_this_now f_this_now_kinds f_this_now_thicks).bind fun (q10 : (Nat → Int32) × (Nat → Int32) × (Nat → Int32)) => (f_X2_judge_L36 g_this_now f_this_now_kinds f_this_now_thicks f_this_numbers v7 (upd g_this 1 0) q10.2.1 q10.2.2 rf_fu 0 q10.1).bind fun (q11 : (Int32 × (Nat → Int32) × (Nat → Int32) × (Nat → Int32) × (Nat → Int32)) ⊕ (Int32 × (Nat → Int32))) => rf_sum q11 (fun r => some r) (fun (x12 : Int32 × (Nat → Int32)) => some ((-9), (upd g_this 1 0), x12.2, q10.2.1, q10.2.2))) else (some ((-9), (upd g_this 1 0), g_this_trial, f_this_trial_kinds, f_this_trial_thicks))
def f_X2_draw (g_this : Nat → Int32) (p1 : Int32) : Option (Int32 × (Nat → Int32)) := (some (((g_this 3) * 1664525) + 1013904223)).bind fun (v1 : Int32) => if p1 ≤ 0 then (some (0, (upd g_this 3 v1))) else (if ¬ p1 = 0 then (some (rf_rem ((v1 &&& 2147483647) / 256) p1)).bind fun (v4 : Int32) => some (v4, (upd g_this 3 v1)) else none)
def f_X2_eveningHarm_L34 (g_this_now f_this_now_kinds f_this_now_thicks : Nat → Int32) (yf_this_trial_kinds yf_this_trial_thicks : Nat → Int32) : Nat → Int32 → (Nat → Int32) → (Nat → Int32) → Option (Int32 × (Nat → Int32) × (Nat → Int32))
  | 0, _, _, _ => none
  | n + 1, x1, yg_this, yg_this_trial => if 12 ≤ x1 then (some (x1, yg_this, yg_this_trial)) else ((f_X0_isOff yg_this_trial).bind fun (q2 : Int32) => if q2 = 0 then ((f_X2_draw yg_this 6).bind fun (q4 : Int32 × (Nat → Int32)) => (f_X0_attempt yg_this_trial yf_this_trial_kinds yf_this_trial_thicks q4.1).bind fun (q5 : Int32 × (Nat → Int32)) => (some (x1 + 1)).bind fun (v6 : Int32) => f_X2_eveningHarm_L34 g_this_now f_this_now_kinds f_this_now_thicks yf_this_trial_kinds yf_this_trial_thicks n v6 q4.2 q5.2) else (some (x1, yg_this, yg_this_trial)))
def f_X2_eveningHarm (g_this g_this_now f_this_now_kinds f_this_now_thicks g_this_trial f_this_trial_kinds f_this_trial_thicks : Nat → Int32) : Option (Int32 × (Nat → Int32) × (Nat → Int32) × (Nat → Int32) × (Nat → Int32)) := (f_X0_copyFrom g_this_trial f_this_trial_kinds f_this_trial_thicks g_this_now f_this_now_kinds f_this_now_thicks).bind fun (q7 : (Nat → Int32) × (Nat → Int32) × (Nat → Int32)) => (f_X2_draw g_this 31).bind fun (q8 : Int32 × (Nat → Int32)) => (f_X2_eveningHarm_L34 g_this_now f_this_now_kinds f_this_now_thicks q7.2.1 q7.2.2 rf_fu 0 q8.2 (upd (upd q7.1 9 0) 4 q8.1)).bind fun (q9 : Int32 × (Nat → Int32) × (Nat → Int32)) => some ((q9.2.2 9), q9.2.1, q9.2.2, q7.2.1, q7.2.2)
def f_X2_lots_L35 (g_this_now f_this_now_kinds f_this_now_thicks : Nat → Int32) (p1 p2 : Int32) (yf_this_refusals : Nat → Int32) : Nat → Int32 → Int32 → (Nat → Int32) → (Nat → Int32) → (Nat → Int32) → (Nat → Int32) → Option (Int32 × Int32 × (Nat → Int32) × (Nat → Int32) × (Nat → Int32) × (Nat → Int32))
  | 0, _, _, _, _, _, _ => none
  | n + 1, x3, x4, yg_this, yg_this_trial, yf_this_trial_kinds, yf_this_trial_thicks => if p1 ≤ x4 then (some (x3, x4, yg_this, yg_this_trial, yf_this_trial_kinds, yf_this_trial_thicks)) else ((f_X2_eveningHarm yg_this g_this_now f_this_now_kinds f_this_now_thicks yg_this_trial yf_this_trial_kinds yf_this_trial_thicks).bind fun (q2 : Int32 × (Nat → Int32) × (Nat → Int32) × (Nat → Int32) × (Nat → Int32)) => (some (x3 + q2.1)).bind fun (v3 : Int32) => (some (x4 + 1)).bind fun (v4 : Int32) => f_X2_lots_L35 g_this_now f_this_now_kinds f_this_now_thicks p1 p2 yf_this_refusals n v3 v4 q2.2.1 q2.2.2.1 q2.2.2.2.1 q2.2.2.2.2)
def f_X2_lots (g_this g_this_now f_this_now_kinds f_this_now_thicks g_this_trial f_this_trial_kinds f_this_trial_thicks f_this_refusals : Nat → Int32) (p1 p2 : Int32) : Option (Int32 × (Nat → Int32) × (Nat → Int32) × (Nat → Int32) × (Nat → Int32) × (Nat → Int32)) := if 1 ≤ p1 then (if p1 ≤ 20 then ((f_X2_lots_L35 g_this_now f_this_now_kinds f_this_now_thicks p1 p2 f_this_refusals rf_fu 0 0 (upd g_this 3 p2) g_this_trial f_this_trial_kinds f_this_trial_thicks).bind fun (q7 : Int32 × Int32 × (Nat → Int32) × (Nat → Int32) × (Nat → Int32) × (Nat → Int32)) => some (q7.1, q7.2.2.1, q7.2.2.2.1, q7.2.2.2.2.1, q7.2.2.2.2.2, f_this_refusals)) else ((f_X2_refuse g_this f_this_refusals (-6)).bind fun (q8 : Int32 × (Nat → Int32)) => some (q8.1, g_this, g_this_trial, f_this_trial_kinds, f_this_trial_thicks, q8.2))) else ((f_X2_refuse g_this f_this_refusals (-4)).bind fun (q9 : Int32 × (Nat → Int32)) => some (q9.1, g_this, g_this_trial, f_this_trial_kinds, f_this_trial_thicks, q9.2))
def f_X2_image (g_this g_this_now f_this_now_kinds f_this_now_thicks g_this_then f_this_then_kinds f_this_then_thicks : Nat → Int32) : Option (Int32 × (Nat → Int32) × (Nat → Int32) × (Nat → Int32) × (Nat → Int32)) := (f_X0_copyFrom g_this_then f_this_then_kinds f_this_then_thicks g_this_now f_this_now_kinds f_this_now_thicks).bind fun (q1 : (Nat → Int32) × (Nat → Int32) × (Nat → Int32)) => some ((g_this_now 8), (upd g_this 2 1), q1.1, q1.2.1, q1.2.2)
def f_X2_on (g_this g_this_now f_this_now_kinds f_this_now_thicks g_this_then f_this_then_kinds f_this_then_thicks f_this_refusals : Nat → Int32) : Option (Int32 × (Nat → Int32) × (Nat → Int32) × (Nat → Int32) × (Nat → Int32)) := if (g_this 2) = 0 then ((f_X2_refuse g_this f_this_refusals (-3)).bind fun (q3 : Int32 × (Nat → Int32)) => some (q3.1, g_this_now, f_this_now_kinds, f_this_now_thicks, q3.2)) else ((f_X0_copyFrom g_this_now f_this_now_kinds f_this_now_thicks g_this_then f_this_then_kinds f_this_then_thicks).bind fun (q2 : (Nat → Int32) × (Nat → Int32) × (Nat → Int32)) => some ((q2.1 8), q2.1, q2.2.1, q2.2.2, f_this_refusals))
def f_X2_count (g_this g_this_now f_this_refusals : Nat → Int32) (p1 : Int32) : Option (Int32) := if p1 ≤ 10 then (if p1 = 0 then (some (g_this_now 0)) else (if p1 = 1 then (some (g_this_now 3)) else (if p1 = 2 then (some (g_this_now 4)) else (if p1 = 3 then (some (g_this_now 5)) else (if p1 = 4 then (some (g_this_now 6)) else (if p1 = 5 then (some (g_this_now 8)) else (if p1 = 6 then (some (g_this_now 9)) else (if p1 = 7 then (some (g_this_now 1)) else (if p1 = 8 then (some (g_this 1)) else (if p1 = 9 then (some (g_this 0)) else (if p1 = 10 then (some (g_this_now 7)) else (if p1 = 17 then (some (g_this_now 2)) else (some (-9)))))))))))))) else (if 17 ≤ p1 then (if p1 = 0 then (some (g_this_now 0)) else (if p1 = 1 then (some (g_this_now 3)) else (if p1 = 2 then (some (g_this_now 4)) else (if p1 = 3 then (some (g_this_now 5)) else (if p1 = 4 then (some (g_this_now 6)) else (if p1 = 5 then (some (g_this_now 8)) else (if p1 = 6 then (some (g_this_now 9)) else (if p1 = 7 then (some (g_this_now 1)) else (if p1 = 8 then (some (g_this 1)) else (if p1 = 9 then (some (g_this 0)) else (if p1 = 10 then (some (g_this_now 7)) else (if p1 = 17 then (some (g_this_now 2)) else (some (-9)))))))))))))) else ((f_X2_at 7 f_this_refusals (p1 - 10)).bind fun (q27 : Int32) => some q27))
def f_X3_isIn (p0 p1 p2 : Int32) : Option (Int32) := if p0 < p1 then (some 0) else (if p2 < p0 then (some 0) else (some 1))
def f_X3_least (p0 p1 : Int32) : Option (Int32) := if p1 ≤ p0 then (some p1) else (some p0)
def f_X3_most (p0 p1 : Int32) : Option (Int32) := if p0 ≤ p1 then (some p1) else (some p0)
def f_X3_laysR_L2 (n_o0 n_o1 : Nat) (f_o0 : Nat → Int32) : Nat → Int32 → (Nat → Int32) → Option (Int32 × (Nat → Int32))
  | 0, _, _ => none
  | n + 1, x2, yf_o1 => if 22 ≤ x2 then (some (x2, yf_o1)) else (if ¬ (x2 < 0 ∨ n_o0 ≤ x2.toNatClampNeg) then (some (f_o0 (x2.toNatClampNeg))).bind fun (v3 : Int32) => if ¬ (x2 < 0 ∨ n_o1 ≤ x2.toNatClampNeg) then (some (x2 + 1)).bind fun (v5 : Int32) => f_X3_laysR_L2 n_o0 n_o1 f_o0 n v5 (upd yf_o1 (x2.toNatClampNeg) v3) else none else none)
def f_X3_laysR (n_o0 n_o1 : Nat) (f_o0 f_o1 : Nat → Int32) : Option ((Nat → Int32)) := (f_X3_laysR_L2 n_o0 n_o1 f_o0 rf_fu 0 f_o1).bind fun (q6 : Int32 × (Nat → Int32)) => some q6.2
/-- lays: the row as a whole -/
def f_X3_lays (n_o0 n_o1 : Nat) (f_o0 f_o1 : Nat → Int32) : Option (Nat → Int32) := if n_o0 = 22 ∧ n_o1 = 22 then some f_o0 else none

def f_X3_begins (g_this f_this_s f_this_mind : Nat → Int32) : Option ((Nat → Int32)) := (f_X3_lays 22 22 f_this_s f_this_mind).bind fun (q1 : (Nat → Int32)) => some q1
def f_X3_ends (g_this f_this_s f_this_mind : Nat → Int32) : Option ((Nat → Int32)) := (f_X3_lays 22 22 f_this_mind f_this_s).bind fun (q1 : (Nat → Int32)) => some q1
def f_X3_no (g_this f_this_refused : Nat → Int32) (p1 : Int32) : Option (Int32 × (Nat → Int32)) := if ¬ ((-p1) < 0 ∨ 7 ≤ (-p1).toNatClampNeg) then (some ((f_this_refused ((-p1).toNatClampNeg)) + 1)).bind fun (v2 : Int32) => if ¬ ((-p1) < 0 ∨ 7 ≤ (-p1).toNatClampNeg) then some (p1, (upd f_this_refused ((-p1).toNatClampNeg) v2)) else none else none
def f_X3_far (g_this f_this_refused : Nat → Int32) (p1 : Int32) : Option (Int32 × (Nat → Int32)) := (f_X3_no g_this f_this_refused p1).bind fun (q1 : Int32 × (Nat → Int32)) => some ((1000000000 - q1.1), q1.2)
def f_X3_isOff (g_this f_this_s : Nat → Int32) : Option (Int32) := if (f_this_s 3) < (f_this_s 0) then (some 0) else (some 1)
def f_X3_thickOf (p0 p1 p2 p3 p4 : Int32) : Option (Int32) := (f_X3_most 0 ((p1 + p2) - p3)).bind fun (q1 : Int32) => (f_X3_most 0 ((p1 + (p2 / 2)) - (p3 / 4))).bind fun (q2 : Int32) => if p0 = 1 then (some q2) else (if p0 = 2 then ((f_X3_most 0 (q1 + p2)).bind fun (q5 : Int32) => some q5) else (if p0 = 3 then ((f_X3_most 0 (q1 + p2)).bind fun (q7 : Int32) => if p2 ≤ 9 then ((f_X3_most 0 (q7 + 0)).bind fun (q9 : Int32) => some q9) else ((f_X3_most 0 (q7 + 3)).bind fun (q10 : Int32) => some q10)) else (if p0 = 4 then ((f_X3_most 0 (q2 + p4)).bind fun (q12 : Int32) => some q12) else (if p0 = 5 then ((f_X3_most 0 (q2 + p4)).bind fun (q14 : Int32) => (f_X3_most 0 (q14 - 10)).bind fun (q15 : Int32) => some q15) else (some q1)))))
def f_X3_partBy (g_this f_this_s : Nat → Int32) (p1 p2 p3 p4 : Int32) : Option (Int32) := if ¬ ((10 + p1) < 0 ∨ 22 ≤ (10 + p1).toNatClampNeg) then if ¬ ((16 + p1) < 0 ∨ 22 ≤ (16 + p1).toNatClampNeg) then (f_X3_thickOf (f_this_s ((10 + p1).toNatClampNeg)) (f_this_s ((16 + p1).toNatClampNeg)) p2 p3 p4).bind fun (q3 : Int32) => some q3 else none else none
def f_X3_nowOf (g_this f_this_s : Nat → Int32) (p1 : Int32) : Option (Int32) := (f_X3_partBy g_this f_this_s p1 (f_this_s 4) (f_this_s 5) (f_this_s 7)).bind fun (q1 : Int32) => some q1
def f_X3_allows (g_this f_this_s : Nat → Int32) (p1 : Int32) : Option (Int32) := if p1 = 1 then (some 4) else (if p1 = 2 then (some 7) else (if p1 = 3 then (some (9 - (f_this_s 2))) else (if p1 = 4 then (some 6) else (if p1 = 5 then (some 15) else (if p1 = 6 then (some 4) else (some 0))))))
def f_X3_minutesOf (p0 : Int32) : Option (Int32) := if p0 = 1 then (some 2) else (if p0 = 2 then (some 3) else (if p0 = 3 then (some 4) else (if p0 = 5 then (some 6) else (if p0 = 6 then (some 8) else (some 1)))))
def f_X3_swellsBy (p0 : Int32) : Option (Int32) := if p0 = 2 then (some 3) else (if p0 = 3 then (some 1) else (if p0 = 5 then (some 1) else (if p0 = 4 then (some 5) else (some 2))))
def f_X3_harmOf (p0 : Int32) : Option (Int32) := if p0 = 4 then (some 3) else (if p0 = 5 then (some 2) else (some 1))
def f_X3_coldBy (p0 p1 : Int32) : Option (Int32) := if p0 = 6 then ((f_X3_least 20 (p1 + 8)).bind fun (q2 : Int32) => some q2) else (some p1)
def f_X3_goesOver (g_this f_this_s : Nat → Int32) (p1 p2 p3 p4 : Int32) : Option (Int32) := (f_X3_coldBy p2 p4).bind fun (q1 : Int32) => (f_X3_partBy g_this f_this_s p1 p3 q1 (f_this_s 7)).bind fun (q2 : Int32) => (f_X3_allows g_this f_this_s p2).bind fun (q3 : Int32) => if ((f_this_s 1) + q3) < q2 then (some 0) else (some 1)
def f_X3_wouldGo (g_this f_this_s : Nat → Int32) (p1 : Int32) : Option (Int32) := (f_X3_goesOver g_this f_this_s (f_this_s 3) p1 (f_this_s 4) (f_this_s 5)).bind fun (q1 : Int32) => if q1 &&& 1 = q1 then some q1 else none
def f_X3_wears (g_this f_this_s : Nat → Int32) (p1 : Int32) : Option ((Nat → Int32)) := (f_X3_coldBy p1 (f_this_s 5)).bind fun (q1 : Int32) => (f_X3_swellsBy p1).bind fun (q2 : Int32) => (f_X3_least 30 ((f_this_s 4) + q2)).bind fun (q3 : Int32) => (f_X3_harmOf p1).bind fun (q4 : Int32) => (some ((f_this_s 9) + q4)).bind fun (v5 : Int32) => if p1 = 5 then ((f_X3_least 99 ((f_this_s 6) + 5)).bind fun (q10 : Int32) => (f_X3_minutesOf p1).bind fun (q11 : Int32) => (some ((f_this_s 8) + q11)).bind fun (v12 : Int32) => some (upd (upd (upd (upd (upd f_this_s 5 q1) 4 q3) 9 v5) 6 q10) 8 v12)) else ((f_X3_least 99 ((f_this_s 6) + 0)).bind fun (q7 : Int32) => (f_X3_minutesOf p1).bind fun (q8 : Int32) => (some ((f_this_s 8) + q8)).bind fun (v9 : Int32) => some (upd (upd (upd (upd (upd f_this_s 5 q1) 4 q3) 9 v5) 6 q7) 8 v9))
def f_X3_tried (g_this f_this_s : Nat → Int32) (p1 : Int32) : Option (Int32 × (Nat → Int32)) := (f_X3_wouldGo g_this f_this_s p1).bind fun (q1 : Int32) => if q1 = 0 then ((some ((f_this_s 3) + 0)).bind fun (v3 : Int32) => (f_X3_wears g_this (upd f_this_s 3 v3) p1).bind fun (q4 : (Nat → Int32)) => if q1 &&& 1 = q1 then some (q1, q4) else none) else ((some ((f_this_s 3) + 1)).bind fun (v6 : Int32) => (f_X3_wears g_this (upd f_this_s 3 v6) p1).bind fun (q7 : (Nat → Int32)) => if q1 &&& 1 = q1 then some (q1, q7) else none)
def f_X3_waits (g_this f_this_s : Nat → Int32) (p1 : Int32) : Option ((Nat → Int32)) := (f_X3_most 0 ((f_this_s 4) - (p1 / 2))).bind fun (q1 : Int32) => (f_X3_most 0 ((f_this_s 5) - (p1 / 3))).bind fun (q2 : Int32) => (f_X3_most 0 ((f_this_s 6) - p1)).bind fun (q3 : Int32) => (some ((f_this_s 8) + p1)).bind fun (v4 : Int32) => some (upd (upd (upd (upd f_this_s 4 q1) 5 q2) 6 q3) 8 v4)
def f_X3_letter (g_this f_this_letters f_this_refused : Nat → Int32) (p1 : Int32) : Option (Int32 × (Nat → Int32) × (Nat → Int32) × (Nat → Int32)) := if 0 ≤ p1 then (if 255 < p1 then ((f_X3_no g_this f_this_refused (-6)).bind fun (q3 : Int32 × (Nat → Int32)) => some (q3.1, g_this, f_this_letters, q3.2)) else (if (g_this 1) = 96 then ((f_X3_no g_this f_this_refused (-6)).bind fun (q7 : Int32 × (Nat → Int32)) => some (q7.1, g_this, f_this_letters, q7.2)) else (if ¬ ((g_this 1) < 0 ∨ 96 ≤ (g_this 1).toNatClampNeg) then (some ((g_this 1) + 1)).bind fun (v6 : Int32) => some (v6, (upd g_this 1 v6), (upd f_this_letters ((g_this 1).toNatClampNeg) p1), f_this_refused) else none))) else ((f_X3_no g_this f_this_refused (-4)).bind fun (q8 : Int32 × (Nat → Int32)) => some (q8.1, g_this, f_this_letters, q8.2))
def f_X3_here (g_this f_this_letters : Nat → Int32) : Option (Int32) := if (g_this 1) ≤ (g_this 3) then (some (-1)) else (if ¬ ((g_this 3) < 0 ∨ 96 ≤ (g_this 3).toNatClampNeg) then some (f_this_letters ((g_this 3).toNatClampNeg)) else none)
def f_X3_kindOf (p0 : Int32) : Option (Int32) := if p0 = 106 then (some 4) else (if p0 = 107 then (some 1) else (if p0 = 112 then (some 0) else (if p0 = 114 then (some 3) else (if p0 = 115 then (some 2) else (if p0 = 116 then (some 5) else (some (-9)))))))
def f_X3_readsNumber_L9 (f_this_letters : Nat → Int32) (p1 p2 : Int32) : Nat → Int32 → (Nat → Int32) → (Nat → Int32) → Option ((Int32 × (Nat → Int32) × (Nat → Int32)) ⊕ (Int32 × (Nat → Int32) × (Nat → Int32)))
  | 0, _, _, _ => none
  | n + 1, x3, yg_this, yf_this_numbers => if p2 ≤ x3 then (some (Sum.inr (x3, yg_this, yf_this_numbers))) else ((f_X3_here yg_this f_this_letters).bind fun (q2 : Int32) => (f_X3_isIn q2 48 57).bind fun (q3 : Int32) => if q3 = 0 then (some (Sum.inl (0, yg_this, yf_this_numbers))) else (if ¬ (p1 < 0 ∨ 2 ≤ p1.toNatClampNeg) then (f_X3_here yg_this f_this_letters).bind fun (q6 : Int32) => (some (((10 * (yf_this_numbers (p1.toNatClampNeg))) + q6) - 48)).bind fun (v7 : Int32) => if ¬ (p1 < 0 ∨ 2 ≤ p1.toNatClampNeg) then (some ((yg_this 3) + 1)).bind fun (v9 : Int32) => (some (x3 + 1)).bind fun (v10 : Int32) => f_X3_readsNumber_L9 f_this_letters p1 p2 n v10 (upd yg_this 3 v9) (upd yf_this_numbers (p1.toNatClampNeg) v7) else none else none))
def f_X3_readsNumber (g_this f_this_letters f_this_numbers : Nat → Int32) (p1 p2 : Int32) : Option (Int32 × (Nat → Int32) × (Nat → Int32)) := if ¬ (p1 < 0 ∨ 2 ≤ p1.toNatClampNeg) then (f_X3_readsNumber_L9 f_this_letters p1 p2 rf_fu 0 g_this (upd f_this_numbers (p1.toNatClampNeg) 0)).bind fun (q12 : (Int32 × (Nat → Int32) × (Nat → Int32)) ⊕ (Int32 × (Nat → Int32) × (Nat → Int32))) => rf_sum q12 (fun r => some r) (fun (x13 : Int32 × (Nat → Int32) × (Nat → Int32)) => some (1, x13.2.1, x13.2.2)) else none
def f_X3_readsStatement (g_this f_this_letters f_this_numbers : Nat → Int32) : Option (Int32 × (Nat → Int32) × (Nat → Int32)) := (f_X3_here g_this f_this_letters).bind fun (q1 : Int32) => (some ((g_this 3) + 1)).bind fun (v2 : Int32) => if q1 = 99 then ((f_X3_readsNumber (upd g_this 3 v2) f_this_letters f_this_numbers 0 2).bind fun (q4 : Int32 × (Nat → Int32) × (Nat → Int32)) => if q4.1 = 0 then (some (0, q4.2.1, q4.2.2)) else ((f_X3_here q4.2.1 f_this_letters).bind fun (q6 : Int32) => if q6 = 59 then ((some ((q4.2.1 3) + 1)).bind fun (v8 : Int32) => some (1, (upd q4.2.1 3 v8), q4.2.2)) else (some (0, q4.2.1, q4.2.2)))) else (if q1 = 104 then ((f_X3_readsNumber (upd g_this 3 v2) f_this_letters f_this_numbers 0 1).bind fun (q10 : Int32 × (Nat → Int32) × (Nat → Int32)) => if q10.1 = 0 then (some (0, q10.2.1, q10.2.2)) else ((f_X3_here q10.2.1 f_this_letters).bind fun (q12 : Int32) => if q12 = 59 then ((some ((q10.2.1 3) + 1)).bind fun (v14 : Int32) => some (1, (upd q10.2.1 3 v14), q10.2.2)) else (some (0, q10.2.1, q10.2.2)))) else (if q1 = 112 then ((f_X3_here (upd g_this 3 v2) f_this_letters).bind fun (q16 : Int32) => (f_X3_kindOf q16).bind fun (q17 : Int32) => if 0 ≤ q17 then ((some (v2 + 1)).bind fun (v19 : Int32) => (f_X3_readsNumber (upd (upd g_this 3 v2) 3 v19) f_this_letters (upd f_this_numbers 1 q17) 0 3).bind fun (q20 : Int32 × (Nat → Int32) × (Nat → Int32)) => if q20.1 = 0 then (some (0, q20.2.1, q20.2.2)) else ((f_X3_here q20.2.1 f_this_letters).bind fun (q22 : Int32) => if q22 = 59 then ((some ((q20.2.1 3) + 1)).bind fun (v24 : Int32) => some (1, (upd q20.2.1 3 v24), q20.2.2)) else (some (0, q20.2.1, q20.2.2)))) else (some (0, (upd g_this 3 v2), (upd f_this_numbers 1 q17)))) else (if q1 = 114 then ((f_X3_readsNumber (upd g_this 3 v2) f_this_letters f_this_numbers 0 3).bind fun (q26 : Int32 × (Nat → Int32) × (Nat → Int32)) => if q26.1 = 0 then (some (0, q26.2.1, q26.2.2)) else ((f_X3_readsNumber q26.2.1 f_this_letters q26.2.2 1 1).bind fun (q29 : Int32 × (Nat → Int32) × (Nat → Int32)) => if q29.1 = 0 then (some (0, q29.2.1, q29.2.2)) else ((f_X3_here q29.2.1 f_this_letters).bind fun (q33 : Int32) => if q33 = 59 then ((some ((q29.2.1 3) + 1)).bind fun (v35 : Int32) => some (1, (upd q29.2.1 3 v35), q29.2.2)) else (some (0, q29.2.1, q29.2.2))))) else (if q1 = 115 then ((f_X3_readsNumber (upd g_this 3 v2) f_this_letters f_this_numbers 0 2).bind fun (q37 : Int32 × (Nat → Int32) × (Nat → Int32)) => if q37.1 = 0 then (some (0, q37.2.1, q37.2.2)) else ((f_X3_here q37.2.1 f_this_letters).bind fun (q39 : Int32) => if q39 = 59 then ((some ((q37.2.1 3) + 1)).bind fun (v41 : Int32) => some (1, (upd q37.2.1 3 v41), q37.2.2)) else (some (0, q37.2.1, q37.2.2)))) else (if q1 = 116 then ((f_X3_readsNumber (upd g_this 3 v2) f_this_letters f_this_numbers 0 1).bind fun (q43 : Int32 × (Nat → Int32) × (Nat → Int32)) => if q43.1 = 0 then (some (0, q43.2.1, q43.2.2)) else ((f_X3_here q43.2.1 f_this_letters).bind fun (q45 : Int32) => if q45 = 59 then ((some ((q43.2.1 3) + 1)).bind fun (v47 : Int32) => some (1, (upd q43.2.1 3 v47), q43.2.2)) else (some (0, q43.2.1, q43.2.2)))) else (if q1 = 119 then ((f_X3_readsNumber (upd g_this 3 v2) f_this_letters f_this_numbers 0 2).bind fun (q49 : Int32 × (Nat → Int32) × (Nat → Int32)) => if q49.1 = 0 then (some (0, q49.2.1, q49.2.2)) else ((f_X3_here q49.2.1 f_this_letters).bind fun (q51 : Int32) => if q51 = 59 then ((some ((q49.2.1 3) + 1)).bind fun (v53 : Int32) => some (1, (upd q49.2.1 3 v53), q49.2.2)) else (some (0, q49.2.1, q49.2.2)))) else ((some (v2 - 1)).bind fun (v54 : Int32) => some (0, (upd (upd g_this 3 v2) 3 v54), f_this_numbers))))))))
def f_X3_comes (g_this f_this_s f_this_numbers : Nat → Int32) (p1 : Int32) : Option (Int32 × (Nat → Int32)) := (some (f_this_numbers 0)).bind fun (v1 : Int32) => (some (f_this_numbers 1)).bind fun (v2 : Int32) => if p1 = 99 then (if 20 < v1 then (some (0, (upd f_this_s 5 v1))) else (some (1, (upd f_this_s 5 v1)))) else (if p1 = 104 then (some (1, (upd f_this_s 7 v1))) else (if p1 = 112 then (if 240 < v1 then (some (0, f_this_s)) else (if (f_this_s 0) = 6 then (some (0, f_this_s)) else (if (f_this_s 0) ≤ 0 then (if ¬ ((10 + (f_this_s 0)) < 0 ∨ 22 ≤ (10 + (f_this_s 0)).toNatClampNeg) then if ¬ ((16 + ((upd f_this_s ((10 + (f_this_s 0)).toNatClampNeg) v2) 0)) < 0 ∨ 22 ≤ (16 + ((upd f_this_s ((10 + (f_this_s 0)).toNatClampNeg) v2) 0)).toNatClampNeg) then (some (((upd (upd f_this_s ((10 + (f_this_s 0)).toNatClampNeg) v2) ((16 + ((upd f_this_s ((10 + (f_this_s 0)).toNatClampNeg) v2) 0)).toNatClampNeg) v1) 0) + 1)).bind fun (v12 : Int32) => some (1, (upd (upd (upd f_this_s ((10 + (f_this_s 0)).toNatClampNeg) v2) ((16 + ((upd f_this_s ((10 + (f_this_s 0)).toNatClampNeg) v2) 0)).toNatClampNeg) v1) 0 v12)) else none else none) else ((f_X3_isOff g_this f_this_s).bind fun (q13 : Int32) => if q13 = 0 then (if ¬ ((10 + (f_this_s 0)) < 0 ∨ 22 ≤ (10 + (f_this_s 0)).toNatClampNeg) then if ¬ ((16 + ((upd f_this_s ((10 + (f_this_s 0)).toNatClampNeg) v2) 0)) < 0 ∨ 22 ≤ (16 + ((upd f_this_s ((10 + (f_this_s 0)).toNatClampNeg) v2) 0)).toNatClampNeg) then (some (((upd (upd f_this_s ((10 + (f_this_s 0)).toNatClampNeg) v2) ((16 + ((upd f_this_s ((10 + (f_this_s 0)).toNatClampNeg) v2) 0)).toNatClampNeg) v1) 0) + 1)).bind fun (v17 : Int32) => some (1, (upd (upd (upd f_this_s ((10 + (f_this_s 0)).toNatClampNeg) v2) ((16 + ((upd f_this_s ((10 + (f_this_s 0)).toNatClampNeg) v2) 0)).toNatClampNeg) v1) 0 v17)) else none else none) else (some (0, f_this_s)))))) else (if p1 = 114 then ((f_X3_isIn v1 100 250).bind fun (q19 : Int32) => if q19 = 0 then (some (0, (upd (upd f_this_s 1 v1) 2 v2))) else (if v2 ≤ 0 then (some (0, (upd (upd f_this_s 1 v1) 2 v2))) else (some (1, (upd (upd f_this_s 1 v1) 2 v2))))) else (if p1 = 115 then (if 30 < v1 then (some (0, (upd f_this_s 4 v1))) else (some (1, (upd f_this_s 4 v1)))) else (if p1 = 116 then (if 7 ≤ v1 then (some (0, f_this_s)) else ((f_X3_isOff g_this f_this_s).bind fun (q26 : Int32) => if q26 = 0 then ((f_X3_minutesOf v1).bind fun (q28 : Int32) => if ((f_this_s 8) + q28) ≤ 999 then ((f_X3_tried g_this f_this_s v1).bind fun (q30 : Int32 × (Nat → Int32)) => some (1, q30.2)) else (some (0, f_this_s))) else (some (0, f_this_s)))) else ((f_X3_isIn v1 1 60).bind fun (q31 : Int32) => if q31 = 0 then (some (0, f_this_s)) else (if ((f_this_s 8) + v1) ≤ 999 then ((f_X3_waits g_this f_this_s v1).bind fun (q34 : (Nat → Int32)) => some (1, q34)) else (some (0, f_this_s)))))))))
def f_X3_hand_L10 (f_this_letters : Nat → Int32) (yf_this_s yf_this_read : Nat → Int32) : Nat → Int32 → Int32 → (Nat → Int32) → (Nat → Int32) → Option (Int32 × Int32 × (Nat → Int32) × (Nat → Int32))
  | 0, _, _, _, _ => none
  | n + 1, x1, x2, yg_this, yf_this_numbers => (f_X3_readsStatement yg_this f_this_letters yf_this_numbers).bind fun (q1 : Int32 × (Nat → Int32) × (Nat → Int32)) => if q1.1 = 0 then ((some ((-1000) - (q1.2.1 3))).bind fun (v6 : Int32) => (some (x1 + 1)).bind fun (v7 : Int32) => if v6 = (-9) then (if (q1.2.1 3) < (q1.2.1 1) then (f_X3_hand_L10 f_this_letters yf_this_s yf_this_read n v7 v6 q1.2.1 q1.2.2) else (some (v7, v6, q1.2.1, q1.2.2))) else (some (v7, v6, q1.2.1, q1.2.2))) else ((some (x1 + 1)).bind fun (v3 : Int32) => if x2 = (-9) then (if (q1.2.1 3) < (q1.2.1 1) then (f_X3_hand_L10 f_this_letters yf_this_s yf_this_read n v3 x2 q1.2.1 q1.2.2) else (some (v3, x2, q1.2.1, q1.2.2))) else (some (v3, x2, q1.2.1, q1.2.2)))
def f_X3_hand_L62 (f_this_letters : Nat → Int32) (x1 : Int32) (yf_this_read : Nat → Int32) : Nat → Int32 → (Nat → Int32) → (Nat → Int32) → (Nat → Int32) → Option (Int32 × (Nat → Int32) × (Nat → Int32) × (Nat → Int32))
  | 0, _, _, _, _ => none
  | n + 1, x2, yg_this, yf_this_s, yf_this_numbers => if x2 = (-9) then (if (yg_this 1) ≤ (yg_this 3) then (some (x2, yg_this, yf_this_s, yf_this_numbers)) else ((some (yg_this 3)).bind fun (v12 : Int32) => (f_X3_here yg_this f_this_letters).bind fun (q13 : Int32) => (f_X3_readsStatement yg_this f_this_letters yf_this_numbers).bind fun (q14 : Int32 × (Nat → Int32) × (Nat → Int32)) => (f_X3_comes q14.2.1 yf_this_s q14.2.2 q13).bind fun (q15 : Int32 × (Nat → Int32)) => if q15.1 = 0 then ((some ((-2000) - v12)).bind fun (v17 : Int32) => (f_X3_lays 22 22 yf_this_read q15.2).bind fun (q18 : (Nat → Int32)) => f_X3_hand_L62 f_this_letters x1 yf_this_read n v17 q14.2.1 q18 q14.2.2) else (f_X3_hand_L62 f_this_letters x1 yf_this_read n x2 q14.2.1 q15.2 q14.2.2))) else (some (x2, yg_this, yf_this_s, yf_this_numbers))
def f_X3_hand (g_this f_this_s f_this_read f_this_letters f_this_numbers : Nat → Int32) : Option (Int32 × (Nat → Int32) × (Nat → Int32) × (Nat → Int32) × (Nat → Int32)) := (f_X3_hand_L10 f_this_letters f_this_s f_this_read rf_fu 0 (-9) (upd g_this 3 0) f_this_numbers).bind fun (q19 : Int32 × Int32 × (Nat → Int32) × (Nat → Int32)) => (f_X3_lays 22 22 f_this_s f_this_read).bind fun (q20 : (Nat → Int32)) => (f_X3_hand_L62 f_this_letters q19.1 q20 rf_fu q19.2.1 (upd q19.2.2.1 3 0) f_this_s q19.2.2.2).bind fun (q21 : Int32 × (Nat → Int32) × (Nat → Int32) × (Nat → Int32)) => if q21.1 = (-9) then (some (q19.1, (upd q21.2.1 1 0), q21.2.2.1, q20, q21.2.2.2)) else (some (q21.1, (upd q21.2.1 1 0), q21.2.2.1, q20, q21.2.2.2))
def f_X3_part (g_this f_this_s f_this_refused : Nat → Int32) (p1 p2 : Int32) : Option (Int32 × (Nat → Int32)) := (f_X3_isIn p1 0 ((f_this_s 0) - 1)).bind fun (q1 : Int32) => if q1 = 0 then ((f_X3_no g_this f_this_refused (-1)).bind fun (q10 : Int32 × (Nat → Int32)) => some (q10.1, q10.2)) else (if p2 = 0 then (if ¬ ((10 + p1) < 0 ∨ 22 ≤ (10 + p1).toNatClampNeg) then some ((f_this_s ((10 + p1).toNatClampNeg)), f_this_refused) else none) else (if p2 = 1 then (if ¬ ((16 + p1) < 0 ∨ 22 ≤ (16 + p1).toNatClampNeg) then some ((f_this_s ((16 + p1).toNatClampNeg)), f_this_refused) else none) else (if p2 = 2 then ((f_X3_nowOf g_this f_this_s p1).bind fun (q7 : Int32) => some (q7, f_this_refused)) else ((f_X3_no g_this f_this_refused (-2)).bind fun (q6 : Int32 × (Nat → Int32)) => some (q6.1, q6.2)))))
def f_X3_placeOf (p0 : Int32) : Option (Int32) := if p0 = 0 then (some 1) else (if p0 = 1 then (some 2) else (if p0 = 2 then (some 4) else (if p0 = 3 then (some 5) else (some 7))))
def f_X3_set (g_this f_this_s f_this_refused : Nat → Int32) (p1 p2 : Int32) : Option (Int32 × (Nat → Int32) × (Nat → Int32)) := (f_X3_isIn p1 0 4).bind fun (q1 : Int32) => if q1 = 0 then ((f_X3_no g_this f_this_refused (-2)).bind fun (q122 : Int32 × (Nat → Int32)) => some (q122.1, f_this_s, q122.2)) else (if p1 = 0 then (if p1 = 0 then (if 100 ≤ p2 then (if p2 ≤ 250 then ((f_X3_placeOf p1).bind fun (q115 : Int32) => if ¬ (q115 < 0 ∨ 22 ≤ q115.toNatClampNeg) then (some (f_this_s (q115.toNatClampNeg))).bind fun (v117 : Int32) => (f_X3_placeOf p1).bind fun (q118 : Int32) => if ¬ (q118 < 0 ∨ 22 ≤ q118.toNatClampNeg) then some (v117, (upd f_this_s (q118.toNatClampNeg) p2), f_this_refused) else none else none) else ((f_X3_no g_this f_this_refused (-6)).bind fun (q120 : Int32 × (Nat → Int32)) => some (q120.1, f_this_s, q120.2))) else ((f_X3_no g_this f_this_refused (-4)).bind fun (q121 : Int32 × (Nat → Int32)) => some (q121.1, f_this_s, q121.2))) else (if p1 = 2 then (if 100 ≤ p2 then (if p2 ≤ 30 then ((f_X3_placeOf p1).bind fun (q106 : Int32) => if ¬ (q106 < 0 ∨ 22 ≤ q106.toNatClampNeg) then (some (f_this_s (q106.toNatClampNeg))).bind fun (v108 : Int32) => (f_X3_placeOf p1).bind fun (q109 : Int32) => if ¬ (q109 < 0 ∨ 22 ≤ q109.toNatClampNeg) then some (v108, (upd f_this_s (q109.toNatClampNeg) p2), f_this_refused) else none else none) else ((f_X3_no g_this f_this_refused (-6)).bind fun (q111 : Int32 × (Nat → Int32)) => some (q111.1, f_this_s, q111.2))) else ((f_X3_no g_this f_this_refused (-4)).bind fun (q112 : Int32 × (Nat → Int32)) => some (q112.1, f_this_s, q112.2))) else (if p1 = 3 then (if 100 ≤ p2 then (if p2 ≤ 20 then ((f_X3_placeOf p1).bind fun (q97 : Int32) => if ¬ (q97 < 0 ∨ 22 ≤ q97.toNatClampNeg) then (some (f_this_s (q97.toNatClampNeg))).bind fun (v99 : Int32) => (f_X3_placeOf p1).bind fun (q100 : Int32) => if ¬ (q100 < 0 ∨ 22 ≤ q100.toNatClampNeg) then some (v99, (upd f_this_s (q100.toNatClampNeg) p2), f_this_refused) else none else none) else ((f_X3_no g_this f_this_refused (-6)).bind fun (q102 : Int32 × (Nat → Int32)) => some (q102.1, f_this_s, q102.2))) else ((f_X3_no g_this f_this_refused (-4)).bind fun (q103 : Int32 × (Nat → Int32)) => some (q103.1, f_this_s, q103.2))) else (if 100 ≤ p2 then (if p2 ≤ 9 then ((f_X3_placeOf p1).bind fun (q88 : Int32) => if ¬ (q88 < 0 ∨ 22 ≤ q88.toNatClampNeg) then (some (f_this_s (q88.toNatClampNeg))).bind fun (v90 : Int32) => (f_X3_placeOf p1).bind fun (q91 : Int32) => if ¬ (q91 < 0 ∨ 22 ≤ q91.toNatClampNeg) then some (v90, (upd f_this_s (q91.toNatClampNeg) p2), f_this_refused) else none else none) else ((f_X3_no g_this f_this_refused (-6)).bind fun (q93 : Int32 × (Nat → Int32)) => some (q93.1, f_this_s, q93.2))) else ((f_X3_no g_this f_this_refused (-4)).bind fun (q94 : Int32 × (Nat → Int32)) => some (q94.1, f_this_s, q94.2)))))) else (if p1 = 1 then (if p1 = 0 then (if 1 ≤ p2 then (if p2 ≤ 250 then ((f_X3_placeOf p1).bind fun (q76 : Int32) => if ¬ (q76 < 0 ∨ 22 ≤ q76.toNatClampNeg) then (some (f_this_s (q76.toNatClampNeg))).bind fun (v78 : Int32) => (f_X3_placeOf p1).bind fun (q79 : Int32) => if ¬ (q79 < 0 ∨ 22 ≤ q79.toNatClampNeg) then some (v78, (upd f_this_s (q79.toNatClampNeg) p2), f_this_refused) else none else none) else ((f_X3_no g_this f_this_refused (-6)).bind fun (q81 : Int32 × (Nat → Int32)) => some (q81.1, f_this_s, q81.2))) else ((f_X3_no g_this f_this_refused (-4)).bind fun (q82 : Int32 × (Nat → Int32)) => some (q82.1, f_this_s, q82.2))) else (if p1 = 2 then (if 1 ≤ p2 then (if p2 ≤ 30 then ((f_X3_placeOf p1).bind fun (q67 : Int32) => if ¬ (q67 < 0 ∨ 22 ≤ q67.toNatClampNeg) then (some (f_this_s (q67.toNatClampNeg))).bind fun (v69 : Int32) => (f_X3_placeOf p1).bind fun (q70 : Int32) => if ¬ (q70 < 0 ∨ 22 ≤ q70.toNatClampNeg) then some (v69, (upd f_this_s (q70.toNatClampNeg) p2), f_this_refused) else none else none) else ((f_X3_no g_this f_this_refused (-6)).bind fun (q72 : Int32 × (Nat → Int32)) => some (q72.1, f_this_s, q72.2))) else ((f_X3_no g_this f_this_refused (-4)).bind fun (q73 : Int32 × (Nat → Int32)) => some (q73.1, f_this_s, q73.2))) else (if p1 = 3 then (if 1 ≤ p2 then (if p2 ≤ 20 then ((f_X3_placeOf p1).bind fun (q58 : Int32) => if ¬ (q58 < 0 ∨ 22 ≤ q58.toNatClampNeg) then (some (f_this_s (q58.toNatClampNeg))).bind fun (v60 : Int32) => (f_X3_placeOf p1).bind fun (q61 : Int32) => if ¬ (q61 < 0 ∨ 22 ≤ q61.toNatClampNeg) then some (v60, (upd f_this_s (q61.toNatClampNeg) p2), f_this_refused) else none else none) else ((f_X3_no g_this f_this_refused (-6)).bind fun (q63 : Int32 × (Nat → Int32)) => some (q63.1, f_this_s, q63.2))) else ((f_X3_no g_this f_this_refused (-4)).bind fun (q64 : Int32 × (Nat → Int32)) => some (q64.1, f_this_s, q64.2))) else (if 1 ≤ p2 then (if p2 ≤ 9 then ((f_X3_placeOf p1).bind fun (q49 : Int32) => if ¬ (q49 < 0 ∨ 22 ≤ q49.toNatClampNeg) then (some (f_this_s (q49.toNatClampNeg))).bind fun (v51 : Int32) => (f_X3_placeOf p1).bind fun (q52 : Int32) => if ¬ (q52 < 0 ∨ 22 ≤ q52.toNatClampNeg) then some (v51, (upd f_this_s (q52.toNatClampNeg) p2), f_this_refused) else none else none) else ((f_X3_no g_this f_this_refused (-6)).bind fun (q54 : Int32 × (Nat → Int32)) => some (q54.1, f_this_s, q54.2))) else ((f_X3_no g_this f_this_refused (-4)).bind fun (q55 : Int32 × (Nat → Int32)) => some (q55.1, f_this_s, q55.2)))))) else (if p1 = 0 then (if 0 ≤ p2 then (if p2 ≤ 250 then ((f_X3_placeOf p1).bind fun (q37 : Int32) => if ¬ (q37 < 0 ∨ 22 ≤ q37.toNatClampNeg) then (some (f_this_s (q37.toNatClampNeg))).bind fun (v39 : Int32) => (f_X3_placeOf p1).bind fun (q40 : Int32) => if ¬ (q40 < 0 ∨ 22 ≤ q40.toNatClampNeg) then some (v39, (upd f_this_s (q40.toNatClampNeg) p2), f_this_refused) else none else none) else ((f_X3_no g_this f_this_refused (-6)).bind fun (q42 : Int32 × (Nat → Int32)) => some (q42.1, f_this_s, q42.2))) else ((f_X3_no g_this f_this_refused (-4)).bind fun (q43 : Int32 × (Nat → Int32)) => some (q43.1, f_this_s, q43.2))) else (if p1 = 2 then (if 0 ≤ p2 then (if p2 ≤ 30 then ((f_X3_placeOf p1).bind fun (q28 : Int32) => if ¬ (q28 < 0 ∨ 22 ≤ q28.toNatClampNeg) then (some (f_this_s (q28.toNatClampNeg))).bind fun (v30 : Int32) => (f_X3_placeOf p1).bind fun (q31 : Int32) => if ¬ (q31 < 0 ∨ 22 ≤ q31.toNatClampNeg) then some (v30, (upd f_this_s (q31.toNatClampNeg) p2), f_this_refused) else none else none) else ((f_X3_no g_this f_this_refused (-6)).bind fun (q33 : Int32 × (Nat → Int32)) => some (q33.1, f_this_s, q33.2))) else ((f_X3_no g_this f_this_refused (-4)).bind fun (q34 : Int32 × (Nat → Int32)) => some (q34.1, f_this_s, q34.2))) else (if p1 = 3 then (if 0 ≤ p2 then (if p2 ≤ 20 then ((f_X3_placeOf p1).bind fun (q19 : Int32) => if ¬ (q19 < 0 ∨ 22 ≤ q19.toNatClampNeg) then (some (f_this_s (q19.toNatClampNeg))).bind fun (v21 : Int32) => (f_X3_placeOf p1).bind fun (q22 : Int32) => if ¬ (q22 < 0 ∨ 22 ≤ q22.toNatClampNeg) then some (v21, (upd f_this_s (q22.toNatClampNeg) p2), f_this_refused) else none else none) else ((f_X3_no g_this f_this_refused (-6)).bind fun (q24 : Int32 × (Nat → Int32)) => some (q24.1, f_this_s, q24.2))) else ((f_X3_no g_this f_this_refused (-4)).bind fun (q25 : Int32 × (Nat → Int32)) => some (q25.1, f_this_s, q25.2))) else (if 0 ≤ p2 then (if p2 ≤ 9 then ((f_X3_placeOf p1).bind fun (q10 : Int32) => if ¬ (q10 < 0 ∨ 22 ≤ q10.toNatClampNeg) then (some (f_this_s (q10.toNatClampNeg))).bind fun (v12 : Int32) => (f_X3_placeOf p1).bind fun (q13 : Int32) => if ¬ (q13 < 0 ∨ 22 ≤ q13.toNatClampNeg) then some (v12, (upd f_this_s (q13.toNatClampNeg) p2), f_this_refused) else none else none) else ((f_X3_no g_this f_this_refused (-6)).bind fun (q15 : Int32 × (Nat → Int32)) => some (q15.1, f_this_s, q15.2))) else ((f_X3_no g_this f_this_refused (-4)).bind fun (q16 : Int32 × (Nat → Int32)) => some (q16.1, f_this_s, q16.2))))))))
def f_X3_back (g_this f_this_s : Nat → Int32) : Option (Int32 × (Nat → Int32)) := (some (f_this_s 3)).bind fun (v1 : Int32) => some (v1, (upd f_this_s 3 0))
def f_X3_kind (g_this f_this_s f_this_refused : Nat → Int32) (p1 p2 : Int32) : Option (Int32 × (Nat → Int32)) := (f_X3_isIn p1 0 6).bind fun (q1 : Int32) => if q1 = 0 then ((f_X3_no g_this f_this_refused (-2)).bind fun (q3 : Int32 × (Nat → Int32)) => some (q3.1, q3.2)) else ((f_X3_isIn p2 0 3).bind fun (q4 : Int32) => if q4 = 0 then ((f_X3_no g_this f_this_refused (-2)).bind fun (q13 : Int32 × (Nat → Int32)) => some (q13.1, q13.2)) else (if p2 = 0 then ((f_X3_allows g_this f_this_s p1).bind fun (q12 : Int32) => some (q12, f_this_refused)) else (if p2 = 1 then ((f_X3_minutesOf p1).bind fun (q11 : Int32) => some (q11, f_this_refused)) else (if p2 = 2 then ((f_X3_swellsBy p1).bind fun (q10 : Int32) => some (q10, f_this_refused)) else ((f_X3_harmOf p1).bind fun (q9 : Int32) => some (q9, f_this_refused))))))
def f_X3_wrongTry (g_this f_this_s : Nat → Int32) (p1 : Int32) : Option (Int32) := (f_X3_isIn p1 0 6).bind fun (q1 : Int32) => if q1 = 0 then (some (-2)) else ((f_X3_isOff g_this f_this_s).bind fun (q3 : Int32) => if q3 = 0 then (some 0) else (some (-3)))
def f_X3_tries (g_this f_this_s f_this_refused : Nat → Int32) (p1 : Int32) : Option (Int32 × (Nat → Int32) × (Nat → Int32)) := (f_X3_wrongTry g_this f_this_s p1).bind fun (q1 : Int32) => if q1 = 0 then ((f_X3_minutesOf p1).bind fun (q7 : Int32) => if ((f_this_s 8) + q7) ≤ 999 then (if q1 = 0 then ((f_X3_tried g_this f_this_s p1).bind fun (q10 : Int32 × (Nat → Int32)) => if q10.1 = 0 then (some (0, q10.2, f_this_refused)) else (some (1, q10.2, f_this_refused))) else ((f_X3_no g_this f_this_refused q1).bind fun (q12 : Int32 × (Nat → Int32)) => some (q12.1, f_this_s, q12.2))) else ((f_X3_no g_this f_this_refused (-6)).bind fun (q14 : Int32 × (Nat → Int32)) => some (q14.1, f_this_s, q14.2))) else (if q1 = 0 then ((f_X3_tried g_this f_this_s p1).bind fun (q4 : Int32 × (Nat → Int32)) => if q4.1 = 0 then (some (0, q4.2, f_this_refused)) else (some (1, q4.2, f_this_refused))) else ((f_X3_no g_this f_this_refused q1).bind fun (q6 : Int32 × (Nat → Int32)) => some (q6.1, f_this_s, q6.2)))
def f_X3_pause (g_this f_this_s f_this_refused : Nat → Int32) (p1 : Int32) : Option (Int32 × (Nat → Int32) × (Nat → Int32)) := if 1 ≤ p1 then (if 60 < p1 then ((f_X3_no g_this f_this_refused (-6)).bind fun (q3 : Int32 × (Nat → Int32)) => some (q3.1, f_this_s, q3.2)) else (if ((f_this_s 8) + p1) ≤ 999 then ((f_X3_waits g_this f_this_s p1).bind fun (q5 : (Nat → Int32)) => some ((q5 8), q5, f_this_refused)) else ((f_X3_no g_this f_this_refused (-6)).bind fun (q6 : Int32 × (Nat → Int32)) => some (q6.1, f_this_s, q6.2)))) else ((f_X3_no g_this f_this_refused (-4)).bind fun (q7 : Int32 × (Nat → Int32)) => some (q7.1, f_this_s, q7.2))
def f_X3_would (g_this f_this_s f_this_refused : Nat → Int32) (p1 : Int32) : Option (Int32 × (Nat → Int32)) := (f_X3_wrongTry g_this f_this_s p1).bind fun (q1 : Int32) => if q1 = 0 then ((f_X3_wouldGo g_this f_this_s p1).bind fun (q3 : Int32) => if q3 = 0 then (some (0, f_this_refused)) else (some (1, f_this_refused))) else ((f_X3_no g_this f_this_refused q1).bind fun (q5 : Int32 × (Nat → Int32)) => some (q5.1, q5.2))
def f_X3_holds (g_this f_this_s : Nat → Int32) : Option (Int32) := (f_X3_isOff g_this f_this_s).bind fun (q1 : Int32) => if q1 = 0 then ((f_X3_nowOf g_this f_this_s (f_this_s 3)).bind fun (q3 : Int32) => some (q3 - (f_this_s 1))) else (some (-9999))
def f_X3_goesBy_L9 (g_this : Nat → Int32) (p1 : Int32) (yf_this_mind : Nat → Int32) : Nat → Int32 → Int32 → (Nat → Int32) → Option (Int32 × Int32 × (Nat → Int32))
  | 0, _, _, _ => none
  | n + 1, x2, x3, yf_this_s => if 12 < x3 then (some (x2, x3, yf_this_s)) else (if 0 ≤ x2 then (some (x2, x3, yf_this_s)) else ((f_X3_wouldGo g_this yf_this_s p1).bind fun (q3 : Int32) => if q3 = 0 then ((f_X3_wears g_this yf_this_s p1).bind fun (q5 : (Nat → Int32)) => (some (x3 + 1)).bind fun (v6 : Int32) => f_X3_goesBy_L9 g_this p1 yf_this_mind n x2 v6 q5) else ((f_X3_wears g_this yf_this_s p1).bind fun (q7 : (Nat → Int32)) => (some (x3 + 1)).bind fun (v8 : Int32) => f_X3_goesBy_L9 g_this p1 yf_this_mind n x3 v8 q7)))
def f_X3_goesBy (g_this f_this_s f_this_mind : Nat → Int32) (p1 : Int32) : Option (Int32 × (Nat → Int32) × (Nat → Int32)) := (f_X3_begins g_this f_this_s f_this_mind).bind fun (q9 : (Nat → Int32)) => (f_X3_goesBy_L9 g_this p1 q9 rf_fu (-9) 0 f_this_s).bind fun (q10 : Int32 × Int32 × (Nat → Int32)) => (f_X3_ends g_this q10.2.2 q9).bind fun (q11 : (Nat → Int32)) => some (q10.1, q11, q9)
def f_X3_goes (g_this f_this_s f_this_mind f_this_refused : Nat → Int32) (p1 : Int32) : Option (Int32 × (Nat → Int32) × (Nat → Int32) × (Nat → Int32)) := (f_X3_wrongTry g_this f_this_s p1).bind fun (q1 : Int32) => if q1 = 0 then ((f_X3_goesBy g_this f_this_s f_this_mind p1).bind fun (q3 : Int32 × (Nat → Int32) × (Nat → Int32)) => some (q3.1, q3.2.1, q3.2.2, f_this_refused)) else ((f_X3_no g_this f_this_refused q1).bind fun (q4 : Int32 × (Nat → Int32)) => some (q4.1, f_this_s, f_this_mind, q4.2))
def f_X3_stop_L22 (g_this : Nat → Int32) (yf_this_refused : Nat → Int32) : Nat → Int32 → Int32 → Int32 → (Nat → Int32) → (Nat → Int32) → Option (Int32 × Int32 × Int32 × (Nat → Int32) × (Nat → Int32))
  | 0, _, _, _, _, _ => none
  | n + 1, x1, x2, x3, yf_this_s, yf_this_mind => if 7 ≤ x3 then (some (x1, x2, x3, yf_this_s, yf_this_mind)) else ((f_X3_goesBy g_this yf_this_s yf_this_mind x3).bind fun (q2 : Int32 × (Nat → Int32) × (Nat → Int32)) => if q2.1 < 0 then ((some (x3 + 1)).bind fun (v4 : Int32) => f_X3_stop_L22 g_this yf_this_refused n x1 x2 v4 q2.2.1 q2.2.2) else (if q2.1 < x2 then ((some (x3 + 1)).bind fun (v6 : Int32) => f_X3_stop_L22 g_this yf_this_refused n x3 q2.1 v6 q2.2.1 q2.2.2) else ((some (x3 + 1)).bind fun (v7 : Int32) => f_X3_stop_L22 g_this yf_this_refused n x1 x2 v7 q2.2.1 q2.2.2)))
def f_X3_stop (g_this f_this_s f_this_mind f_this_refused : Nat → Int32) : Option (Int32 × (Nat → Int32) × (Nat → Int32) × (Nat → Int32)) := (f_X3_isOff g_this f_this_s).bind fun (q8 : Int32) => if q8 = 0 then ((f_X3_stop_L22 g_this f_this_refused rf_fu (-9) 1000000000 0 f_this_s f_this_mind).bind fun (q10 : Int32 × Int32 × Int32 × (Nat → Int32) × (Nat → Int32)) => some (q10.1, q10.2.2.2.1, q10.2.2.2.2, f_this_refused)) else ((f_X3_no g_this f_this_refused (-3)).bind fun (q11 : Int32 × (Nat → Int32)) => some (q11.1, f_this_s, f_this_mind, q11.2))
def f_X3_waited_L18 (g_this f_this_s : Nat → Int32) (p1 : Int32) (yf_this_refused : Nat → Int32) : Nat → Int32 → Option ((Int32 × (Nat → Int32)) ⊕ (Int32))
  | 0, _ => none
  | n + 1, x3 => if 60 < x3 then (some (Sum.inr x3)) else ((f_X3_most 0 ((f_this_s 4) - (x3 / 2))).bind fun (q2 : Int32) => (f_X3_most 0 ((f_this_s 5) - (x3 / 3))).bind fun (q3 : Int32) => (f_X3_goesOver g_this f_this_s (f_this_s 3) p1 q2 q3).bind fun (q4 : Int32) => if q4 = 0 then ((some (x3 + 1)).bind fun (v6 : Int32) => f_X3_waited_L18 g_this f_this_s p1 yf_this_refused n v6) else (some (Sum.inl (x3, yf_this_refused))))
def f_X3_waited (g_this f_this_s f_this_refused : Nat → Int32) (p1 : Int32) : Option (Int32 × (Nat → Int32)) := (f_X3_wrongTry g_this f_this_s p1).bind fun (q7 : Int32) => if q7 = 0 then ((f_X3_waited_L18 g_this f_this_s p1 f_this_refused rf_fu 0).bind fun (q9 : (Int32 × (Nat → Int32)) ⊕ (Int32)) => rf_sum q9 (fun r => some r) (fun (x10 : Int32) => some ((-9), f_this_refused))) else ((f_X3_no g_this f_this_refused q7).bind fun (q11 : Int32 × (Nat → Int32)) => some (q11.1, q11.2))
def f_X3_roomOf (p0 p1 p2 p3 : Int32) : Option (Int32) := some ((((((p0 * 21) + p1) * 7) + p2) * 3) + p3)
def f_X3_roomBy (g_this f_this_s : Nat → Int32) (p1 p2 : Int32) : Option (Int32) := (some (rf_rem p1 3)).bind fun (v1 : Int32) => (some (rf_rem (p1 / 3) 7)).bind fun (v2 : Int32) => (some (rf_rem (p1 / 21) 21)).bind fun (v3 : Int32) => (some (p1 / 441)).bind fun (v4 : Int32) => if p2 = 7 then ((f_X3_most 0 (v4 - 2)).bind fun (q40 : Int32) => (f_X3_most 0 (v3 - 1)).bind fun (q41 : Int32) => (f_X3_roomOf q40 q41 v2 v1).bind fun (q42 : Int32) => some q42) else (if p2 = 5 then (if v1 = 2 then (some (-9)) else ((f_X3_goesOver g_this f_this_s v2 p2 v4 v3).bind fun (q24 : Int32) => if q24 = 0 then ((some (v2 + 0)).bind fun (v26 : Int32) => (f_X3_swellsBy p2).bind fun (q27 : Int32) => (f_X3_least 30 (v4 + q27)).bind fun (q28 : Int32) => (f_X3_coldBy p2 v3).bind fun (q29 : Int32) => if p2 = 5 then ((f_X3_roomOf q28 q29 v26 (v1 + 1)).bind fun (q32 : Int32) => some q32) else ((f_X3_roomOf q28 q29 v26 (v1 + 0)).bind fun (q31 : Int32) => some q31)) else ((some (v2 + 1)).bind fun (v33 : Int32) => (f_X3_swellsBy p2).bind fun (q34 : Int32) => (f_X3_least 30 (v4 + q34)).bind fun (q35 : Int32) => (f_X3_coldBy p2 v3).bind fun (q36 : Int32) => if p2 = 5 then ((f_X3_roomOf q35 q36 v33 (v1 + 1)).bind fun (q39 : Int32) => some q39) else ((f_X3_roomOf q35 q36 v33 (v1 + 0)).bind fun (q38 : Int32) => some q38)))) else ((f_X3_goesOver g_this f_this_s v2 p2 v4 v3).bind fun (q7 : Int32) => if q7 = 0 then ((some (v2 + 0)).bind fun (v9 : Int32) => (f_X3_swellsBy p2).bind fun (q10 : Int32) => (f_X3_least 30 (v4 + q10)).bind fun (q11 : Int32) => (f_X3_coldBy p2 v3).bind fun (q12 : Int32) => if p2 = 5 then ((f_X3_roomOf q11 q12 v9 (v1 + 1)).bind fun (q15 : Int32) => some q15) else ((f_X3_roomOf q11 q12 v9 (v1 + 0)).bind fun (q14 : Int32) => some q14)) else ((some (v2 + 1)).bind fun (v16 : Int32) => (f_X3_swellsBy p2).bind fun (q17 : Int32) => (f_X3_least 30 (v4 + q17)).bind fun (q18 : Int32) => (f_X3_coldBy p2 v3).bind fun (q19 : Int32) => if p2 = 5 then ((f_X3_roomOf q18 q19 v16 (v1 + 1)).bind fun (q22 : Int32) => some q22) else ((f_X3_roomOf q18 q19 v16 (v1 + 0)).bind fun (q21 : Int32) => some q21))))
def f_X3_costOf (p0 p1 : Int32) : Option (Int32) := if p0 = 7 then (if p1 = 0 then (some 5) else (some 0)) else (if p1 = 0 then ((f_X3_minutesOf p0).bind fun (q3 : Int32) => some q3) else ((f_X3_harmOf p0).bind fun (q4 : Int32) => some q4))
def f_X3_leastFrom_L3 (g_this f_this_s : Nat → Int32) (p1 p2 p3 : Int32) : Nat → Int32 → (Nat → Int32) → Option (Int32 × (Nat → Int32))
  | 0, _, _ => none
  | n + 1, x4, yf_this_cost => if 13671 ≤ x4 then (some (x4, yf_this_cost)) else (if ¬ (x4 < 0 ∨ 13671 ≤ x4.toNatClampNeg) then (some (x4 + 1)).bind fun (v3 : Int32) => f_X3_leastFrom_L3 g_this f_this_s p1 p2 p3 n v3 (upd yf_this_cost (x4.toNatClampNeg) 1000000000) else none)
def f_X3_leastFrom_L89 (g_this f_this_s : Nat → Int32) (p1 p2 p3 : Int32) (x4 x5 : Int32) : Nat → Int32 → (Nat → Int32) → Option (Int32 × (Nat → Int32))
  | 0, _, _ => none
  | n + 1, x6, yf_this_cost => if 7 < x6 then (some (x6, yf_this_cost)) else ((f_X3_roomBy g_this f_this_s x5 x6).bind fun (q5 : Int32) => if q5 < 0 then ((some (x6 + 1)).bind fun (v7 : Int32) => f_X3_leastFrom_L89 g_this f_this_s p1 p2 p3 x4 x5 n v7 yf_this_cost) else (if ¬ (q5 < 0 ∨ 13671 ≤ q5.toNatClampNeg) then (f_X3_costOf x6 p3).bind fun (q9 : Int32) => (f_X3_least (yf_this_cost (q5.toNatClampNeg)) (x4 + q9)).bind fun (q10 : Int32) => if ¬ (q5 < 0 ∨ 13671 ≤ q5.toNatClampNeg) then (some (x6 + 1)).bind fun (v12 : Int32) => f_X3_leastFrom_L89 g_this f_this_s p1 p2 p3 x4 x5 n v12 (upd yf_this_cost (q5.toNatClampNeg) q10) else none else none))
def f_X3_leastFrom_L47 (g_this f_this_s : Nat → Int32) (p1 p2 p3 : Int32) (x4 : Int32) : Nat → Int32 → (Nat → Int32) → Option ((Int32 × (Nat → Int32)) ⊕ (Int32 × (Nat → Int32)))
  | 0, _, _ => none
  | n + 1, x5, yf_this_cost => if x5 < 0 then (some (Sum.inr (x5, yf_this_cost))) else (if ¬ (x5 < 0 ∨ 13671 ≤ x5.toNatClampNeg) then if (yf_this_cost (x5.toNatClampNeg)) = x4 then ((some (rf_rem (x5 / 3) 7)).bind fun (v16 : Int32) => if v16 = (f_this_s 0) then (some (Sum.inl (x4, yf_this_cost))) else ((f_X3_leastFrom_L89 g_this f_this_s p1 p2 p3 x4 x5 rf_fu 0 yf_this_cost).bind fun (q18 : Int32 × (Nat → Int32)) => (some (x5 + (-1))).bind fun (v19 : Int32) => f_X3_leastFrom_L47 g_this f_this_s p1 p2 p3 x4 n v19 q18.2)) else ((some (x5 + (-1))).bind fun (v20 : Int32) => f_X3_leastFrom_L47 g_this f_this_s p1 p2 p3 x4 n v20 yf_this_cost) else none)
def f_X3_leastFrom_L36 (g_this f_this_s : Nat → Int32) (p1 p2 p3 : Int32) : Nat → Int32 → (Nat → Int32) → Option ((Int32 × (Nat → Int32)) ⊕ (Int32 × (Nat → Int32)))
  | 0, _, _ => none
  | n + 1, x4, yf_this_cost => if p2 < x4 then (some (Sum.inr (x4, yf_this_cost))) else ((f_X3_leastFrom_L47 g_this f_this_s p1 p2 p3 x4 rf_fu 13670 yf_this_cost).bind fun (q22 : (Int32 × (Nat → Int32)) ⊕ (Int32 × (Nat → Int32))) => rf_sum q22 (fun r => some (Sum.inl r)) (fun (x23 : Int32 × (Nat → Int32)) => (some (x4 + 1)).bind fun (v24 : Int32) => f_X3_leastFrom_L36 g_this f_this_s p1 p2 p3 n v24 x23.2))
def f_X3_leastFrom (g_this f_this_s f_this_cost : Nat → Int32) (p1 p2 p3 : Int32) : Option (Int32 × (Nat → Int32)) := (f_X3_leastFrom_L3 g_this f_this_s p1 p2 p3 rf_fu 0 f_this_cost).bind fun (q25 : Int32 × (Nat → Int32)) => if ¬ (p1 < 0 ∨ 13671 ≤ p1.toNatClampNeg) then (f_X3_leastFrom_L36 g_this f_this_s p1 p2 p3 rf_fu 0 (upd q25.2 (p1.toNatClampNeg) 0)).bind fun (q27 : (Int32 × (Nat → Int32)) ⊕ (Int32 × (Nat → Int32))) => rf_sum q27 (fun r => some r) (fun (x28 : Int32 × (Nat → Int32)) => some ((-9), x28.2)) else none
def f_X3_off_L67 (g_this f_this_s : Nat → Int32) (p1 p2 p3 : Int32) (x4 x5 : Int32) : Nat → Int32 → (Nat → Int32) → Option ((Int32 × (Nat → Int32)) ⊕ (Int32 × (Nat → Int32)))
  | 0, _, _ => none
  | n + 1, x6, yf_this_cost => if 7 < x6 then (some (Sum.inr (x6, yf_this_cost))) else ((f_X3_costOf x6 p3).bind fun (q2 : Int32) => (some (x5 - q2)).bind fun (v3 : Int32) => (f_X3_roomBy g_this f_this_s x4 x6).bind fun (q4 : Int32) => if v3 < 0 then ((some (x6 + 1)).bind fun (v6 : Int32) => f_X3_off_L67 g_this f_this_s p1 p2 p3 x4 x5 n v6 yf_this_cost) else (if q4 < 0 then ((some (x6 + 1)).bind fun (v8 : Int32) => f_X3_off_L67 g_this f_this_s p1 p2 p3 x4 x5 n v8 yf_this_cost) else (if q4 = x4 then ((some (x6 + 1)).bind fun (v10 : Int32) => f_X3_off_L67 g_this f_this_s p1 p2 p3 x4 x5 n v10 yf_this_cost) else ((f_X3_leastFrom g_this f_this_s yf_this_cost q4 v3 p3).bind fun (q11 : Int32 × (Nat → Int32)) => if q11.1 = v3 then (some (Sum.inl (x6, q11.2))) else ((some (x6 + 1)).bind fun (v13 : Int32) => f_X3_off_L67 g_this f_this_s p1 p2 p3 x4 x5 n v13 q11.2)))))
def f_X3_off (g_this f_this_s f_this_cost : Nat → Int32) (p1 p2 p3 : Int32) : Option (Int32 × (Nat → Int32)) := (f_X3_isOff g_this f_this_s).bind fun (q14 : Int32) => if q14 = 0 then ((f_X3_roomOf (f_this_s 4) (f_this_s 5) (f_this_s 3) 0).bind fun (q16 : Int32) => (f_X3_leastFrom g_this f_this_s f_this_cost q16 p2 p3).bind fun (q17 : Int32 × (Nat → Int32)) => if p1 = 0 then (some (q17.1, q17.2)) else (if 0 ≤ q17.1 then ((f_X3_off_L67 g_this f_this_s p1 p2 p3 q16 q17.1 rf_fu 0 q17.2).bind fun (q20 : (Int32 × (Nat → Int32)) ⊕ (Int32 × (Nat → Int32))) => rf_sum q20 (fun r => some r) (fun (x21 : Int32 × (Nat → Int32)) => some ((-9), x21.2))) else (some (q17.1, q17.2)))) else (if p1 = 0 then (some (0, f_this_cost)) else (some ((-9), f_this_cost)))
def f_X3_soonest (g_this f_this_s f_this_refused f_this_cost : Nat → Int32) (p1 : Int32) : Option (Int32 × (Nat → Int32) × (Nat → Int32)) := (f_X3_isIn p1 0 1).bind fun (q1 : Int32) => if q1 = 0 then ((f_X3_no g_this f_this_refused (-2)).bind fun (q4 : Int32 × (Nat → Int32)) => some (q4.1, q4.2, f_this_cost)) else ((f_X3_off g_this f_this_s f_this_cost p1 120 0).bind fun (q3 : Int32 × (Nat → Int32)) => some (q3.1, f_this_refused, q3.2))
def f_X3_gentlest (g_this f_this_s f_this_refused f_this_cost : Nat → Int32) (p1 : Int32) : Option (Int32 × (Nat → Int32) × (Nat → Int32)) := (f_X3_isIn p1 0 1).bind fun (q1 : Int32) => if q1 = 0 then ((f_X3_no g_this f_this_refused (-2)).bind fun (q4 : Int32 × (Nat → Int32)) => some (q4.1, q4.2, f_this_cost)) else ((f_X3_off g_this f_this_s f_this_cost p1 60 1).bind fun (q3 : Int32 × (Nat → Int32)) => some (q3.1, f_this_refused, q3.2))
def f_X3_danger (g_this f_this_s f_this_refused : Nat → Int32) (p1 : Int32) : Option (Int32 × (Nat → Int32)) := if 0 ≤ p1 then (if p1 ≤ 9 then ((f_X3_least 99 ((f_this_s 6) + (5 * p1))).bind fun (q3 : Int32) => (f_X3_most 0 (q3 - 9)).bind fun (q4 : Int32) => some (q4, f_this_refused)) else ((f_X3_no g_this f_this_refused (-6)).bind fun (q5 : Int32 × (Nat → Int32)) => some (q5.1, q5.2))) else ((f_X3_no g_this f_this_refused (-4)).bind fun (q6 : Int32 × (Nat → Int32)) => some (q6.1, q6.2))
def f_X3_areHeats_L2 (g_this f_this_row : Nat → Int32) : Nat → Int32 → Option ((Int32) ⊕ (Int32))
  | 0, _ => none
  | n + 1, x1 => if (g_this 2) ≤ x1 then (some (Sum.inr x1)) else (if ¬ (x1 < 0 ∨ 12 ≤ x1.toNatClampNeg) then if (f_this_row (x1.toNatClampNeg)) ≤ 9 then ((some (x1 + 1)).bind fun (v4 : Int32) => f_X3_areHeats_L2 g_this f_this_row n v4) else (some (Sum.inl 0)) else none)
def f_X3_areHeats (g_this f_this_row : Nat → Int32) : Option (Int32) := (f_X3_areHeats_L2 g_this f_this_row rf_fu 0).bind fun (q5 : (Int32) ⊕ (Int32)) => rf_sum q5 (fun r => some r) (fun (x6 : Int32) => if (g_this 2) = 12 then (some 1) else (some 0))
def f_X3_sticksIn_L10 (g_this f_this_s f_this_row : Nat → Int32) (p1 p2 : Int32) (x3 : Int32) : Nat → Int32 → Option ((Int32) ⊕ (Int32))
  | 0, _ => none
  | n + 1, x4 => if (f_this_s 0) ≤ x4 then (some (Sum.inr x4)) else ((f_X3_partBy g_this f_this_s x4 (2 * x3) (9 - x3) x3).bind fun (q2 : Int32) => if q2 ≤ (p2 + 4) then ((some (x4 + 1)).bind fun (v4 : Int32) => f_X3_sticksIn_L10 g_this f_this_s f_this_row p1 p2 x3 n v4) else (some (Sum.inl 1)))
def f_X3_sticksIn (g_this f_this_s f_this_row : Nat → Int32) (p1 p2 : Int32) : Option (Int32) := if ¬ (p1 < 0 ∨ 12 ≤ p1.toNatClampNeg) then (some (f_this_row (p1.toNatClampNeg))).bind fun (v6 : Int32) => (f_X3_sticksIn_L10 g_this f_this_s f_this_row p1 p2 v6 rf_fu 0).bind fun (q7 : (Int32) ⊕ (Int32)) => rf_sum q7 (fun r => some r) (fun (x8 : Int32) => some 0) else none
def f_X3_fallsIn_L10 (g_this f_this_s f_this_row : Nat → Int32) (p1 p2 : Int32) (x3 : Int32) : Nat → Int32 → Option ((Int32) ⊕ (Int32))
  | 0, _ => none
  | n + 1, x4 => if (f_this_s 0) ≤ x4 then (some (Sum.inr x4)) else ((f_X3_partBy g_this f_this_s x4 (2 * x3) (9 - x3) x3).bind fun (q2 : Int32) => if q2 < (p2 - 9) then ((some (x4 + 1)).bind fun (v4 : Int32) => f_X3_fallsIn_L10 g_this f_this_s f_this_row p1 p2 x3 n v4) else (some (Sum.inl 0)))
def f_X3_fallsIn (g_this f_this_s f_this_row : Nat → Int32) (p1 p2 : Int32) : Option (Int32) := if ¬ (p1 < 0 ∨ 12 ≤ p1.toNatClampNeg) then (some (f_this_row (p1.toNatClampNeg))).bind fun (v6 : Int32) => (f_X3_fallsIn_L10 g_this f_this_s f_this_row p1 p2 v6 rf_fu 0).bind fun (q7 : (Int32) ⊕ (Int32)) => rf_sum q7 (fun r => some r) (fun (x8 : Int32) => some 1) else none
def f_X3_wrongSize (g_this f_this_row : Nat → Int32) (p1 : Int32) : Option (Int32) := if 100 ≤ p1 then (if p1 ≤ 250 then ((f_X3_areHeats g_this f_this_row).bind fun (q3 : Int32) => if q3 = 0 then (some (-3)) else (some 0)) else (some (-6))) else (some (-4))
def f_X3_sticks_L21 (g_this f_this_s f_this_row : Nat → Int32) (p1 : Int32) (yf_this_refused : Nat → Int32) : Nat → Int32 → Int32 → Option (Int32 × Int32)
  | 0, _, _ => none
  | n + 1, x3, x4 => if 12 ≤ x4 then (some (x3, x4)) else ((f_X3_sticksIn g_this f_this_s f_this_row x4 p1).bind fun (q2 : Int32) => if q2 = 0 then ((some (x3 ||| 0)).bind fun (v4 : Int32) => (some (x4 + 1)).bind fun (v5 : Int32) => f_X3_sticks_L21 g_this f_this_s f_this_row p1 yf_this_refused n v4 v5) else ((some (x3 ||| (1 <<< (x4 &&& 31)))).bind fun (v6 : Int32) => (some (x4 + 1)).bind fun (v7 : Int32) => f_X3_sticks_L21 g_this f_this_s f_this_row p1 yf_this_refused n v6 v7))
def f_X3_sticks (g_this f_this_s f_this_row f_this_refused : Nat → Int32) (p1 : Int32) : Option (Int32 × (Nat → Int32)) := (f_X3_wrongSize g_this f_this_row p1).bind fun (q8 : Int32) => if q8 = 0 then ((f_X3_sticks_L21 g_this f_this_s f_this_row p1 f_this_refused rf_fu 0 0).bind fun (q10 : Int32 × Int32) => some (q10.1, f_this_refused)) else ((f_X3_no g_this f_this_refused q8).bind fun (q11 : Int32 × (Nat → Int32)) => some (q11.1, q11.2))
def f_X3_falls_L21 (g_this f_this_s f_this_row : Nat → Int32) (p1 : Int32) (yf_this_refused : Nat → Int32) : Nat → Int32 → Int32 → Option (Int32 × Int32)
  | 0, _, _ => none
  | n + 1, x3, x4 => if 12 ≤ x4 then (some (x3, x4)) else ((f_X3_fallsIn g_this f_this_s f_this_row x4 p1).bind fun (q2 : Int32) => if q2 = 0 then ((some (x3 ||| 0)).bind fun (v4 : Int32) => (some (x4 + 1)).bind fun (v5 : Int32) => f_X3_falls_L21 g_this f_this_s f_this_row p1 yf_this_refused n v4 v5) else ((some (x3 ||| (1 <<< (x4 &&& 31)))).bind fun (v6 : Int32) => (some (x4 + 1)).bind fun (v7 : Int32) => f_X3_falls_L21 g_this f_this_s f_this_row p1 yf_this_refused n v6 v7))
def f_X3_falls (g_this f_this_s f_this_row f_this_refused : Nat → Int32) (p1 : Int32) : Option (Int32 × (Nat → Int32)) := (f_X3_wrongSize g_this f_this_row p1).bind fun (q8 : Int32) => if q8 = 0 then ((f_X3_falls_L21 g_this f_this_s f_this_row p1 f_this_refused rf_fu 0 0).bind fun (q10 : Int32 × Int32) => some (q10.1, f_this_refused)) else ((f_X3_no g_this f_this_refused q8).bind fun (q11 : Int32 × (Nat → Int32)) => some (q11.1, q11.2))
def f_X3_finds_L30 (f_this_s f_this_row : Nat → Int32) (p1 p2 p3 : Int32) (x4 : Int32) (yg_this : Nat → Int32) : Nat → Int32 → Int32 → Option (Int32 × Int32)
  | 0, _, _ => none
  | n + 1, x5, x6 => if 12 ≤ x6 then (some (x5, x6)) else (if ((p1 >>> (x6 &&& 31)) &&& 1) = 1 then ((f_X3_sticksIn yg_this f_this_s f_this_row x6 x4).bind fun (q4 : Int32) => if q4 = 0 then ((f_X3_fallsIn yg_this f_this_s f_this_row x6 x4).bind fun (q6 : Int32) => if q6 = 0 then ((some (x5 + (0 + 0))).bind fun (v8 : Int32) => (some (x6 + 1)).bind fun (v9 : Int32) => f_X3_finds_L30 f_this_s f_this_row p1 p2 p3 x4 yg_this n v8 v9) else ((some (x5 + (0 + p3))).bind fun (v10 : Int32) => (some (x6 + 1)).bind fun (v11 : Int32) => f_X3_finds_L30 f_this_s f_this_row p1 p2 p3 x4 yg_this n v10 v11)) else ((f_X3_fallsIn yg_this f_this_s f_this_row x6 x4).bind fun (q12 : Int32) => if q12 = 0 then ((some (x5 + (p2 + 0))).bind fun (v14 : Int32) => (some (x6 + 1)).bind fun (v15 : Int32) => f_X3_finds_L30 f_this_s f_this_row p1 p2 p3 x4 yg_this n v14 v15) else ((some (x5 + (p2 + p3))).bind fun (v16 : Int32) => (some (x6 + 1)).bind fun (v17 : Int32) => f_X3_finds_L30 f_this_s f_this_row p1 p2 p3 x4 yg_this n v16 v17))) else ((some (x6 + 1)).bind fun (v3 : Int32) => f_X3_finds_L30 f_this_s f_this_row p1 p2 p3 x4 yg_this n x5 v3))
def f_X3_finds_L16 (f_this_s f_this_row : Nat → Int32) (p1 p2 p3 : Int32) : Nat → Int32 → (Nat → Int32) → Option (Int32 × (Nat → Int32))
  | 0, _, _ => none
  | n + 1, x4, yg_this => if 250 < x4 then (some (x4, yg_this)) else ((f_X3_finds_L30 f_this_s f_this_row p1 p2 p3 x4 yg_this rf_fu 0 0).bind fun (q19 : Int32 × Int32) => if q19.1 < (yg_this 5) then ((some (x4 + 1)).bind fun (v21 : Int32) => f_X3_finds_L16 f_this_s f_this_row p1 p2 p3 n v21 (upd (upd yg_this 4 x4) 5 q19.1)) else ((some (x4 + 1)).bind fun (v22 : Int32) => f_X3_finds_L16 f_this_s f_this_row p1 p2 p3 n v22 yg_this))
def f_X3_finds (g_this f_this_s f_this_row : Nat → Int32) (p1 p2 p3 : Int32) : Option ((Nat → Int32)) := (f_X3_finds_L16 f_this_s f_this_row p1 p2 p3 rf_fu 100 (upd (upd g_this 4 100) 5 1000000000)).bind fun (q23 : Int32 × (Nat → Int32)) => some q23.2
def f_X3_year (g_this f_this_s f_this_row f_this_refused : Nat → Int32) (p1 p2 p3 : Int32) : Option (Int32 × (Nat → Int32) × (Nat → Int32)) := if p1 < 0 then ((f_X3_no g_this f_this_refused (-4)).bind fun (q2 : Int32 × (Nat → Int32)) => some (q2.1, g_this, q2.2)) else (if 0 ≤ p2 then (if 99 < p1 then ((f_X3_no g_this f_this_refused (-6)).bind fun (q5 : Int32 × (Nat → Int32)) => some (q5.1, g_this, q5.2)) else (if p2 ≤ 99 then ((f_X3_isIn p3 0 1).bind fun (q7 : Int32) => if q7 = 0 then ((f_X3_no g_this f_this_refused (-2)).bind fun (q14 : Int32 × (Nat → Int32)) => some (q14.1, g_this, q14.2)) else ((f_X3_areHeats g_this f_this_row).bind fun (q9 : Int32) => if q9 = 0 then ((f_X3_no g_this f_this_refused (-3)).bind fun (q13 : Int32 × (Nat → Int32)) => some (q13.1, g_this, q13.2)) else ((f_X3_finds g_this f_this_s f_this_row 4095 p1 p2).bind fun (q11 : (Nat → Int32)) => if p3 = 0 then (some ((q11 4), q11, f_this_refused)) else (some ((q11 5), q11, f_this_refused))))) else ((f_X3_no g_this f_this_refused (-6)).bind fun (q15 : Int32 × (Nat → Int32)) => some (q15.1, g_this, q15.2)))) else ((f_X3_no g_this f_this_refused (-4)).bind fun (q16 : Int32 × (Nat → Int32)) => some (q16.1, g_this, q16.2)))
def f_X3_wrongMonths (p0 p1 p2 p3 : Int32) : Option (Int32) := if p0 < 0 then (some (-4)) else (if p1 < 0 then (some (-4)) else (if p2 < 0 then (some (-4)) else (if 0 ≤ p3 then (if 12 < p0 then (some (-6)) else (if 12 < p1 then (some (-6)) else (if p1 < p0 then (some (-6)) else (if 99 < p2 then (some (-6)) else (if p3 ≤ 99 then (some 0) else (some (-6))))))) else (some (-4)))))
def f_X3_monthsOf (p0 p1 : Int32) : Option (Int32) := some ((1 <<< (p1 &&& 31)) - (1 <<< (p0 &&& 31)))
def f_X3_two (g_this f_this_s f_this_row f_this_refused : Nat → Int32) (p1 p2 p3 p4 p5 : Int32) : Option (Int32 × (Nat → Int32) × (Nat → Int32)) := (f_X3_wrongMonths p1 p2 p3 p4).bind fun (q1 : Int32) => if q1 = 0 then ((f_X3_isIn p5 0 2).bind fun (q26 : Int32) => if q26 = 0 then ((f_X3_no g_this f_this_refused (-2)).bind fun (q53 : Int32 × (Nat → Int32)) => some (q53.1, g_this, q53.2)) else (if q1 = 0 then ((f_X3_areHeats g_this f_this_row).bind fun (q38 : Int32) => if q38 = 0 then ((f_X3_no g_this f_this_refused (-3)).bind fun (q50 : Int32 × (Nat → Int32)) => some (q50.1, g_this, q50.2)) else (if q1 = 0 then ((f_X3_monthsOf p1 p2).bind fun (q41 : Int32) => (f_X3_finds g_this f_this_s f_this_row q41 p3 p4).bind fun (q42 : (Nat → Int32)) => if p5 = 0 then (some ((q42 4), q42, f_this_refused)) else ((some (q42 5)).bind fun (v44 : Int32) => (f_X3_monthsOf p1 p2).bind fun (q45 : Int32) => (f_X3_finds q42 f_this_s f_this_row (4095 &&& (q45 ^^^ (-1))) p3 p4).bind fun (q46 : (Nat → Int32)) => if p5 = 1 then (some ((q46 4), q46, f_this_refused)) else (some ((v44 + (q46 5)), q46, f_this_refused)))) else ((f_X3_no g_this f_this_refused q1).bind fun (q48 : Int32 × (Nat → Int32)) => some (q48.1, g_this, q48.2)))) else (if q1 = 0 then ((f_X3_monthsOf p1 p2).bind fun (q30 : Int32) => (f_X3_finds g_this f_this_s f_this_row q30 p3 p4).bind fun (q31 : (Nat → Int32)) => if p5 = 0 then (some ((q31 4), q31, f_this_refused)) else ((some (q31 5)).bind fun (v33 : Int32) => (f_X3_monthsOf p1 p2).bind fun (q34 : Int32) => (f_X3_finds q31 f_this_s f_this_row (4095 &&& (q34 ^^^ (-1))) p3 p4).bind fun (q35 : (Nat → Int32)) => if p5 = 1 then (some ((q35 4), q35, f_this_refused)) else (some ((v33 + (q35 5)), q35, f_this_refused)))) else ((f_X3_no g_this f_this_refused q1).bind fun (q37 : Int32 × (Nat → Int32)) => some (q37.1, g_this, q37.2))))) else (if q1 = 0 then ((f_X3_areHeats g_this f_this_row).bind fun (q13 : Int32) => if q13 = 0 then ((f_X3_no g_this f_this_refused (-3)).bind fun (q25 : Int32 × (Nat → Int32)) => some (q25.1, g_this, q25.2)) else (if q1 = 0 then ((f_X3_monthsOf p1 p2).bind fun (q16 : Int32) => (f_X3_finds g_this f_this_s f_this_row q16 p3 p4).bind fun (q17 : (Nat → Int32)) => if p5 = 0 then (some ((q17 4), q17, f_this_refused)) else ((some (q17 5)).bind fun (v19 : Int32) => (f_X3_monthsOf p1 p2).bind fun (q20 : Int32) => (f_X3_finds q17 f_this_s f_this_row (4095 &&& (q20 ^^^ (-1))) p3 p4).bind fun (q21 : (Nat → Int32)) => if p5 = 1 then (some ((q21 4), q21, f_this_refused)) else (some ((v19 + (q21 5)), q21, f_this_refused)))) else ((f_X3_no g_this f_this_refused q1).bind fun (q23 : Int32 × (Nat → Int32)) => some (q23.1, g_this, q23.2)))) else (if q1 = 0 then ((f_X3_monthsOf p1 p2).bind fun (q5 : Int32) => (f_X3_finds g_this f_this_s f_this_row q5 p3 p4).bind fun (q6 : (Nat → Int32)) => if p5 = 0 then (some ((q6 4), q6, f_this_refused)) else ((some (q6 5)).bind fun (v8 : Int32) => (f_X3_monthsOf p1 p2).bind fun (q9 : Int32) => (f_X3_finds q6 f_this_s f_this_row (4095 &&& (q9 ^^^ (-1))) p3 p4).bind fun (q10 : (Nat → Int32)) => if p5 = 1 then (some ((q10 4), q10, f_this_refused)) else (some ((v8 + (q10 5)), q10, f_this_refused)))) else ((f_X3_no g_this f_this_refused q1).bind fun (q12 : Int32 × (Nat → Int32)) => some (q12.1, g_this, q12.2))))
def f_X3_worth (g_this f_this_s f_this_row f_this_refused : Nat → Int32) (p1 p2 p3 p4 : Int32) : Option (Int32 × (Nat → Int32) × (Nat → Int32)) := (f_X3_wrongMonths p1 p2 p3 p4).bind fun (q1 : Int32) => if q1 = 0 then ((f_X3_areHeats g_this f_this_row).bind fun (q12 : Int32) => if q12 = 0 then ((f_X3_far g_this f_this_refused (-3)).bind fun (q24 : Int32 × (Nat → Int32)) => some (q24.1, g_this, q24.2)) else (if q1 = 0 then ((f_X3_finds g_this f_this_s f_this_row 4095 p3 p4).bind fun (q15 : (Nat → Int32)) => (some (q15 5)).bind fun (v16 : Int32) => (f_X3_monthsOf p1 p2).bind fun (q17 : Int32) => (f_X3_finds q15 f_this_s f_this_row q17 p3 p4).bind fun (q18 : (Nat → Int32)) => (some (q18 5)).bind fun (v19 : Int32) => (f_X3_monthsOf p1 p2).bind fun (q20 : Int32) => (f_X3_finds q18 f_this_s f_this_row (4095 &&& (q20 ^^^ (-1))) p3 p4).bind fun (q21 : (Nat → Int32)) => some (((v16 - v19) - (q21 5)), q21, f_this_refused)) else ((f_X3_far g_this f_this_refused q1).bind fun (q22 : Int32 × (Nat → Int32)) => some (q22.1, g_this, q22.2)))) else (if q1 = 0 then ((f_X3_finds g_this f_this_s f_this_row 4095 p3 p4).bind fun (q4 : (Nat → Int32)) => (some (q4 5)).bind fun (v5 : Int32) => (f_X3_monthsOf p1 p2).bind fun (q6 : Int32) => (f_X3_finds q4 f_this_s f_this_row q6 p3 p4).bind fun (q7 : (Nat → Int32)) => (some (q7 5)).bind fun (v8 : Int32) => (f_X3_monthsOf p1 p2).bind fun (q9 : Int32) => (f_X3_finds q7 f_this_s f_this_row (4095 &&& (q9 ^^^ (-1))) p3 p4).bind fun (q10 : (Nat → Int32)) => some (((v5 - v8) - (q10 5)), q10, f_this_refused)) else ((f_X3_far g_this f_this_refused q1).bind fun (q11 : Int32 × (Nat → Int32)) => some (q11.1, g_this, q11.2)))
def f_X3_goesOverAll_L2 (g_this f_this_s : Nat → Int32) (p1 p2 : Int32) : Nat → Int32 → Option ((Int32) ⊕ (Int32))
  | 0, _ => none
  | n + 1, x3 => if (f_this_s 0) ≤ x3 then (some (Sum.inr x3)) else ((f_X3_partBy g_this f_this_s x3 p2 (f_this_s 5) (f_this_s 7)).bind fun (q2 : Int32) => (f_X3_allows g_this f_this_s p1).bind fun (q3 : Int32) => if q2 ≤ ((f_this_s 1) + q3) then ((some (x3 + 1)).bind fun (v5 : Int32) => f_X3_goesOverAll_L2 g_this f_this_s p1 p2 n v5) else (some (Sum.inl 0)))
def f_X3_goesOverAll (g_this f_this_s : Nat → Int32) (p1 p2 : Int32) : Option (Int32) := (f_X3_goesOverAll_L2 g_this f_this_s p1 p2 rf_fu 0).bind fun (q6 : (Int32) ⊕ (Int32)) => rf_sum q6 (fun r => some r) (fun (x7 : Int32) => some 1)
def f_X3_went_L35 (g_this f_this_s : Nat → Int32) (p1 p2 : Int32) (yf_this_refused : Nat → Int32) : Nat → Int32 → Int32 → Int32 → Option (Int32 × Int32 × Int32)
  | 0, _, _, _ => none
  | n + 1, x3, x4, x5 => if 30 < x5 then (some (x3, x4, x5)) else ((f_X3_goesOverAll g_this f_this_s p1 x5).bind fun (q2 : Int32) => if q2 = 0 then ((some (x5 + 1)).bind fun (v6 : Int32) => f_X3_went_L35 g_this f_this_s p1 p2 yf_this_refused n x3 x4 v6) else ((some (x3 + 1)).bind fun (v4 : Int32) => (some (x5 + 1)).bind fun (v5 : Int32) => f_X3_went_L35 g_this f_this_s p1 p2 yf_this_refused n v4 x5 v5))
def f_X3_went (g_this f_this_s f_this_refused : Nat → Int32) (p1 p2 : Int32) : Option (Int32 × (Nat → Int32)) := (f_X3_isIn p1 0 6).bind fun (q7 : Int32) => if q7 = 0 then ((f_X3_no g_this f_this_refused (-2)).bind fun (q9 : Int32 × (Nat → Int32)) => some (q9.1, q9.2)) else ((f_X3_isIn p2 0 1).bind fun (q10 : Int32) => if q10 = 0 then ((f_X3_no g_this f_this_refused (-2)).bind fun (q14 : Int32 × (Nat → Int32)) => some (q14.1, q14.2)) else ((f_X3_went_L35 g_this f_this_s p1 p2 f_this_refused rf_fu 0 (-9) 0).bind fun (q12 : Int32 × Int32 × Int32) => if p2 = 0 then (some (q12.1, f_this_refused)) else (some (q12.2.1, f_this_refused))))
def f_X3_areTold_L2 (g_this f_this_row : Nat → Int32) : Nat → Int32 → Option ((Int32) ⊕ (Int32))
  | 0, _ => none
  | n + 1, x1 => if (g_this 2) ≤ x1 then (some (Sum.inr x1)) else ((some (rf_rem x1 2)).bind fun (v2 : Int32) => if v2 = 0 then (if ¬ (x1 < 0 ∨ 12 ≤ x1.toNatClampNeg) then if (f_this_row (x1.toNatClampNeg)) < 7 then ((some (x1 + 1)).bind fun (v9 : Int32) => f_X3_areTold_L2 g_this f_this_row n v9) else (some (Sum.inl 0)) else none) else (if ¬ (x1 < 0 ∨ 12 ≤ x1.toNatClampNeg) then if (f_this_row (x1.toNatClampNeg)) ≤ 1 then ((some (x1 + 1)).bind fun (v6 : Int32) => f_X3_areTold_L2 g_this f_this_row n v6) else (some (Sum.inl 0)) else none))
def f_X3_areTold (g_this f_this_row : Nat → Int32) : Option (Int32) := (f_X3_areTold_L2 g_this f_this_row rf_fu 0).bind fun (q10 : (Int32) ⊕ (Int32)) => rf_sum q10 (fun r => some r) (fun (x11 : Int32) => (some (rf_rem (g_this 2) 2)).bind fun (v12 : Int32) => if v12 = 0 then (some 1) else (some 0))
def f_X3_isSo_L17 (g_this f_this_s f_this_row : Nat → Int32) (p1 : Int32) : Nat → Int32 → Int32 → Int32 → Option ((Int32) ⊕ (Int32 × Int32 × Int32))
  | 0, _, _, _ => none
  | n + 1, x2, x3, x4 => if (g_this 2) ≤ x4 then (some (Sum.inr (x2, x3, x4))) else (if ¬ (x4 < 0 ∨ 12 ≤ x4.toNatClampNeg) then (some (f_this_row (x4.toNatClampNeg))).bind fun (v3 : Int32) => (f_X3_coldBy v3 x3).bind fun (q4 : Int32) => if ¬ ((10 + (f_this_s 3)) < 0 ∨ 22 ≤ (10 + (f_this_s 3)).toNatClampNeg) then (f_X3_thickOf (f_this_s ((10 + (f_this_s 3)).toNatClampNeg)) p1 x2 q4 (f_this_s 7)).bind fun (q6 : Int32) => (f_X3_allows g_this f_this_s v3).bind fun (q7 : Int32) => if ((f_this_s 1) + q7) < q6 then (if ¬ ((x4 + 1) < 0 ∨ 12 ≤ (x4 + 1).toNatClampNeg) then if (f_this_row ((x4 + 1).toNatClampNeg)) = 1 then (some (Sum.inl 0)) else ((f_X3_swellsBy v3).bind fun (q12 : Int32) => (f_X3_least 30 (x2 + q12)).bind fun (q13 : Int32) => (some (x4 + 2)).bind fun (v14 : Int32) => f_X3_isSo_L17 g_this f_this_s f_this_row p1 n q13 q4 v14) else none) else (if ¬ ((x4 + 1) < 0 ∨ 12 ≤ (x4 + 1).toNatClampNeg) then if (f_this_row ((x4 + 1).toNatClampNeg)) = 1 then ((f_X3_swellsBy v3).bind fun (q20 : Int32) => (f_X3_least 30 (x2 + q20)).bind fun (q21 : Int32) => (some (x4 + 2)).bind fun (v22 : Int32) => f_X3_isSo_L17 g_this f_this_s f_this_row p1 n q21 q4 v22) else (some (Sum.inl 0)) else none) else none else none)
def f_X3_isSo (g_this f_this_s f_this_row : Nat → Int32) (p1 : Int32) : Option (Int32) := (some (f_this_s 4)).bind fun (v23 : Int32) => (some (f_this_s 5)).bind fun (v24 : Int32) => (f_X3_isSo_L17 g_this f_this_s f_this_row p1 rf_fu v23 v24 0).bind fun (q25 : (Int32) ⊕ (Int32 × Int32 × Int32)) => rf_sum q25 (fun r => some r) (fun (x26 : Int32 × Int32 × Int32) => some 1)
def f_X3_feel_L42 (g_this f_this_s f_this_row : Nat → Int32) (p1 : Int32) (yf_this_refused : Nat → Int32) : Nat → Int32 → Int32 → Option (Int32 × Int32)
  | 0, _, _ => none
  | n + 1, x2, x3 => if 240 < x3 then (some (x2, x3)) else (if p1 = 1 then ((f_X3_isSo g_this f_this_s f_this_row x3).bind fun (q3 : Int32) => if q3 = 0 then ((some (x3 + 1)).bind fun (v5 : Int32) => f_X3_feel_L42 g_this f_this_s f_this_row p1 yf_this_refused n x2 v5) else ((some (x3 + 1)).bind fun (v6 : Int32) => f_X3_feel_L42 g_this f_this_s f_this_row p1 yf_this_refused n x3 v6)) else (if 0 ≤ x2 then (some (x2, x3)) else ((f_X3_isSo g_this f_this_s f_this_row x3).bind fun (q8 : Int32) => if q8 = 0 then ((some (x3 + 1)).bind fun (v10 : Int32) => f_X3_feel_L42 g_this f_this_s f_this_row p1 yf_this_refused n x2 v10) else ((some (x3 + 1)).bind fun (v11 : Int32) => f_X3_feel_L42 g_this f_this_s f_this_row p1 yf_this_refused n x3 v11))))
def f_X3_feel (g_this f_this_s f_this_row f_this_refused : Nat → Int32) (p1 : Int32) : Option (Int32 × (Nat → Int32)) := (f_X3_isIn p1 0 1).bind fun (q12 : Int32) => if q12 = 0 then ((f_X3_no g_this f_this_refused (-2)).bind fun (q21 : Int32 × (Nat → Int32)) => some (q21.1, q21.2)) else ((f_X3_isOff g_this f_this_s).bind fun (q14 : Int32) => if q14 = 0 then ((f_X3_areTold g_this f_this_row).bind fun (q17 : Int32) => if q17 = 0 then ((f_X3_no g_this f_this_refused (-3)).bind fun (q20 : Int32 × (Nat → Int32)) => some (q20.1, q20.2)) else ((f_X3_feel_L42 g_this f_this_s f_this_row p1 f_this_refused rf_fu (-9) 0).bind fun (q19 : Int32 × Int32) => some (q19.1, f_this_refused))) else ((f_X3_no g_this f_this_refused (-3)).bind fun (q16 : Int32 × (Nat → Int32)) => some (q16.1, q16.2)))
def f_X3_row (g_this f_this_row f_this_refused : Nat → Int32) (p1 : Int32) : Option (Int32 × (Nat → Int32) × (Nat → Int32) × (Nat → Int32)) := if 0 ≤ p1 then (if 9 < p1 then ((f_X3_no g_this f_this_refused (-6)).bind fun (q3 : Int32 × (Nat → Int32)) => some (q3.1, g_this, f_this_row, q3.2)) else (if (g_this 2) = 12 then ((f_X3_no g_this f_this_refused (-6)).bind fun (q7 : Int32 × (Nat → Int32)) => some (q7.1, g_this, f_this_row, q7.2)) else (if ¬ ((g_this 2) < 0 ∨ 12 ≤ (g_this 2).toNatClampNeg) then (some ((g_this 2) + 1)).bind fun (v6 : Int32) => some (v6, (upd g_this 2 v6), (upd f_this_row ((g_this 2).toNatClampNeg) p1), f_this_refused) else none))) else ((f_X3_no g_this f_this_refused (-4)).bind fun (q8 : Int32 × (Nat → Int32)) => some (q8.1, g_this, f_this_row, q8.2))
def f_X3_judge_L9 (f_this_row : Nat → Int32) (yg_this yf_this_mind : Nat → Int32) : Nat → Int32 → Int32 → (Nat → Int32) → Option (Int32 × Int32 × (Nat → Int32))
  | 0, _, _, _ => none
  | n + 1, x1, x2, yf_this_s => if (yg_this 2) ≤ x2 then (some (x1, x2, yf_this_s)) else (if 0 ≤ x1 then (some (x1, x2, yf_this_s)) else ((f_X3_isOff yg_this yf_this_s).bind fun (q3 : Int32) => if q3 = 0 then (if ¬ (x2 < 0 ∨ 12 ≤ x2.toNatClampNeg) then if (f_this_row (x2.toNatClampNeg)) = 7 then ((f_X3_waits yg_this yf_this_s 5).bind fun (q16 : (Nat → Int32)) => if ¬ (x2 < 0 ∨ 12 ≤ x2.toNatClampNeg) then if (f_this_row (x2.toNatClampNeg)) < 7 then (if ¬ (x2 < 0 ∨ 12 ≤ x2.toNatClampNeg) then (f_X3_tried yg_this q16 (f_this_row (x2.toNatClampNeg))).bind fun (q20 : Int32 × (Nat → Int32)) => (f_X3_isOff yg_this q20.2).bind fun (q21 : Int32) => if q21 = 0 then ((some (x2 + 1)).bind fun (v23 : Int32) => f_X3_judge_L9 f_this_row yg_this yf_this_mind n x1 v23 q20.2) else ((some (x2 + 1)).bind fun (v24 : Int32) => f_X3_judge_L9 f_this_row yg_this yf_this_mind n x2 v24 q20.2) else none) else ((some (x2 + 1)).bind fun (v25 : Int32) => f_X3_judge_L9 f_this_row yg_this yf_this_mind n x1 v25 q16) else none) else (if ¬ (x2 < 0 ∨ 12 ≤ x2.toNatClampNeg) then if (f_this_row (x2.toNatClampNeg)) < 7 then (if ¬ (x2 < 0 ∨ 12 ≤ x2.toNatClampNeg) then (f_X3_tried yg_this yf_this_s (f_this_row (x2.toNatClampNeg))).bind fun (q10 : Int32 × (Nat → Int32)) => (f_X3_isOff yg_this q10.2).bind fun (q11 : Int32) => if q11 = 0 then ((some (x2 + 1)).bind fun (v13 : Int32) => f_X3_judge_L9 f_this_row yg_this yf_this_mind n x1 v13 q10.2) else ((some (x2 + 1)).bind fun (v14 : Int32) => f_X3_judge_L9 f_this_row yg_this yf_this_mind n x2 v14 q10.2) else none) else ((some (x2 + 1)).bind fun (v15 : Int32) => f_X3_judge_L9 f_this_row yg_this yf_this_mind n x1 v15 yf_this_s) else none) else none) else (some (x1, x2, yf_this_s))))
def f_X3_judge (g_this f_this_s f_this_mind f_this_row : Nat → Int32) : Option (Int32 × (Nat → Int32) × (Nat → Int32) × (Nat → Int32)) := (f_X3_begins g_this f_this_s f_this_mind).bind fun (q26 : (Nat → Int32)) => (f_X3_judge_L9 f_this_row g_this q26 rf_fu (-9) 0 f_this_s).bind fun (q27 : Int32 × Int32 × (Nat → Int32)) => (f_X3_ends g_this q27.2.2 q26).bind fun (q28 : (Nat → Int32)) => some (q27.1, (upd g_this 2 0), q28, q26)
def f_X3_drawn (g_this : Nat → Int32) (p1 : Int32) : Option (Int32 × (Nat → Int32)) := (some (((g_this 6) * 1664525) + 1013904223)).bind fun (v1 : Int32) => if ¬ p1 = 0 then (some (rf_rem ((v1 &&& 2147483647) / 256) p1)).bind fun (v3 : Int32) => some (v3, (upd g_this 6 v1)) else none
def f_X3_lots_L72 (p1 p2 : Int32) (x3 x4 : Int32) (yf_this_mind yf_this_refused : Nat → Int32) : Nat → Int32 → (Nat → Int32) → (Nat → Int32) → Option (Int32 × (Nat → Int32) × (Nat → Int32))
  | 0, _, _, _ => none
  | n + 1, x5, yg_this, yf_this_s => if 12 ≤ x5 then (some (x5, yg_this, yf_this_s)) else ((f_X3_isOff yg_this yf_this_s).bind fun (q2 : Int32) => if q2 = 0 then ((f_X3_drawn yg_this 6).bind fun (q4 : Int32 × (Nat → Int32)) => (f_X3_tried q4.2 yf_this_s q4.1).bind fun (q5 : Int32 × (Nat → Int32)) => (some (x5 + 1)).bind fun (v6 : Int32) => f_X3_lots_L72 p1 p2 x3 x4 yf_this_mind yf_this_refused n v6 q4.2 q5.2) else (some (x5, yg_this, yf_this_s)))
def f_X3_lots_L39 (p1 p2 : Int32) (yf_this_mind yf_this_refused : Nat → Int32) : Nat → Int32 → Int32 → (Nat → Int32) → (Nat → Int32) → Option (Int32 × Int32 × (Nat → Int32) × (Nat → Int32))
  | 0, _, _, _, _ => none
  | n + 1, x3, x4, yg_this, yf_this_s => if p1 ≤ x4 then (some (x3, x4, yg_this, yf_this_s)) else ((f_X3_ends yg_this yf_this_s yf_this_mind).bind fun (q8 : (Nat → Int32)) => (f_X3_drawn yg_this 31).bind fun (q9 : Int32 × (Nat → Int32)) => (f_X3_lots_L72 p1 p2 x3 x4 yf_this_mind yf_this_refused rf_fu 0 q9.2 (upd (upd q8 4 q9.1) 9 0)).bind fun (q10 : Int32 × (Nat → Int32) × (Nat → Int32)) => (some (x3 + (q10.2.2 9))).bind fun (v11 : Int32) => (some (x4 + 1)).bind fun (v12 : Int32) => f_X3_lots_L39 p1 p2 yf_this_mind yf_this_refused n v11 v12 q10.2.1 q10.2.2)
def f_X3_lots (g_this f_this_s f_this_mind f_this_refused : Nat → Int32) (p1 p2 : Int32) : Option (Int32 × (Nat → Int32) × (Nat → Int32) × (Nat → Int32) × (Nat → Int32)) := if 1 ≤ p1 then (if p1 ≤ 20 then ((f_X3_begins (upd g_this 6 p2) f_this_s f_this_mind).bind fun (q15 : (Nat → Int32)) => (f_X3_lots_L39 p1 p2 q15 f_this_refused rf_fu 0 0 (upd g_this 6 p2) f_this_s).bind fun (q16 : Int32 × Int32 × (Nat → Int32) × (Nat → Int32)) => (f_X3_ends q16.2.2.1 q16.2.2.2 q15).bind fun (q17 : (Nat → Int32)) => some (q16.1, q16.2.2.1, q17, q15, f_this_refused)) else ((f_X3_no g_this f_this_refused (-6)).bind fun (q18 : Int32 × (Nat → Int32)) => some (q18.1, g_this, f_this_s, f_this_mind, q18.2))) else ((f_X3_no g_this f_this_refused (-4)).bind fun (q19 : Int32 × (Nat → Int32)) => some (q19.1, g_this, f_this_s, f_this_mind, q19.2))
def f_X3_image (g_this f_this_s f_this_image : Nat → Int32) : Option (Int32 × (Nat → Int32) × (Nat → Int32)) := (f_X3_lays 22 22 f_this_s f_this_image).bind fun (q1 : (Nat → Int32)) => some ((f_this_s 8), (upd g_this 0 1), q1)
def f_X3_on (g_this f_this_s f_this_image f_this_refused : Nat → Int32) : Option (Int32 × (Nat → Int32) × (Nat → Int32)) := if (g_this 0) = 0 then ((f_X3_no g_this f_this_refused (-3)).bind fun (q3 : Int32 × (Nat → Int32)) => some (q3.1, f_this_s, q3.2)) else ((f_X3_lays 22 22 f_this_image f_this_s).bind fun (q2 : (Nat → Int32)) => some ((q2 8), q2, f_this_refused))
def f_X3_count (g_this f_this_s f_this_refused : Nat → Int32) (p1 : Int32) : Option (Int32) := (f_X3_isIn p1 11 16).bind fun (q1 : Int32) => if q1 = 0 then (if p1 = 0 then (some (f_this_s 0)) else (if p1 = 1 then (some (f_this_s 3)) else (if p1 = 2 then (some (f_this_s 4)) else (if p1 = 3 then (some (f_this_s 5)) else (if p1 = 4 then (some (f_this_s 6)) else (if p1 = 5 then (some (f_this_s 8)) else (if p1 = 6 then (some (f_this_s 9)) else (if p1 = 7 then (some (f_this_s 1)) else (if p1 = 8 then (some (g_this 2)) else (if p1 = 9 then (some (g_this 1)) else (if p1 = 10 then (some (f_this_s 7)) else (if p1 = 17 then (some (f_this_s 2)) else (some (-9)))))))))))))) else (if ¬ ((p1 - 10) < 0 ∨ 7 ≤ (p1 - 10).toNatClampNeg) then some (f_this_refused ((p1 - 10).toNatClampNeg)) else none)
end
section
/-! numbers of both sides as naturals -/
section RABase
theorem ra_lit (n : Nat) : (OfNat.ofNat n : Int32) = nI (OfNat.ofNat n) := Eq.trans rfl rfl
def ra_un (σ : Nat → Nat) (k v : Nat) : Nat → Nat := fun j => if j = k then v else σ j
def ra_nf (σ : Nat → Nat) : Nat → Int32 := fun i => nI (σ i)
theorem ra_nf_ap (σ : Nat → Nat) (i : Nat) : ra_nf σ i = nI (σ i) := rfl
theorem ra_upd (σ : Nat → Nat) (k v : Nat) : upd (ra_nf σ) k (nI v) = ra_nf (ra_un σ k v) := by
  funext j
  unfold upd ra_nf ra_un
  split <;> rfl
theorem ra_us (σ : Nat → Nat) (k v : Nat) : ra_un σ k v k = v := by
  unfold ra_un
  rw [if_pos rfl]
theorem ra_ud (σ : Nat → Nat) {k j : Nat} (v : Nat) (h : j ≠ k) : ra_un σ k v j = σ j := by
  unfold ra_un
  rw [if_neg h]
theorem ra_int (x : Int32) : ∃ n : Nat, n < 2 ^ 32 ∧ x = nI n :=
  ⟨x.toBitVec.toNat, x.toBitVec.isLt, Int32.toBitVec_inj.mp (BitVec.eq_of_toNat_eq (by rw [pk_tn x.toBitVec.isLt]))⟩
theorem ra_fex (f : Nat → Int32) : ∃ σ : Nat → Nat, f = ra_nf σ :=
  ⟨fun i => (f i).toBitVec.toNat, funext fun i => Int32.toBitVec_inj.mp (BitVec.eq_of_toNat_eq (by unfold ra_nf; rw [pk_tn (f i).toBitVec.isLt]))⟩
theorem ra_mx {a b : Nat} (ha : a < 2 ^ 30) (hb : b < 2 ^ 30) : rf_max 0 (nI a - nI b) = nI (a - b) := by
  unfold rf_max
  by_cases h : b ≤ a
  · rw [pk_sub h]
    by_cases h2 : b = a
    · subst h2
      rw [Nat.sub_self]
      rfl
    · rw [if_pos (show (0 : Int32) < nI (a - b) from (nI_ltI (a := 0) (b := a - b) (by decide) (by omega)).mpr (by omega))]
  · have : nI a - nI b < 0 := pk_sneg hb (by omega)
    rw [if_neg (fun z => by
      have h1 := Int32.lt_iff_toInt_lt.mp this
      have h2 := Int32.lt_iff_toInt_lt.mp z
      omega), show a - b = 0 by omega]
    rfl
theorem ra_mxn {a b : Nat} (ha : a < 2 ^ 31) (hb : b < 2 ^ 31) : rf_max (nI a) (nI b) = nI (max a b) := by
  unfold rf_max
  by_cases h : a < b
  · rw [if_pos ((nI_ltI ha hb).mpr h), show max a b = b by omega]
  · rw [if_neg (fun z => h ((nI_ltI ha hb).mp z)), show max a b = a by omega]
theorem ra_mnn {a b : Nat} (ha : a < 2 ^ 31) (hb : b < 2 ^ 31) : rf_min (nI a) (nI b) = nI (min a b) := by
  unfold rf_min
  by_cases h : b < a
  · rw [if_pos ((nI_ltI hb ha).mpr h), show min a b = b by omega]
  · rw [if_neg (fun z => h ((nI_ltI hb ha).mp z)), show min a b = a by omega]
theorem ra_most (a b : Int32) : f_X3_most a b = some (rf_max a b) := by
  unfold f_X3_most rf_max
  by_cases h : a ≤ b
  · rw [if_pos h]
    by_cases h2 : a < b
    · rw [if_pos h2]
    · rw [if_neg h2]
      have h3 := Int32.le_iff_toInt_le.mp h
      have h4 : ¬ a.toInt < b.toInt := fun z => h2 (Int32.lt_iff_toInt_lt.mpr z)
      rw [Int32.toInt_inj.mp (show a.toInt = b.toInt by omega)]
  · rw [if_neg h, if_neg (fun z => h (Int32.le_iff_toInt_le.mpr (by have := Int32.lt_iff_toInt_lt.mp z; omega)))]
theorem ra_least (a b : Int32) : f_X3_least a b = some (rf_min a b) := by
  unfold f_X3_least rf_min
  by_cases h : b ≤ a
  · rw [if_pos h]
    by_cases h2 : b < a
    · rw [if_pos h2]
    · rw [if_neg h2]
      have h3 := Int32.le_iff_toInt_le.mp h
      have h4 : ¬ b.toInt < a.toInt := fun z => h2 (Int32.lt_iff_toInt_lt.mpr z)
      rw [Int32.toInt_inj.mp (show b.toInt = a.toInt by omega)]
  · rw [if_neg h, if_neg (fun z => h (Int32.le_iff_toInt_le.mpr (by have := Int32.lt_iff_toInt_lt.mp z; omega)))]
theorem ra_at {n : Nat} (f : Nat → Int32) {i : Nat} (hi : i < n) (hn : n < 2 ^ 31) : f_X2_at n f (nI i) = some (f i) := by
  unfold f_X2_at
  rw [if_neg (nI_pos (by omega)), if_neg (show ¬ Int32.ofNat n ≤ nI i from nI_ge hi hn), if_pos (nI_in hi hn), nI_clamp (by omega)]
theorem ra_put {n : Nat} (f : Nat → Int32) {i : Nat} (v : Int32) (hi : i < n) (hn : n < 2 ^ 31) : f_X2_put n f (nI i) v = some (upd f i v) := by
  unfold f_X2_put
  rw [if_neg (nI_pos (by omega)), if_neg (show ¬ Int32.ofNat n ≤ nI i from nI_ge hi hn), if_pos (nI_in hi hn), nI_clamp (by omega)]
theorem ra_mx0 {a b : Nat} (ha : a < 2 ^ 30) (hb : b < 2 ^ 30) : rf_max (nI 0) (nI a - nI b) = nI (a - b) := ra_mx ha hb
theorem ra_at0 {n : Nat} (f : Nat → Int32) (hi : 0 < n) (hn : n < 2 ^ 31) : f_X2_at n f 0 = some (f 0) := ra_at f hi hn
def ra_tk (k th sw co he : Nat) : Nat :=
  if k = 1 then th + sw / 2 - co / 4 else if k = 2 then th + sw - co + sw else if k = 3 then th + sw - co + sw + (if 9 < sw then 3 else 0) else if k = 4 then th + sw / 2 - co / 4 + he else if k = 5 then th + sw / 2 - co / 4 + he - 10 else th + sw - co
theorem ra_tk_le {k th sw co he : Nat} (h2 : th < 1000) (h3 : sw < 1000) (h5 : he < 1000) : ra_tk k th sw co he < 10000 := by
  unfold ra_tk
  repeat' split
  all_goals omega
theorem ra_tkC {k th sw co he : Nat} (h1 : k < 100) (h2 : th < 1000) (h3 : sw < 1000) (h4 : co < 1000) (h5 : he < 1000) : f_X2_thickness (nI k) (nI th) (nI sw) (nI co) (nI he) = some (nI (ra_tk k th sw co he)) := by
  unfold f_X2_thickness ra_tk
  simp (disch := omega) only [ra_lit, nI_add, pk_div, ra_mx0, Option.bind_some, nI_eq, nI_leI]
  repeat' split
  all_goals first | rfl | omega | (congr 2; omega)
theorem ra_tkR {k th sw co he : Nat} (h1 : k < 100) (h2 : th < 1000) (h3 : sw < 1000) (h4 : co < 1000) (h5 : he < 1000) : f_X3_thickOf (nI k) (nI th) (nI sw) (nI co) (nI he) = some (nI (ra_tk k th sw co he)) := by
  unfold f_X3_thickOf ra_tk
  simp (disch := omega) only [ra_lit, nI_add, pk_div, ra_mx0, Option.bind_some, nI_eq, nI_leI, ra_most, ra_mxn]
  repeat' split
  all_goals first | rfl | omega | (congr 2; omega)
def ra_al (k br : Nat) : Nat := if k = 1 then 4 else if k = 2 then 7 else if k = 3 then 9 - br else if k = 4 then 6 else if k = 5 then 15 else if k = 6 then 4 else 0
def ra_mi (k : Nat) : Nat := if k = 1 then 2 else if k = 2 then 3 else if k = 3 then 4 else if k = 5 then 6 else if k = 6 then 8 else 1
def ra_sw (k : Nat) : Nat := if k = 2 then 3 else if k = 3 then 1 else if k = 5 then 1 else if k = 4 then 5 else 2
def ra_hm (k : Nat) : Nat := if k = 4 then 3 else if k = 5 then 2 else 1
def ra_cd (k co : Nat) : Nat := if k = 6 then min 20 (co + 8) else co
theorem ra_al_le (k br : Nat) : ra_al k br ≤ 15 := by
  unfold ra_al
  repeat' split
  all_goals omega
theorem ra_mi_le (k : Nat) : 1 ≤ ra_mi k ∧ ra_mi k ≤ 8 := by
  unfold ra_mi
  repeat' split
  all_goals omega
theorem ra_sw_le (k : Nat) : 1 ≤ ra_sw k ∧ ra_sw k ≤ 5 := by
  unfold ra_sw
  repeat' split
  all_goals omega
theorem ra_hm_le (k : Nat) : 1 ≤ ra_hm k ∧ ra_hm k ≤ 3 := by
  unfold ra_hm
  repeat' split
  all_goals omega
theorem ra_cd_le {k co : Nat} (h : co ≤ 20) : ra_cd k co ≤ 20 ∧ co ≤ ra_cd k co := by
  unfold ra_cd
  split <;> omega
theorem ra_alC {k br : Nat} (hk : k < 1000) (hb : br ≤ 9) : f_X2_allowance (nI k) (nI br) = some (nI (ra_al k br)) := by
  unfold f_X2_allowance ra_al
  simp (disch := omega) only [ra_lit, nI_eq, pk_sub]
  repeat' split
  all_goals rfl
theorem ra_alR (g : Nat → Int32) (σ : Nat → Nat) {k : Nat} (hk : k < 1000) (hb : σ 2 ≤ 9) : f_X3_allows g (ra_nf σ) (nI k) = some (nI (ra_al k (σ 2))) := by
  unfold f_X3_allows ra_al
  simp (disch := omega) only [ra_lit, nI_eq, pk_sub, ra_nf_ap]
  repeat' split
  all_goals rfl
theorem ra_miR {k : Nat} (hk : k < 1000) : f_X3_minutesOf (nI k) = some (nI (ra_mi k)) := by
  unfold f_X3_minutesOf ra_mi
  simp (disch := omega) only [ra_lit, nI_eq]
  repeat' split
  all_goals rfl
theorem ra_swR {k : Nat} (hk : k < 1000) : f_X3_swellsBy (nI k) = some (nI (ra_sw k)) := by
  unfold f_X3_swellsBy ra_sw
  simp (disch := omega) only [ra_lit, nI_eq]
  repeat' split
  all_goals rfl
theorem ra_hmR {k : Nat} (hk : k < 1000) : f_X3_harmOf (nI k) = some (nI (ra_hm k)) := by
  unfold f_X3_harmOf ra_hm
  simp (disch := omega) only [ra_lit, nI_eq]
  repeat' split
  all_goals rfl
theorem ra_cdR {k co : Nat} (hk : k < 1000) (hc : co < 1000) : f_X3_coldBy (nI k) (nI co) = some (nI (ra_cd k co)) := by
  unfold f_X3_coldBy ra_cd
  simp (disch := omega) only [ra_lit, nI_eq, ra_least, nI_add, ra_mnn, Option.bind_some]
  repeat' split
  all_goals rfl
theorem ra_a2 : ∀ k, k < 7 → rf_a2 k = nI (ra_mi k) := by decide
theorem ra_a3 : ∀ k, k < 7 → rf_a3 k = nI (ra_sw k) := by decide
theorem ra_a4 : ∀ k, k < 7 → rf_a4 k = nI (ra_hm k) := by decide
theorem ra_ltT {a b : Nat} (h : a < b) : (a < b) = True := eq_true h
theorem ra_ltF {a b : Nat} (h : b ≤ a) : (a < b) = False := eq_false (by omega)
theorem ra_leT {a b : Nat} (h : a ≤ b) : (a ≤ b) = True := eq_true h
theorem ra_leF {a b : Nat} (h : b < a) : (a ≤ b) = False := eq_false (by omega)
theorem ra_eqT {a b : Nat} (h : a = b) : (a = b) = True := eq_true h
theorem ra_eqF {a b : Nat} (h : a ≠ b) : (a = b) = False := eq_false h
theorem ra_10 : (nI 1 = nI 0) = False := eq_false (by decide)
theorem ra_00 : (nI 0 = nI 0) = True := eq_true rfl
end RABase
end
section
/-! the finger: what a try and a wait do, both sides -/
section RAFing
theorem ra_b01 {c : Prop} {_ : Decidable c} : nI (if c then 1 else 0) &&& nI 1 = nI (if c then 1 else 0) := by
  split <;> rfl
theorem ra_b0 {c : Prop} {_ : Decidable c} : (nI (if c then 1 else 0) = nI 0) = ¬ c := by
  by_cases h : c
  · rw [if_pos h]
    exact propext ⟨fun z => absurd z (show ¬ nI 1 = nI 0 by decide), fun z => absurd h z⟩
  · rw [if_neg h]
    exact propext ⟨fun _ => h, fun _ => rfl⟩
theorem ra_ifin {α : Type} {c N : Nat} {_ : Decidable (¬ (c < 0 ∨ N ≤ c))} {a b : α} (h : c < N) : (if ¬ (c < 0 ∨ N ≤ c) then a else b) = a := if_pos (by omega)
def ra_jn (γ κ τ : Nat → Nat) : Nat → Nat := fun i => if i < 10 then γ i else if i < 16 then κ (i - 10) else τ (i - 16)
def ra_st (γ κ τ : Nat → Nat) : Nat → Int32 := ra_nf (ra_jn γ κ τ)
theorem ra_st_lo (γ κ τ : Nat → Nat) {i : Nat} (h : i < 10) : ra_st γ κ τ i = nI (γ i) := by
  unfold ra_st ra_nf ra_jn
  rw [if_pos h]
theorem ra_st_k (γ κ τ : Nat → Nat) {j : Nat} (h : j < 6) : ra_st γ κ τ (10 + j) = nI (κ j) := by
  unfold ra_st ra_nf ra_jn
  rw [if_neg (by omega), if_pos (by omega), show 10 + j - 10 = j by omega]
theorem ra_st_t (γ κ τ : Nat → Nat) {j : Nat} (h : j < 6) : ra_st γ κ τ (16 + j) = nI (τ j) := by
  unfold ra_st ra_nf ra_jn
  rw [if_neg (by omega), if_neg (by omega), show 16 + j - 16 = j by omega]
theorem ra_st_u (γ κ τ : Nat → Nat) {k v : Nat} (h : k < 10) : upd (ra_st γ κ τ) k (nI v) = ra_st (ra_un γ k v) κ τ := by
  unfold ra_st
  rw [ra_upd]
  congr 1
  funext i
  unfold ra_un ra_jn
  by_cases e : i = k
  · subst e
    simp [h]
  · simp only [if_neg e]
theorem ra_st_uk (γ κ τ : Nat → Nat) {j v : Nat} (h : j < 6) : upd (ra_st γ κ τ) (10 + j) (nI v) = ra_st γ (ra_un κ j v) τ := by
  unfold ra_st
  rw [ra_upd]
  congr 1
  funext i
  unfold ra_un ra_jn
  by_cases e : i = 10 + j
  · subst e
    simp [show ¬ 10 + j < 10 by omega, show 10 + j < 16 by omega]
  · simp only [if_neg e]
    by_cases e1 : i < 10
    · simp only [if_pos e1]
    · simp only [if_neg e1]
      by_cases e2 : i < 16
      · simp only [if_pos e2]
        rw [if_neg (by omega)]
      · simp only [if_neg e2]
theorem ra_st_ut (γ κ τ : Nat → Nat) {j v : Nat} (h : j < 6) : ∀ k : Nat, k < 22 → upd (ra_st γ κ τ) (16 + j) (nI v) k = ra_st γ κ (ra_un τ j v) k := by
  intro i _
  unfold ra_st
  rw [ra_upd]
  unfold ra_nf ra_un ra_jn
  by_cases e : i = 16 + j
  · subst e
    simp [show ¬ 16 + j < 10 by omega, show ¬ 16 + j < 16 by omega]
  · simp only [if_neg e]
    by_cases e1 : i < 10
    · simp only [if_pos e1]
    · simp only [if_neg e1]
      by_cases e2 : i < 16
      · simp only [if_pos e2]
      · simp only [if_neg e2]
        rw [if_neg (by omega)]
/-- a finger as it can be -/
def ra_ok (γ κ τ : Nat → Nat) : Prop :=
  γ 0 ≤ 6 ∧ γ 3 ≤ γ 0 ∧ 100 ≤ γ 1 ∧ γ 1 ≤ 250 ∧ 1 ≤ γ 2 ∧ γ 2 ≤ 9 ∧ γ 4 ≤ 30 ∧ γ 5 ≤ 20 ∧ γ 6 ≤ 99 ∧ γ 7 ≤ 9 ∧ (∀ j, κ j ≤ 5) ∧ (∀ j, τ j ≤ 240)
abbrev ra_ov (γ κ τ : Nat → Nat) (k : Nat) : Prop := ra_tk (κ (γ 3)) (τ (γ 3)) (γ 4) (ra_cd k (γ 5)) (γ 7) ≤ γ 1 + ra_al k (γ 2)
def ra_wear (γ : Nat → Nat) (k : Nat) : Nat → Nat := fun i =>
  if i = 4 then min 30 (γ 4 + ra_sw k) else if i = 5 then ra_cd k (γ 5) else if i = 6 then min 99 (γ 6 + (if k = 5 then 5 else 0)) else if i = 8 then γ 8 + ra_mi k else if i = 9 then γ 9 + ra_hm k else γ i
def ra_tr (γ κ τ : Nat → Nat) (k : Nat) : Nat → Nat := if ra_ov γ κ τ k then ra_un (ra_wear γ k) 3 (γ 3 + 1) else ra_wear γ k
def ra_wt (γ : Nat → Nat) (m : Nat) : Nat → Nat := fun i =>
  if i = 4 then γ 4 - m / 2 else if i = 5 then γ 5 - m / 3 else if i = 6 then γ 6 - m else if i = 8 then γ 8 + m else γ i
theorem ra_wear_ok {γ κ τ : Nat → Nat} {k : Nat} (h : ra_ok γ κ τ) : ra_ok (ra_wear γ k) κ τ := by
  obtain ⟨h0, h1, h2, h3, h4, h5, h6, h7, h8, h9, h10, h11⟩ := h
  have hc := ra_cd_le (k := k) h7
  exact ⟨h0, h1, h2, h3, h4, h5, Nat.min_le_left _ _, hc.1, Nat.min_le_left _ _, h9, h10, h11⟩
theorem ra_wt_ok {γ κ τ : Nat → Nat} {m : Nat} (h : ra_ok γ κ τ) : ra_ok (ra_wt γ m) κ τ := by
  obtain ⟨h0, h1, h2, h3, h4, h5, h6, h7, h8, h9, h10, h11⟩ := h
  exact ⟨h0, h1, h2, h3, h4, h5, by show γ 4 - m / 2 ≤ 30; omega, by show γ 5 - m / 3 ≤ 20; omega, by show γ 6 - m ≤ 99; omega, h9, h10, h11⟩
theorem ra_tr_ok {γ κ τ : Nat → Nat} {k : Nat} (h : ra_ok γ κ τ) (hf : γ 3 < γ 0) : ra_ok (ra_tr γ κ τ k) κ τ := by
  unfold ra_tr
  split
  · obtain ⟨h0, h1, h2⟩ := ra_wear_ok (k := k) h
    exact ⟨h0, hf, h2⟩
  · exact ra_wear_ok h
theorem rc_isOff (γ : Nat → Nat) (h0 : γ 0 < 1000) (h3 : γ 3 < 1000) : f_X0_isOff (ra_nf γ) = some (nI (if γ 3 < γ 0 then 0 else 1)) := by
  unfold f_X0_isOff
  simp (disch := omega) only [ra_lit, ra_nf_ap, nI_ltI]
  split <;> rfl
theorem rr_isOff (g γ κ τ : Nat → Nat) (h0 : γ 0 < 1000) (h3 : γ 3 < 1000) : f_X3_isOff (ra_nf g) (ra_st γ κ τ) = some (nI (if γ 3 < γ 0 then 0 else 1)) := by
  unfold f_X3_isOff
  simp (disch := omega) only [ra_lit, ra_st_lo, nI_ltI]
  split <;> rfl
theorem rc_thickNow {γ κ τ : Nat → Nat} (h : ra_ok γ κ τ) {j : Nat} (hj : j < 6) : f_X0_thickNow (ra_nf γ) (ra_nf κ) (ra_nf τ) (nI j) = some (nI (ra_tk (κ j) (τ j) (γ 4) (γ 5) (γ 7))) := by
  obtain ⟨h0, h1, h2, h3, h4, h5, h6, h7, h8, h9, h10, h11⟩ := h
  have := h10 j
  have := h11 j
  unfold f_X0_thickNow
  simp (disch := omega) only [ra_lit, ra_at, ra_nf_ap, Option.bind_some, ra_tkC]
theorem rr_partBy {g γ κ τ : Nat → Nat} (h : ra_ok γ κ τ) {j sw co he : Nat} (hj : j < 6) (hs : sw < 100) (hc : co < 100) (hh : he < 100) : f_X3_partBy (ra_nf g) (ra_st γ κ τ) (nI j) (nI sw) (nI co) (nI he) = some (nI (ra_tk (κ j) (τ j) sw co he)) := by
  obtain ⟨h0, h1, h2, h3, h4, h5, h6, h7, h8, h9, h10, h11⟩ := h
  have := h10 j
  have := h11 j
  unfold f_X3_partBy
  simp (disch := omega) only [ra_lit, nI_add, nI_clamp, nI_ltI, ra_ifin, ra_st_k, ra_st_t, Option.bind_some, ra_tkR]
theorem rc_coldAhead {γ : Nat → Nat} {k : Nat} (hk : k < 1000) (h5 : γ 5 ≤ 20) : f_X0_coldAhead (ra_nf γ) (nI k) = some (nI (ra_cd k (γ 5))) := by
  unfold f_X0_coldAhead ra_cd
  simp (disch := omega) only [ra_lit, nI_eq, nI_add, ra_mnn, Option.bind_some, ra_nf_ap]
  split <;> rfl
theorem rc_over {γ κ τ : Nat → Nat} (h : ra_ok γ κ τ) {k : Nat} (hk : k < 1000) : f_X0_goesOver (ra_nf γ) (ra_nf κ) (ra_nf τ) (nI k) = some (nI (if γ 3 < γ 0 ∧ ra_ov γ κ τ k then 1 else 0)) := by
  have h' := h
  obtain ⟨h0, h1, h2, h3, h4, h5, h6, h7, h8, h9, h10, h11⟩ := h
  have := h10 (γ 3)
  have := h11 (γ 3)
  have hc := ra_cd_le (k := k) h7
  have ha := ra_al_le k (γ 2)
  have ht := ra_tk_le (k := κ (γ 3)) (th := τ (γ 3)) (sw := γ 4) (co := ra_cd k (γ 5)) (he := γ 7) (by omega) (by omega) (by omega)
  unfold f_X0_goesOver
  rw [rc_isOff γ (by omega) (by omega)]
  by_cases ho : γ 3 < γ 0
  · simp (disch := omega) only [if_pos ho, Option.bind_some, ra_lit, ra_at, ra_nf_ap, rc_coldAhead, ra_tkC, ra_alC, nI_add, nI_ltI, true_and, if_true, ho]
    unfold ra_ov
    split
    · rw [if_neg (by omega)]
    · rw [if_pos (by omega)]
  · simp only [if_neg ho, Option.bind_some, ho, false_and, if_false, ra_lit]
    rw [if_neg (by decide)]
theorem rr_over {g γ κ τ : Nat → Nat} (h : ra_ok γ κ τ) {k j sw co : Nat} (hk : k < 1000) (hj : j < 6) (hs : sw ≤ 30) (hco : co ≤ 20) : f_X3_goesOver (ra_nf g) (ra_st γ κ τ) (nI j) (nI k) (nI sw) (nI co) = some (nI (if ra_tk (κ j) (τ j) sw (ra_cd k co) (γ 7) ≤ γ 1 + ra_al k (γ 2) then 1 else 0)) := by
  have h' := h
  obtain ⟨h0, h1, h2, h3, h4, h5, h6, h7, h8, h9, h10, h11⟩ := h
  have := h10 j
  have := h11 j
  have hc := ra_cd_le (k := k) hco
  have ha := ra_al_le k (γ 2)
  have ht := ra_tk_le (k := κ j) (th := τ j) (sw := sw) (co := ra_cd k co) (he := γ 7) (by omega) (by omega) (by omega)
  have hal : f_X3_allows (ra_nf g) (ra_st γ κ τ) (nI k) = some (nI (ra_al k (γ 2))) := ra_alR (ra_nf g) (ra_jn γ κ τ) hk h5
  unfold f_X3_goesOver
  simp (disch := omega) only [ra_cdR, ra_st_lo, Option.bind_some, rr_partBy h', hal, nI_add, nI_ltI, ra_lit]
  split
  · rw [if_neg (by omega)]
  · rw [if_pos (by omega)]
theorem rr_would {g γ κ τ : Nat → Nat} (h : ra_ok γ κ τ) {k : Nat} (hk : k < 1000) (hf : γ 3 < γ 0) : f_X3_wouldGo (ra_nf g) (ra_st γ κ τ) (nI k) = some (nI (if ra_ov γ κ τ k then 1 else 0)) := by
  have h' := h
  obtain ⟨h0, h1, h2, h3, h4, h5, h6, h7, h8, h9, h10, h11⟩ := h
  unfold f_X3_wouldGo
  simp (disch := omega) only [ra_st_lo, rr_over h', Option.bind_some, ra_lit, ra_b01, if_true]
theorem rc_strain {γ : Nat → Nat} {k : Nat} (hk : k < 7) (h4 : γ 4 ≤ 30) (h5 : γ 5 ≤ 20) (h6 : γ 6 ≤ 99) : f_X0_strain (ra_nf γ) (nI k) = some (ra_nf (ra_wear γ k)) := by
  have hs := ra_sw_le k
  unfold f_X0_strain
  simp (disch := omega) only [rc_coldAhead, ra_at, Option.bind_some, ra_a2, ra_a3, ra_a4, ra_nf_ap, nI_add, ra_lit, ra_mnn, nI_eq, ra_upd]
  have e : ∀ v : Nat, v = min 99 (γ 6 + (if k = 5 then 5 else 0)) → ra_un (ra_un (ra_un (ra_un (ra_un γ 5 (ra_cd k (γ 5))) 4 (min 30 (γ 4 + ra_sw k))) 9 (γ 9 + ra_hm k)) 8 (γ 8 + ra_mi k)) 6 v = ra_wear γ k := by
    intro v hv
    funext i
    unfold ra_un ra_wear
    by_cases e4 : i = 4
    · subst e4; simp
    by_cases e5 : i = 5
    · subst e5; simp
    by_cases e6 : i = 6
    · subst e6; simp [hv]
    by_cases e8 : i = 8
    · subst e8; simp
    by_cases e9 : i = 9
    · subst e9; simp
    simp [e4, e5, e6, e8, e9]
  split
  · rename_i hk5
    rw [e _ (by rw [if_pos hk5])]
  · rename_i hk5
    rw [← e _ rfl, if_neg hk5]
    congr 2
    funext i
    by_cases e6 : i = 6
    · subst e6
      rw [ra_us]
      show γ 6 = _
      omega
    · rw [ra_ud _ _ e6]
theorem rr_wears {g γ κ τ : Nat → Nat} {k : Nat} (hk : k < 7) (h4 : γ 4 ≤ 30) (h5 : γ 5 ≤ 20) (h6 : γ 6 ≤ 99) : f_X3_wears (ra_nf g) (ra_st γ κ τ) (nI k) = some (ra_st (ra_wear γ k) κ τ) := by
  have hs := ra_sw_le k
  unfold f_X3_wears
  simp (disch := omega) only [ra_cdR, ra_swR, ra_hmR, ra_miR, ra_st_lo, Option.bind_some, ra_least, nI_add, ra_lit, ra_mnn, nI_eq, ra_st_u]
  have e : ∀ v : Nat, v = min 99 (γ 6 + (if k = 5 then 5 else 0)) → ra_un (ra_un (ra_un (ra_un (ra_un γ 5 (ra_cd k (γ 5))) 4 (min 30 (γ 4 + ra_sw k))) 9 (γ 9 + ra_hm k)) 6 v) 8 (γ 8 + ra_mi k) = ra_wear γ k := by
    intro v hv
    funext i
    unfold ra_un ra_wear
    by_cases e4 : i = 4
    · subst e4; simp
    by_cases e5 : i = 5
    · subst e5; simp
    by_cases e6 : i = 6
    · subst e6; simp [hv]
    by_cases e8 : i = 8
    · subst e8; simp
    by_cases e9 : i = 9
    · subst e9; simp
    simp [e4, e5, e6, e8, e9]
  split
  · rename_i hk5
    rw [e _ (by rw [if_pos hk5])]
  · rename_i hk5
    rw [e _ (by rw [if_neg hk5])]
theorem rc_attempt {γ κ τ : Nat → Nat} (h : ra_ok γ κ τ) {k : Nat} (hk : k < 7) (hf : γ 3 < γ 0) : f_X0_attempt (ra_nf γ) (ra_nf κ) (ra_nf τ) (nI k) = some (nI (if ra_ov γ κ τ k then 1 else 0), ra_nf (ra_tr γ κ τ k)) := by
  have h' := h
  obtain ⟨h0, h1, h2, h3, h4, h5, h6, h7, h8, h9, h10, h11⟩ := h
  unfold f_X0_attempt
  rw [rc_over h' (by omega), Option.bind_some, rc_strain hk h6 h7 h8, Option.bind_some]
  have e : (if γ 3 < γ 0 ∧ ra_ov γ κ τ k then 1 else 0) = (if ra_ov γ κ τ k then 1 else 0) := by
    simp only [hf, true_and]
  rw [e]
  by_cases ho : ra_ov γ κ τ k
  · simp only [if_pos ho, ra_tr]
    rw [if_neg (by decide)]
    simp only [Option.bind_some]
    rw [if_pos (by decide), ra_lit, ra_nf_ap, nI_add, ra_upd]
    rfl
  · simp only [if_neg ho, ra_tr]
    rw [if_pos (by decide), if_pos (by decide)]
theorem rr_tried {g γ κ τ : Nat → Nat} (h : ra_ok γ κ τ) {k : Nat} (hk : k < 7) (hf : γ 3 < γ 0) : f_X3_tried (ra_nf g) (ra_st γ κ τ) (nI k) = some (nI (if ra_ov γ κ τ k then 1 else 0), ra_st (ra_tr γ κ τ k) κ τ) := by
  have h' := h
  obtain ⟨h0, h1, h2, h3, h4, h5, h6, h7, h8, h9, h10, h11⟩ := h
  have e : ∀ v, ra_wear (ra_un γ 3 v) k = ra_un (ra_wear γ k) 3 v := by
    intro v
    funext i
    unfold ra_wear ra_un
    by_cases e3 : i = 3
    · subst e3; simp
    · simp [e3]
  unfold f_X3_tried
  rw [rr_would h' (by omega) hf, Option.bind_some]
  by_cases ho : ra_ov γ κ τ k
  · simp only [if_pos ho, ra_tr]
    rw [if_neg (by decide)]
    simp (disch := omega) only [Option.bind_some, ra_lit, ra_st_lo, nI_add, ra_st_u]
    rw [rr_wears (γ := ra_un γ 3 (γ 3 + 1)) hk h6 h7 h8, Option.bind_some, e]
    rfl
  · simp only [if_neg ho, ra_tr]
    rw [if_pos (by decide)]
    simp (disch := omega) only [Option.bind_some, ra_lit, ra_st_lo, nI_add, ra_st_u, Nat.add_zero]
    rw [rr_wears (γ := ra_un γ 3 (γ 3)) hk h6 h7 h8, Option.bind_some, e]
    have : ra_un (ra_wear γ k) 3 (γ 3) = ra_wear γ k := by
      funext i
      by_cases e3 : i = 3
      · subst e3
        rw [ra_us]
        rfl
      · rw [ra_ud _ _ e3]
    rw [this]
    rfl
theorem rc_rest {γ : Nat → Nat} {m : Nat} (hm : m < 1000) (h4 : γ 4 ≤ 30) (h5 : γ 5 ≤ 20) (h6 : γ 6 ≤ 99) : f_X0_rest (ra_nf γ) (nI m) = some (ra_nf (ra_wt γ m)) := by
  unfold f_X0_rest
  simp (disch := omega) only [Option.bind_some, ra_nf_ap, nI_add, ra_lit, pk_div, ra_mx0, ra_upd]
  congr 2
  funext i
  unfold ra_un ra_wt
  by_cases e4 : i = 4
  · subst e4; simp
  by_cases e5 : i = 5
  · subst e5; simp
  by_cases e6 : i = 6
  · subst e6; simp
  by_cases e8 : i = 8
  · subst e8; simp
  simp [e4, e5, e6, e8]
theorem rr_waits {g γ κ τ : Nat → Nat} {m : Nat} (hm : m < 1000) (h4 : γ 4 ≤ 30) (h5 : γ 5 ≤ 20) (h6 : γ 6 ≤ 99) : f_X3_waits (ra_nf g) (ra_st γ κ τ) (nI m) = some (ra_st (ra_wt γ m) κ τ) := by
  unfold f_X3_waits
  simp (disch := omega) only [Option.bind_some, ra_st_lo, nI_add, ra_lit, pk_div, ra_most, ra_mx0, ra_st_u]
  congr 2
  funext i
  unfold ra_un ra_wt
  by_cases e4 : i = 4
  · subst e4; simp
  by_cases e5 : i = 5
  · subst e5; simp
  by_cases e6 : i = 6
  · subst e6; simp
  by_cases e8 : i = 8
  · subst e8; simp
  simp [e4, e5, e6, e8]
end RAFing
end
section
/-! the calls without a loop, both sides at once -/
section RASimple
def ra_rf (φ : Nat → Nat) (c : Nat) : Nat → Nat := ra_un φ c (φ c + 1)
theorem ra_neg_neg (x : Int32) : - -x = x := Int32.neg_neg
theorem rc_refuse (g : Nat → Int32) (φ : Nat → Nat) {c : Nat} (hc : c < 7) : f_X2_refuse g (ra_nf φ) (-nI c) = some (-nI c, ra_nf (ra_rf φ c)) := by
  unfold f_X2_refuse
  simp (disch := omega) only [ra_neg_neg, ra_at, Option.bind_some, ra_nf_ap, ra_lit, nI_add, ra_put, ra_upd]
  rfl
theorem rr_no (g : Nat → Int32) (φ : Nat → Nat) {c : Nat} (hc : c < 7) : f_X3_no g (ra_nf φ) (-nI c) = some (-nI c, ra_nf (ra_rf φ c)) := by
  unfold f_X3_no
  simp (disch := omega) only [ra_neg_neg, nI_clamp, nI_ltI, ra_ifin, Option.bind_some, ra_nf_ap, ra_lit, nI_add, ra_upd]
  rfl
theorem rr_lays (a b : Nat → Int32) : f_X3_lays 22 22 a b = some a := by
  unfold f_X3_lays
  rw [if_pos ⟨rfl, rfl⟩]
theorem rc_copy (a b c d e f : Nat → Int32) : f_X0_copyFrom a b c d e f = some (d, e, f) := rfl
theorem ra_try (p : Int32) : (∃ k, k < 7 ∧ p = nI k ∧ f_X2_isTry p = some (nI 1) ∧ f_X3_isIn p 0 6 = some (nI 1)) ∨ (f_X2_isTry p = some (nI 0) ∧ f_X3_isIn p 0 6 = some (nI 0)) := by
  unfold f_X2_isTry f_X3_isIn
  by_cases h : p < 0
  · right
    simp only [if_pos h]
    exact ⟨rfl, rfl⟩
  · obtain ⟨k, hk, rfl⟩ := nI_of h
    simp only [if_neg h]
    by_cases h6 : k < 7
    · left
      refine ⟨k, h6, rfl, ?_, ?_⟩
      · rw [if_neg (show ¬ (6 : Int32) < nI k from nI_nlt (a := 6) (b := k) (by omega) (by decide))]
        rfl
      · rw [if_neg (show ¬ (6 : Int32) < nI k from nI_nlt (a := 6) (b := k) (by omega) (by decide))]
        rfl
    · right
      have : (6 : Int32) < nI k := nI_lt (a := 6) (by omega) hk
      simp only [if_pos this]
      exact ⟨rfl, rfl⟩
theorem ra_either (p : Int32) : ((p = nI 0 ∨ p = nI 1) ∧ f_X2_isEither p = some (nI 1) ∧ f_X3_isIn p 0 1 = some (nI 1)) ∨ (f_X2_isEither p = some (nI 0) ∧ f_X3_isIn p 0 1 = some (nI 0)) := by
  unfold f_X2_isEither f_X3_isIn
  by_cases h : p < 0
  · right
    have h0 : ¬ p = 0 := fun e => by subst e; exact absurd h (by decide)
    have h1 : ¬ p = 1 := fun e => by subst e; exact absurd h (by decide)
    simp only [if_pos h, if_neg h0, if_neg h1]
    exact ⟨rfl, rfl⟩
  · obtain ⟨k, hk, rfl⟩ := nI_of h
    by_cases h1 : k < 2
    · left
      have : k = 0 ∨ k = 1 := by omega
      rcases this with rfl | rfl
      · exact ⟨Or.inl rfl, rfl, rfl⟩
      · exact ⟨Or.inr rfl, rfl, rfl⟩
    · right
      have h2 : (1 : Int32) < nI k := nI_lt (a := 1) (by omega) hk
      have h3 : ¬ nI k = 0 := fun e => by have := (nI_eq (b := 0) hk (by decide)).mp e; omega
      have h4 : ¬ nI k = 1 := fun e => by have := (nI_eq (b := 1) hk (by decide)).mp e; omega
      simp only [if_neg h, if_pos h2, if_neg h3, if_neg h4]
      exact ⟨rfl, rfl⟩
theorem ra_wrong {γ κ τ : Nat → Nat} (G M φ : Nat → Nat) (h : ra_ok γ κ τ) (p : Int32) :
    (∃ k, k < 7 ∧ p = nI k ∧ γ 3 < γ 0 ∧ f_X2_tryRefusal (ra_nf G) (ra_nf γ) (ra_nf φ) p = some (nI 0, ra_nf φ) ∧ f_X3_wrongTry (ra_nf M) (ra_st γ κ τ) p = some (nI 0)) ∨
    (∃ c, (c = 2 ∨ c = 3) ∧ f_X2_tryRefusal (ra_nf G) (ra_nf γ) (ra_nf φ) p = some (-nI c, ra_nf (ra_rf φ c)) ∧ f_X3_wrongTry (ra_nf M) (ra_st γ κ τ) p = some (-nI c)) := by
  obtain ⟨h0, h1, h2⟩ := h
  unfold f_X2_tryRefusal f_X3_wrongTry
  rcases ra_try p with ⟨k, hk, e, e1, e2⟩ | ⟨e1, e2⟩
  · rw [e1, e2, rc_isOff γ (by omega) (by omega), rr_isOff M γ κ τ (by omega) (by omega)]
    by_cases ho : γ 3 < γ 0
    · left
      refine ⟨k, hk, e, ho, ?_, ?_⟩
      · simp only [Option.bind_some, if_pos ho]
        rfl
      · simp only [Option.bind_some, if_pos ho]
        rfl
    · right
      refine ⟨3, Or.inr rfl, ?_, ?_⟩
      · simp only [Option.bind_some, if_neg ho]
        rw [if_neg (by decide), if_neg (by decide), show (-3 : Int32) = -nI 3 from rfl, rc_refuse _ _ (by decide)]
        rfl
      · simp only [Option.bind_some, if_neg ho]
        rw [if_neg (by decide), if_neg (by decide)]
        rfl
  · right
    refine ⟨2, Or.inl rfl, ?_, ?_⟩
    · rw [e1, Option.bind_some, if_pos (show nI 0 = 0 from rfl), show (-2 : Int32) = -nI 2 from rfl, rc_refuse _ _ (by decide)]
      rfl
    · rw [e2, Option.bind_some, if_pos (show nI 0 = 0 from rfl)]
      rfl
theorem rc_hasMin (γ : Nat → Nat) {m : Nat} (h8 : γ 8 < 100000) (hm : m < 100000) : f_X0_hasMinutes (ra_nf γ) (nI m) = some (nI (if γ 8 + m ≤ 999 then 1 else 0)) := by
  unfold f_X0_hasMinutes
  simp (disch := omega) only [ra_nf_ap, nI_add, ra_lit, nI_ltI]
  split
  · rw [if_neg (by omega)]
  · rw [if_pos (by omega)]
theorem ra_nz {c : Nat} (h : c = 2 ∨ c = 3) : ¬ -nI c = 0 := by
  rcases h with rfl | rfl <;> decide
theorem ra_nz' {c : Nat} (h : c = 2 ∨ c = 3) : ¬ -nI c = nI 0 := ra_nz h
theorem tm_letter (G M lt φ : Nat → Nat) {L : Nat} (hG : G 0 = L) (hM : M 1 = L) (hL : L ≤ 96) (p : Int32) :
    (∃ c, (c = 4 ∨ c = 6) ∧ f_X2_letter (ra_nf G) (ra_nf lt) (ra_nf φ) p = some (-nI c, ra_nf G, ra_nf lt, ra_nf (ra_rf φ c)) ∧ f_X3_letter (ra_nf M) (ra_nf lt) (ra_nf φ) p = some (-nI c, ra_nf M, ra_nf lt, ra_nf (ra_rf φ c))) ∨
    (∃ v, v < 256 ∧ L < 96 ∧ f_X2_letter (ra_nf G) (ra_nf lt) (ra_nf φ) p = some (nI (L + 1), ra_nf (ra_un G 0 (L + 1)), ra_nf (ra_un lt L v), ra_nf φ) ∧ f_X3_letter (ra_nf M) (ra_nf lt) (ra_nf φ) p = some (nI (L + 1), ra_nf (ra_un M 1 (L + 1)), ra_nf (ra_un lt L v), ra_nf φ)) := by
  unfold f_X2_letter f_X3_letter
  by_cases h : p < 0
  · left
    have h0 : ¬ 0 ≤ p := fun z => by
      have h1 := Int32.lt_iff_toInt_lt.mp h
      have h2 := Int32.le_iff_toInt_le.mp z
      omega
    refine ⟨4, Or.inl rfl, ?_, ?_⟩
    · rw [if_neg h0, show (-4 : Int32) = -nI 4 from rfl, rc_refuse _ _ (by decide)]
      rfl
    · rw [if_neg h0, show (-4 : Int32) = -nI 4 from rfl, rr_no _ _ (by decide)]
      rfl
  · obtain ⟨v, hv, rfl⟩ := nI_of h
    have h0 : (0 : Int32) ≤ nI v := nI_pos' hv
    simp only [if_pos h0]
    by_cases h255 : v < 256
    · have h2 : ¬ (255 : Int32) < nI v := nI_nlt (a := 255) (by omega) (by decide)
      simp only [if_neg h2]
      by_cases hl : L < 96
      · right
        refine ⟨v, h255, hl, ?_, ?_⟩
        · simp (disch := omega) only [ra_nf_ap, hG, ra_lit, nI_ltI, if_pos hl, ra_put, Option.bind_some, nI_add, ra_upd]
        · simp (disch := omega) only [ra_nf_ap, hM, ra_lit, nI_eq, nI_clamp, nI_ltI, ra_ifin, Option.bind_some, nI_add, ra_upd]
          rw [if_neg (by omega)]
      · left
        have e96 : L = 96 := by omega
        refine ⟨6, Or.inr rfl, ?_, ?_⟩
        · simp (disch := omega) only [ra_nf_ap, hG, ra_lit, nI_ltI, if_neg hl, rc_refuse, Option.bind_some]
        · simp (disch := omega) only [ra_nf_ap, hM, ra_lit, nI_eq, if_pos e96, rr_no, Option.bind_some]
    · left
      have h2 : (255 : Int32) < nI v := nI_lt (a := 255) (by omega) hv
      simp only [if_pos h2]
      refine ⟨6, Or.inr rfl, ?_, ?_⟩
      · simp (disch := omega) only [ra_lit, rc_refuse, Option.bind_some]
      · simp (disch := omega) only [ra_lit, rr_no, Option.bind_some]
theorem tm_row (G M ro φ : Nat → Nat) {R : Nat} (hG : G 1 = R) (hM : M 2 = R) (hR : R ≤ 12) (p : Int32) :
    (∃ c, (c = 4 ∨ c = 6) ∧ f_X2_row (ra_nf G) (ra_nf ro) (ra_nf φ) p = some (-nI c, ra_nf G, ra_nf ro, ra_nf (ra_rf φ c)) ∧ f_X3_row (ra_nf M) (ra_nf ro) (ra_nf φ) p = some (-nI c, ra_nf M, ra_nf ro, ra_nf (ra_rf φ c))) ∨
    (∃ v, v < 10 ∧ R < 12 ∧ f_X2_row (ra_nf G) (ra_nf ro) (ra_nf φ) p = some (nI (R + 1), ra_nf (ra_un G 1 (R + 1)), ra_nf (ra_un ro R v), ra_nf φ) ∧ f_X3_row (ra_nf M) (ra_nf ro) (ra_nf φ) p = some (nI (R + 1), ra_nf (ra_un M 2 (R + 1)), ra_nf (ra_un ro R v), ra_nf φ)) := by
  unfold f_X2_row f_X3_row
  by_cases h : p < 0
  · left
    have h0 : ¬ 0 ≤ p := fun z => by
      have h1 := Int32.lt_iff_toInt_lt.mp h
      have h2 := Int32.le_iff_toInt_le.mp z
      omega
    refine ⟨4, Or.inl rfl, ?_, ?_⟩
    · rw [if_neg h0, show (-4 : Int32) = -nI 4 from rfl, rc_refuse _ _ (by decide)]
      rfl
    · rw [if_neg h0, show (-4 : Int32) = -nI 4 from rfl, rr_no _ _ (by decide)]
      rfl
  · obtain ⟨v, hv, rfl⟩ := nI_of h
    have h0 : (0 : Int32) ≤ nI v := nI_pos' hv
    simp only [if_pos h0]
    by_cases h255 : v < 10
    · have h2 : ¬ (9 : Int32) < nI v := nI_nlt (a := 9) (by omega) (by decide)
      simp only [if_neg h2]
      by_cases hl : R < 12
      · right
        refine ⟨v, h255, hl, ?_, ?_⟩
        · simp (disch := omega) only [ra_nf_ap, hG, ra_lit, nI_ltI, if_pos hl, ra_put, Option.bind_some, nI_add, ra_upd]
        · simp (disch := omega) only [ra_nf_ap, hM, ra_lit, nI_eq, nI_clamp, nI_ltI, ra_ifin, Option.bind_some, nI_add, ra_upd]
          rw [if_neg (by omega)]
      · left
        have e96 : R = 12 := by omega
        refine ⟨6, Or.inr rfl, ?_, ?_⟩
        · simp (disch := omega) only [ra_nf_ap, hG, ra_lit, nI_ltI, if_neg hl, rc_refuse, Option.bind_some]
        · simp (disch := omega) only [ra_nf_ap, hM, ra_lit, nI_eq, if_pos e96, rr_no, Option.bind_some]
    · left
      have h2 : (9 : Int32) < nI v := nI_lt (a := 9) (by omega) hv
      simp only [if_pos h2]
      refine ⟨6, Or.inr rfl, ?_, ?_⟩
      · simp (disch := omega) only [ra_lit, rc_refuse, Option.bind_some]
      · simp (disch := omega) only [ra_lit, rr_no, Option.bind_some]
theorem rr_nowOf {g γ κ τ : Nat → Nat} (h : ra_ok γ κ τ) {j : Nat} (hj : j < 6) : f_X3_nowOf (ra_nf g) (ra_st γ κ τ) (nI j) = some (nI (ra_tk (κ j) (τ j) (γ 4) (γ 5) (γ 7))) := by
  have h' := h
  obtain ⟨h0, h1, h2, h3, h4, h5, h6, h7, h8, h9, h10, h11⟩ := h
  unfold f_X3_nowOf
  simp (disch := omega) only [ra_st_lo, rr_partBy h', Option.bind_some]
theorem rr_isIn {v lo hi : Nat} (hv : v < 2 ^ 31) (h1 : lo < 2 ^ 31) (h2 : hi < 2 ^ 31) : f_X3_isIn (nI v) (nI lo) (nI hi) = some (nI (if lo ≤ v ∧ v ≤ hi then 1 else 0)) := by
  unfold f_X3_isIn
  by_cases c1 : lo ≤ v
  · by_cases c2 : v ≤ hi
    · rw [if_neg (nI_nlt c1 hv), if_neg (nI_nlt c2 h2), if_pos ⟨c1, c2⟩]
      rfl
    · rw [if_neg (nI_nlt c1 hv), if_pos (nI_lt (by omega) hv), if_neg (fun z => c2 z.2)]
      rfl
  · rw [if_pos (nI_lt (by omega) h1), if_neg (fun z => c1 z.1)]
    rfl
theorem rr_isInN {p x : Int32} {lo : Nat} (h : p < nI 0) (h1 : lo < 2 ^ 31) : f_X3_isIn p (nI lo) x = some (nI 0) := by
  unfold f_X3_isIn
  have h3 := Int32.lt_iff_toInt_lt.mp h
  have h4 : (nI 0).toInt = 0 := by decide
  rw [if_pos (Int32.lt_iff_toInt_lt.mpr (by rw [nI_toInt h1]; omega))]
  rfl
theorem rr_isInP {j n : Nat} (hj : j < 2 ^ 31) (hn : n < 1000) : f_X3_isIn (nI j) (nI 0) (nI n - nI 1) = some (nI (if j < n then 1 else 0)) := by
  unfold f_X3_isIn
  rw [if_neg (nI_nlt (by omega) hj)]
  by_cases h : j < n
  · rw [pk_sub (by omega), if_neg (nI_nlt (by omega) (by omega)), if_pos h]
    rfl
  · have e : nI n - nI 1 < nI j := by
      by_cases z : n = 0
      · rw [z]
        have a1 : nI 0 - nI 1 < 0 := by decide
        have a1 := Int32.lt_iff_toInt_lt.mp a1
        apply Int32.lt_iff_toInt_lt.mpr
        rw [nI_toInt hj]
        have a0 : (0 : Int32).toInt = 0 := by decide
        omega
      · rw [pk_sub (by omega)]
        exact nI_lt (by omega) (by omega)
    rw [if_pos e, if_neg h]
    rfl
theorem tm_part {γ κ τ : Nat → Nat} (G M φ : Nat → Nat) (h : ra_ok γ κ τ) (p1 p2 : Int32) :
    ∃ r φ', f_X2_part (ra_nf G) (ra_nf γ) (ra_nf κ) (ra_nf τ) (ra_nf φ) p1 p2 = some (r, ra_nf φ') ∧ f_X3_part (ra_nf M) (ra_st γ κ τ) (ra_nf φ) p1 p2 = some (r, ra_nf φ') := by
  have h' := h
  obtain ⟨h0, h1, h2, h3, h4, h5, h6, h7, h8, h9, h10, h11⟩ := h
  unfold f_X2_part f_X3_part
  by_cases hp : p1 < nI 0
  · refine ⟨-nI 1, ra_rf φ 1, ?_, ?_⟩
    · simp (disch := omega) only [ra_lit, if_pos hp, rc_refuse, Option.bind_some]
    · simp (disch := omega) only [ra_lit, rr_isInN hp, rr_no, Option.bind_some, ra_00, if_true]
  · obtain ⟨j, hj, rfl⟩ := nI_of (x := p1) hp
    by_cases hj0 : j < γ 0
    · simp (disch := omega) only [↓reduceIte, ra_lit, ra_nf_ap, ra_st_lo, nI_add, nI_clamp, nI_ltI, nI_leI, nI_eq, Option.bind_some, if_true, if_false, not_false_eq_true, not_true_eq_false, ra_ltT, ra_ltF, ra_leT, ra_leF, ra_eqT, ra_eqF, or_false, false_or, or_true, true_or, and_true, true_and, and_false, false_and, rr_isInP, if_pos hj0]
      by_cases c0 : p2 = nI 0
      · refine ⟨nI (κ j), φ, ?_, ?_⟩
        · simp (disch := omega) only [↓reduceIte, ra_lit, ra_nf_ap, ra_st_lo, nI_add, nI_clamp, nI_ltI, nI_leI, nI_eq, Option.bind_some, if_true, if_false, not_false_eq_true, not_true_eq_false, ra_ltT, ra_ltF, ra_leT, ra_leF, ra_eqT, ra_eqF, or_false, false_or, or_true, true_or, and_true, true_and, and_false, false_and, if_pos c0, ra_at]
        · simp (disch := omega) only [↓reduceIte, ra_lit, ra_nf_ap, ra_st_lo, nI_add, nI_clamp, nI_ltI, nI_leI, nI_eq, Option.bind_some, if_true, if_false, not_false_eq_true, not_true_eq_false, ra_ltT, ra_ltF, ra_leT, ra_leF, ra_eqT, ra_eqF, or_false, false_or, or_true, true_or, and_true, true_and, and_false, false_and, if_pos c0, ra_st_k]
      simp only [if_neg c0]
      by_cases c1 : p2 = nI 1
      · refine ⟨nI (τ j), φ, ?_, ?_⟩
        · simp (disch := omega) only [↓reduceIte, ra_lit, ra_nf_ap, ra_st_lo, nI_add, nI_clamp, nI_ltI, nI_leI, nI_eq, Option.bind_some, if_true, if_false, not_false_eq_true, not_true_eq_false, ra_ltT, ra_ltF, ra_leT, ra_leF, ra_eqT, ra_eqF, or_false, false_or, or_true, true_or, and_true, true_and, and_false, false_and, if_pos c1, ra_at]
        · simp (disch := omega) only [↓reduceIte, ra_lit, ra_nf_ap, ra_st_lo, nI_add, nI_clamp, nI_ltI, nI_leI, nI_eq, Option.bind_some, if_true, if_false, not_false_eq_true, not_true_eq_false, ra_ltT, ra_ltF, ra_leT, ra_leF, ra_eqT, ra_eqF, or_false, false_or, or_true, true_or, and_true, true_and, and_false, false_and, if_pos c1, ra_st_t]
      simp only [if_neg c1]
      by_cases c2 : p2 = nI 2
      · refine ⟨nI (ra_tk (κ j) (τ j) (γ 4) (γ 5) (γ 7)), φ, ?_, ?_⟩
        · simp (disch := omega) only [↓reduceIte, ra_lit, ra_nf_ap, ra_st_lo, nI_add, nI_clamp, nI_ltI, nI_leI, nI_eq, Option.bind_some, if_true, if_false, not_false_eq_true, not_true_eq_false, ra_ltT, ra_ltF, ra_leT, ra_leF, ra_eqT, ra_eqF, or_false, false_or, or_true, true_or, and_true, true_and, and_false, false_and, if_pos c2, rc_thickNow h']
        · simp (disch := omega) only [↓reduceIte, ra_lit, ra_nf_ap, ra_st_lo, nI_add, nI_clamp, nI_ltI, nI_leI, nI_eq, Option.bind_some, if_true, if_false, not_false_eq_true, not_true_eq_false, ra_ltT, ra_ltF, ra_leT, ra_leF, ra_eqT, ra_eqF, or_false, false_or, or_true, true_or, and_true, true_and, and_false, false_and, if_pos c2, rr_nowOf h']
      simp only [if_neg c2]
      exact ⟨-nI 2, ra_rf φ 2, by simp (disch := omega) only [↓reduceIte, ra_lit, ra_nf_ap, ra_st_lo, nI_add, nI_clamp, nI_ltI, nI_leI, nI_eq, Option.bind_some, if_true, if_false, not_false_eq_true, not_true_eq_false, ra_ltT, ra_ltF, ra_leT, ra_leF, ra_eqT, ra_eqF, or_false, false_or, or_true, true_or, and_true, true_and, and_false, false_and, rc_refuse], by simp (disch := omega) only [↓reduceIte, ra_lit, ra_nf_ap, ra_st_lo, nI_add, nI_clamp, nI_ltI, nI_leI, nI_eq, Option.bind_some, if_true, if_false, not_false_eq_true, not_true_eq_false, ra_ltT, ra_ltF, ra_leT, ra_leF, ra_eqT, ra_eqF, or_false, false_or, or_true, true_or, and_true, true_and, and_false, false_and, rr_no]⟩
    · refine ⟨-nI 1, ra_rf φ 1, ?_, ?_⟩
      · simp (disch := omega) only [↓reduceIte, ra_lit, ra_nf_ap, ra_st_lo, nI_add, nI_clamp, nI_ltI, nI_leI, nI_eq, Option.bind_some, if_true, if_false, not_false_eq_true, not_true_eq_false, ra_ltT, ra_ltF, ra_leT, ra_leF, ra_eqT, ra_eqF, or_false, false_or, or_true, true_or, and_true, true_and, and_false, false_and, rc_refuse]
      · simp (disch := omega) only [↓reduceIte, ra_lit, ra_nf_ap, ra_st_lo, nI_add, nI_clamp, nI_ltI, nI_leI, nI_eq, Option.bind_some, if_true, if_false, not_false_eq_true, not_true_eq_false, ra_ltT, ra_ltF, ra_leT, ra_leF, ra_eqT, ra_eqF, or_false, false_or, or_true, true_or, and_true, true_and, and_false, false_and, rr_isInP, if_neg hj0, rr_no]
end RASimple
end
section
/-! more calls without a loop -/
section RASimple2
theorem ra_nLe {p : Int32} {a : Nat} (h : p < nI 0) (ha : a < 2 ^ 31) : (nI a ≤ p) = False := eq_false fun z => by
  have h1 := Int32.lt_iff_toInt_lt.mp h
  have h2 := Int32.le_iff_toInt_le.mp z
  rw [nI_toInt ha] at h2
  have h3 : (nI 0).toInt = 0 := by decide
  omega
theorem ra_nLt {p : Int32} {a : Nat} (h : p < nI 0) (ha : a < 2 ^ 31) : (nI a < p) = False := eq_false fun z => by
  have h1 := Int32.lt_iff_toInt_lt.mp h
  have h2 := Int32.lt_iff_toInt_lt.mp z
  rw [nI_toInt ha] at h2
  have h3 : (nI 0).toInt = 0 := by decide
  omega
theorem ra_pLe {p : Int32} {a : Nat} (h : p < nI 0) (ha : a < 2 ^ 31) : (p ≤ nI a) = True := eq_true (by
  have h1 := Int32.lt_iff_toInt_lt.mp h
  apply Int32.le_iff_toInt_le.mpr
  rw [nI_toInt ha]
  have h3 : (nI 0).toInt = 0 := by decide
  omega)
theorem ra_pLt {p : Int32} {a : Nat} (h : p < nI 0) (ha : a < 2 ^ 31) : (p < nI a) = True := eq_true (by
  have h1 := Int32.lt_iff_toInt_lt.mp h
  apply Int32.lt_iff_toInt_lt.mpr
  rw [nI_toInt ha]
  have h3 : (nI 0).toInt = 0 := by decide
  omega)
theorem ra_pEq {p : Int32} {a : Nat} (h : p < nI 0) (ha : a < 2 ^ 31) : (p = nI a) = False := eq_false fun z => by
  subst z
  exact absurd h (nI_nlt (by omega) ha)
theorem ra_a00 : rf_a0 0 = nI 100 := rfl
theorem ra_a01 : rf_a0 1 = nI 1 := rfl
theorem ra_a02 : rf_a0 2 = nI 0 := rfl
theorem ra_a03 : rf_a0 3 = nI 0 := rfl
theorem ra_a04 : rf_a0 4 = nI 0 := rfl
theorem ra_a10 : rf_a1 0 = nI 250 := rfl
theorem ra_a11 : rf_a1 1 = nI 9 := rfl
theorem ra_a12 : rf_a1 2 = nI 30 := rfl
theorem ra_a13 : rf_a1 3 = nI 20 := rfl
theorem ra_a14 : rf_a1 4 = nI 9 := rfl
/-- a number of the finger set -/
def ra_pl (k : Nat) : Nat := if k = 0 then 1 else if k = 1 then 2 else if k = 2 then 4 else if k = 3 then 5 else 7
theorem tm_set {γ κ τ : Nat → Nat} (G M φ : Nat → Nat) (h : ra_ok γ κ τ) (p1 p2 : Int32) :
    ∃ r γ' φ', f_X2_set (ra_nf G) (ra_nf γ) (ra_nf φ) p1 p2 = some (r, ra_nf γ', ra_nf φ') ∧ f_X3_set (ra_nf M) (ra_st γ κ τ) (ra_nf φ) p1 p2 = some (r, ra_st γ' κ τ, ra_nf φ') ∧ ra_ok γ' κ τ ∧ γ' 8 = γ 8 := by
  have h' := h
  obtain ⟨h0, h1, h2, h3, h4, h5, h6, h7, h8, h9, h10, h11⟩ := h
  unfold f_X2_set f_X3_set
  by_cases hp : p1 < nI 0
  · refine ⟨-nI 2, γ, ra_rf φ 2, ?_, ?_, h', rfl⟩
    · simp (disch := omega) only [↓reduceIte, ra_lit, ra_nf_ap, ra_st_lo, nI_add, nI_clamp, nI_ltI, nI_leI, nI_eq, Option.bind_some, if_true, if_false, not_false_eq_true, not_true_eq_false, ra_ltT, ra_ltF, ra_leT, ra_leF, ra_eqT, ra_eqF, or_false, false_or, or_true, true_or, and_true, true_and, and_false, false_and, if_pos hp, rc_refuse]
    · rw [show f_X3_isIn p1 0 4 = some (nI 0) from rr_isInN (lo := 0) hp (by decide), Option.bind_some, if_pos (show nI 0 = 0 from rfl)]
      simp (disch := omega) only [↓reduceIte, ra_lit, ra_nf_ap, ra_st_lo, nI_add, nI_clamp, nI_ltI, nI_leI, nI_eq, Option.bind_some, if_true, if_false, not_false_eq_true, not_true_eq_false, ra_ltT, ra_ltF, ra_leT, ra_leF, ra_eqT, ra_eqF, or_false, false_or, or_true, true_or, and_true, true_and, and_false, false_and, rr_no]
  · obtain ⟨k, hk, rfl⟩ := nI_of (x := p1) hp
    by_cases hk5 : k < 5
    · have hk5 : k = 0 ∨ k = 1 ∨ k = 2 ∨ k = 3 ∨ k = 4 := by omega
      by_cases hq : p2 < nI 0
      · refine ⟨-nI 4, γ, ra_rf φ 4, ?_, ?_, h', rfl⟩
        · rcases hk5 with rfl | rfl | rfl | rfl | rfl
          all_goals first | omega | simp (disch := omega) only [↓reduceIte, ra_lit, ra_nf_ap, ra_st_lo, nI_add, nI_clamp, nI_ltI, nI_leI, nI_eq, Option.bind_some, if_true, if_false, not_false_eq_true, not_true_eq_false, ra_ltT, ra_ltF, ra_leT, ra_leF, ra_eqT, ra_eqF, or_false, false_or, or_true, true_or, and_true, true_and, and_false, false_and, ra_at, ra_a00, ra_a01, ra_a02, ra_a03, ra_a04, ra_nLe hq, rc_refuse]
        · rcases hk5 with rfl | rfl | rfl | rfl | rfl
          all_goals first | omega | simp (disch := omega) only [↓reduceIte, ra_lit, ra_nf_ap, ra_st_lo, nI_add, nI_clamp, nI_ltI, nI_leI, nI_eq, Option.bind_some, if_true, if_false, not_false_eq_true, not_true_eq_false, ra_ltT, ra_ltF, ra_leT, ra_leF, ra_eqT, ra_eqF, or_false, false_or, or_true, true_or, and_true, true_and, and_false, false_and, rr_isIn, ra_nLe hq, rr_no]
      · obtain ⟨v, hv, rfl⟩ := nI_of (x := p2) hq
        have hlo : ∃ lo hi, (k = 0 → lo = 100 ∧ hi = 250) ∧ (k = 1 → lo = 1 ∧ hi = 9) ∧ (k = 2 → lo = 0 ∧ hi = 30) ∧ (k = 3 → lo = 0 ∧ hi = 20) ∧ (k = 4 → lo = 0 ∧ hi = 9) := by
          rcases hk5 with rfl | rfl | rfl | rfl | rfl
          · exact ⟨100, 250, by omega, by omega, by omega, by omega, by omega⟩
          · exact ⟨1, 9, by omega, by omega, by omega, by omega, by omega⟩
          · exact ⟨0, 30, by omega, by omega, by omega, by omega, by omega⟩
          · exact ⟨0, 20, by omega, by omega, by omega, by omega, by omega⟩
          · exact ⟨0, 9, by omega, by omega, by omega, by omega, by omega⟩
        obtain ⟨lo, hi, b0, b1, b2, b3, b4⟩ := hlo
        by_cases cl : v < lo
        · refine ⟨-nI 4, γ, ra_rf φ 4, ?_, ?_, h', rfl⟩
          · rcases hk5 with rfl | rfl | rfl | rfl | rfl
            all_goals first | omega | simp (disch := omega) only [↓reduceIte, ra_lit, ra_nf_ap, ra_st_lo, nI_add, nI_clamp, nI_ltI, nI_leI, nI_eq, Option.bind_some, if_true, if_false, not_false_eq_true, not_true_eq_false, ra_ltT, ra_ltF, ra_leT, ra_leF, ra_eqT, ra_eqF, or_false, false_or, or_true, true_or, and_true, true_and, and_false, false_and, ra_at, ra_a00, ra_a01, ra_a02, ra_a03, ra_a04, rc_refuse]
          · rcases hk5 with rfl | rfl | rfl | rfl | rfl
            all_goals first | omega | simp (disch := omega) only [↓reduceIte, ra_lit, ra_nf_ap, ra_st_lo, nI_add, nI_clamp, nI_ltI, nI_leI, nI_eq, Option.bind_some, if_true, if_false, not_false_eq_true, not_true_eq_false, ra_ltT, ra_ltF, ra_leT, ra_leF, ra_eqT, ra_eqF, or_false, false_or, or_true, true_or, and_true, true_and, and_false, false_and, rr_isIn, rr_no]
        by_cases ch : hi < v
        · refine ⟨-nI 6, γ, ra_rf φ 6, ?_, ?_, h', rfl⟩
          · rcases hk5 with rfl | rfl | rfl | rfl | rfl
            all_goals first | omega | simp (disch := omega) only [↓reduceIte, ra_lit, ra_nf_ap, ra_st_lo, nI_add, nI_clamp, nI_ltI, nI_leI, nI_eq, Option.bind_some, if_true, if_false, not_false_eq_true, not_true_eq_false, ra_ltT, ra_ltF, ra_leT, ra_leF, ra_eqT, ra_eqF, or_false, false_or, or_true, true_or, and_true, true_and, and_false, false_and, ra_at, ra_a00, ra_a01, ra_a02, ra_a03, ra_a04, ra_a10, ra_a11, ra_a12, ra_a13, ra_a14, rc_refuse]
          · rcases hk5 with rfl | rfl | rfl | rfl | rfl
            all_goals first | omega | simp (disch := omega) only [↓reduceIte, ra_lit, ra_nf_ap, ra_st_lo, nI_add, nI_clamp, nI_ltI, nI_leI, nI_eq, Option.bind_some, if_true, if_false, not_false_eq_true, not_true_eq_false, ra_ltT, ra_ltF, ra_leT, ra_leF, ra_eqT, ra_eqF, or_false, false_or, or_true, true_or, and_true, true_and, and_false, false_and, rr_isIn, rr_no]
        refine ⟨nI (γ (ra_pl k)), ra_un γ (ra_pl k) v, φ, ?_, ?_, ?_, ?_⟩
        · rcases hk5 with rfl | rfl | rfl | rfl | rfl
          all_goals first | omega | simp (disch := omega) only [↓reduceIte, ra_lit, ra_nf_ap, ra_st_lo, nI_add, nI_clamp, nI_ltI, nI_leI, nI_eq, Option.bind_some, if_true, if_false, not_false_eq_true, not_true_eq_false, ra_ltT, ra_ltF, ra_leT, ra_leF, ra_eqT, ra_eqF, or_false, false_or, or_true, true_or, and_true, true_and, and_false, false_and, ra_at, ra_a00, ra_a01, ra_a02, ra_a03, ra_a04, ra_a10, ra_a11, ra_a12, ra_a13, ra_a14, f_X0_setting, f_X0_change, ra_upd, ra_pl]
        · rcases hk5 with rfl | rfl | rfl | rfl | rfl
          all_goals first | omega | simp (disch := omega) only [↓reduceIte, ra_lit, ra_nf_ap, ra_st_lo, nI_add, nI_clamp, nI_ltI, nI_leI, nI_eq, Option.bind_some, if_true, if_false, not_false_eq_true, not_true_eq_false, ra_ltT, ra_ltF, ra_leT, ra_leF, ra_eqT, ra_eqF, or_false, false_or, or_true, true_or, and_true, true_and, and_false, false_and, rr_isIn, f_X3_placeOf, ra_st_u, ra_pl]
        · rcases hk5 with rfl | rfl | rfl | rfl | rfl
          · exact ⟨h0, h1, by show 100 ≤ v; omega, by show v ≤ 250; omega, h4, h5, h6, h7, h8, h9, h10, h11⟩
          · exact ⟨h0, h1, h2, h3, by show 1 ≤ v; omega, by show v ≤ 9; omega, h6, h7, h8, h9, h10, h11⟩
          · exact ⟨h0, h1, h2, h3, h4, h5, by show v ≤ 30; omega, h7, h8, h9, h10, h11⟩
          · exact ⟨h0, h1, h2, h3, h4, h5, h6, by show v ≤ 20; omega, h8, h9, h10, h11⟩
          · exact ⟨h0, h1, h2, h3, h4, h5, h6, h7, h8, by show v ≤ 9; omega, h10, h11⟩
        · rcases hk5 with rfl | rfl | rfl | rfl | rfl
          all_goals rfl
    · refine ⟨-nI 2, γ, ra_rf φ 2, ?_, ?_, h', rfl⟩
      · simp (disch := omega) only [↓reduceIte, ra_lit, ra_nf_ap, ra_st_lo, nI_add, nI_clamp, nI_ltI, nI_leI, nI_eq, Option.bind_some, if_true, if_false, not_false_eq_true, not_true_eq_false, ra_ltT, ra_ltF, ra_leT, ra_leF, ra_eqT, ra_eqF, or_false, false_or, or_true, true_or, and_true, true_and, and_false, false_and, rc_refuse]
      · simp (disch := omega) only [↓reduceIte, ra_lit, ra_nf_ap, ra_st_lo, nI_add, nI_clamp, nI_ltI, nI_leI, nI_eq, Option.bind_some, if_true, if_false, not_false_eq_true, not_true_eq_false, ra_ltT, ra_ltF, ra_leT, ra_leF, ra_eqT, ra_eqF, or_false, false_or, or_true, true_or, and_true, true_and, and_false, false_and, rr_isIn, rr_no]
theorem tm_back {γ κ τ : Nat → Nat} (G M : Nat → Nat) (h : ra_ok γ κ τ) :
    ∃ γ', f_X2_back (ra_nf G) (ra_nf γ) = some (nI (γ 3), ra_nf γ') ∧ f_X3_back (ra_nf M) (ra_st γ κ τ) = some (nI (γ 3), ra_st γ' κ τ) ∧ ra_ok γ' κ τ ∧ γ' 8 = γ 8 := by
  obtain ⟨h0, h1, h2⟩ := h
  refine ⟨ra_un γ 3 0, ?_, ?_, ⟨h0, Nat.zero_le _, h2⟩, rfl⟩
  · unfold f_X2_back
    simp (disch := omega) only [↓reduceIte, ra_lit, ra_nf_ap, ra_st_lo, nI_add, nI_clamp, nI_ltI, nI_leI, nI_eq, Option.bind_some, if_true, if_false, not_false_eq_true, not_true_eq_false, ra_ltT, ra_ltF, ra_leT, ra_leF, ra_eqT, ra_eqF, or_false, false_or, or_true, true_or, and_true, true_and, and_false, false_and, ra_upd]
  · unfold f_X3_back
    simp (disch := omega) only [↓reduceIte, ra_lit, ra_nf_ap, ra_st_lo, nI_add, nI_clamp, nI_ltI, nI_leI, nI_eq, Option.bind_some, if_true, if_false, not_false_eq_true, not_true_eq_false, ra_ltT, ra_ltF, ra_leT, ra_leF, ra_eqT, ra_eqF, or_false, false_or, or_true, true_or, and_true, true_and, and_false, false_and, ra_st_u]
theorem tm_kind {γ κ τ : Nat → Nat} (G M φ : Nat → Nat) (h : ra_ok γ κ τ) (p1 p2 : Int32) :
    ∃ r φ', f_X2_kind (ra_nf G) (ra_nf γ) (ra_nf φ) p1 p2 = some (r, ra_nf φ') ∧ f_X3_kind (ra_nf M) (ra_st γ κ τ) (ra_nf φ) p1 p2 = some (r, ra_nf φ') := by
  have h' := h
  obtain ⟨h0, h1, h2, h3, h4, h5, h6, h7, h8, h9, h10, h11⟩ := h
  have hal : ∀ k, k < 7 → f_X3_allows (ra_nf M) (ra_st γ κ τ) (nI k) = some (nI (ra_al k (γ 2))) := fun k hk => ra_alR (ra_nf M) (ra_jn γ κ τ) (by omega) h5
  unfold f_X2_kind f_X3_kind
  rcases ra_try p1 with ⟨k, hk, rfl, e1, e2⟩ | ⟨e1, e2⟩
  · rw [e1, e2]
    by_cases hq : p2 < nI 0
    · refine ⟨-nI 2, ra_rf φ 2, ?_, ?_⟩
      · simp (disch := omega) only [↓reduceIte, ra_lit, ra_nf_ap, ra_st_lo, nI_add, nI_clamp, nI_ltI, nI_leI, nI_eq, Option.bind_some, if_true, if_false, not_false_eq_true, not_true_eq_false, ra_ltT, ra_ltF, ra_leT, ra_leF, ra_eqT, ra_eqF, or_false, false_or, or_true, true_or, and_true, true_and, and_false, false_and, ra_pEq hq, rc_refuse]
      · simp (disch := omega) only [↓reduceIte, ra_lit, ra_nf_ap, ra_st_lo, nI_add, nI_clamp, nI_ltI, nI_leI, nI_eq, Option.bind_some, if_true, if_false, not_false_eq_true, not_true_eq_false, ra_ltT, ra_ltF, ra_leT, ra_leF, ra_eqT, ra_eqF, or_false, false_or, or_true, true_or, and_true, true_and, and_false, false_and, rr_isInN hq, rr_no]
    · obtain ⟨v, hv, rfl⟩ := nI_of (x := p2) hq
      by_cases v4 : v < 4
      · have v4 : v = 0 ∨ v = 1 ∨ v = 2 ∨ v = 3 := by omega
        refine ⟨nI (if v = 0 then ra_al k (γ 2) else if v = 1 then ra_mi k else if v = 2 then ra_sw k else ra_hm k), φ, ?_, ?_⟩
        · rcases v4 with rfl | rfl | rfl | rfl
          all_goals first | omega | simp (disch := omega) only [↓reduceIte, ra_lit, ra_nf_ap, ra_st_lo, nI_add, nI_clamp, nI_ltI, nI_leI, nI_eq, Option.bind_some, if_true, if_false, not_false_eq_true, not_true_eq_false, ra_ltT, ra_ltF, ra_leT, ra_leF, ra_eqT, ra_eqF, or_false, false_or, or_true, true_or, and_true, true_and, and_false, false_and, ra_alC, ra_at, ra_a2, ra_a3, ra_a4]
        · rcases v4 with rfl | rfl | rfl | rfl
          all_goals first | omega | simp (disch := omega) only [↓reduceIte, ra_lit, ra_nf_ap, ra_st_lo, nI_add, nI_clamp, nI_ltI, nI_leI, nI_eq, Option.bind_some, if_true, if_false, not_false_eq_true, not_true_eq_false, ra_ltT, ra_ltF, ra_leT, ra_leF, ra_eqT, ra_eqF, or_false, false_or, or_true, true_or, and_true, true_and, and_false, false_and, rr_isIn, hal, ra_miR, ra_swR, ra_hmR]
      · refine ⟨-nI 2, ra_rf φ 2, ?_, ?_⟩
        · simp (disch := omega) only [↓reduceIte, ra_lit, ra_nf_ap, ra_st_lo, nI_add, nI_clamp, nI_ltI, nI_leI, nI_eq, Option.bind_some, if_true, if_false, not_false_eq_true, not_true_eq_false, ra_ltT, ra_ltF, ra_leT, ra_leF, ra_eqT, ra_eqF, or_false, false_or, or_true, true_or, and_true, true_and, and_false, false_and, rc_refuse]
        · simp (disch := omega) only [↓reduceIte, ra_lit, ra_nf_ap, ra_st_lo, nI_add, nI_clamp, nI_ltI, nI_leI, nI_eq, Option.bind_some, if_true, if_false, not_false_eq_true, not_true_eq_false, ra_ltT, ra_ltF, ra_leT, ra_leF, ra_eqT, ra_eqF, or_false, false_or, or_true, true_or, and_true, true_and, and_false, false_and, rr_isIn, rr_no]
  · rw [e1, e2]
    refine ⟨-nI 2, ra_rf φ 2, ?_, ?_⟩
    · simp (disch := omega) only [↓reduceIte, ra_lit, ra_nf_ap, ra_st_lo, nI_add, nI_clamp, nI_ltI, nI_leI, nI_eq, Option.bind_some, if_true, if_false, not_false_eq_true, not_true_eq_false, ra_ltT, ra_ltF, ra_leT, ra_leF, ra_eqT, ra_eqF, or_false, false_or, or_true, true_or, and_true, true_and, and_false, false_and, rc_refuse]
    · simp (disch := omega) only [↓reduceIte, ra_lit, ra_nf_ap, ra_st_lo, nI_add, nI_clamp, nI_ltI, nI_leI, nI_eq, Option.bind_some, if_true, if_false, not_false_eq_true, not_true_eq_false, ra_ltT, ra_ltF, ra_leT, ra_leF, ra_eqT, ra_eqF, or_false, false_or, or_true, true_or, and_true, true_and, and_false, false_and, rr_no]
theorem ra_nzF {c : Nat} (h : c = 2 ∨ c = 3) : (-nI c = nI 0) = False := eq_false (ra_nz h)
theorem tm_would {γ κ τ : Nat → Nat} (G M φ : Nat → Nat) (h : ra_ok γ κ τ) (p : Int32) :
    ∃ r φ', f_X2_would (ra_nf G) (ra_nf γ) (ra_nf κ) (ra_nf τ) (ra_nf φ) p = some (r, ra_nf φ') ∧ f_X3_would (ra_nf M) (ra_st γ κ τ) (ra_nf φ) p = some (r, ra_nf φ') := by
  unfold f_X2_would f_X3_would
  rcases ra_wrong G M φ h p with ⟨k, hk, rfl, ho, e1, e2⟩ | ⟨c, hc, e1, e2⟩
  · refine ⟨nI (if ra_ov γ κ τ k then 1 else 0), φ, ?_, ?_⟩
    · rw [e1]
      simp (disch := omega) only [↓reduceIte, ra_lit, ra_nf_ap, ra_st_lo, nI_add, nI_clamp, nI_ltI, nI_leI, nI_eq, Option.bind_some, if_true, if_false, not_false_eq_true, not_true_eq_false, ra_ltT, ra_ltF, ra_leT, ra_leF, ra_eqT, ra_eqF, or_false, false_or, or_true, true_or, and_true, true_and, and_false, false_and, rc_over h]
      split <;> rfl
    · rw [e2]
      simp (disch := omega) only [↓reduceIte, ra_lit, ra_nf_ap, ra_st_lo, nI_add, nI_clamp, nI_ltI, nI_leI, nI_eq, Option.bind_some, if_true, if_false, not_false_eq_true, not_true_eq_false, ra_ltT, ra_ltF, ra_leT, ra_leF, ra_eqT, ra_eqF, or_false, false_or, or_true, true_or, and_true, true_and, and_false, false_and, rr_would h (k := k) (by omega) ho]
      split <;> rfl
  · refine ⟨-nI c, ra_rf φ c, ?_, ?_⟩
    · rw [e1]
      simp (disch := omega) only [↓reduceIte, ra_lit, ra_nf_ap, ra_st_lo, nI_add, nI_clamp, nI_ltI, nI_leI, nI_eq, Option.bind_some, if_true, if_false, not_false_eq_true, not_true_eq_false, ra_ltT, ra_ltF, ra_leT, ra_leF, ra_eqT, ra_eqF, or_false, false_or, or_true, true_or, and_true, true_and, and_false, false_and, ra_nzF hc]
    · rw [e2]
      have : c < 7 := by omega
      simp (disch := omega) only [↓reduceIte, ra_lit, ra_nf_ap, ra_st_lo, nI_add, nI_clamp, nI_ltI, nI_leI, nI_eq, Option.bind_some, if_true, if_false, not_false_eq_true, not_true_eq_false, ra_ltT, ra_ltF, ra_leT, ra_leF, ra_eqT, ra_eqF, or_false, false_or, or_true, true_or, and_true, true_and, and_false, false_and, ra_nzF hc, rr_no]
theorem tm_tries {γ κ τ : Nat → Nat} (G M φ : Nat → Nat) (h : ra_ok γ κ τ) (hm : γ 8 ≤ 999) (p : Int32) :
    ∃ r γ' φ', f_X2_tries (ra_nf G) (ra_nf γ) (ra_nf κ) (ra_nf τ) (ra_nf φ) p = some (r, ra_nf γ', ra_nf φ') ∧ f_X3_tries (ra_nf M) (ra_st γ κ τ) (ra_nf φ) p = some (r, ra_st γ' κ τ, ra_nf φ') ∧ ra_ok γ' κ τ ∧ γ' 8 ≤ 999 := by
  unfold f_X2_tries f_X3_tries
  rcases ra_wrong G M φ h p with ⟨k, hk, rfl, ho, e1, e2⟩ | ⟨c, hc, e1, e2⟩
  · have hmi := ra_mi_le k
    rw [e1, e2]
    by_cases hmm : γ 8 + ra_mi k ≤ 999
    · refine ⟨nI (if ra_ov γ κ τ k then 1 else 0), ra_tr γ κ τ k, φ, ?_, ?_, ra_tr_ok h ho, ?_⟩
      · simp (disch := omega) only [↓reduceIte, ra_lit, ra_nf_ap, ra_st_lo, nI_add, nI_clamp, nI_ltI, nI_leI, nI_eq, Option.bind_some, if_true, if_false, not_false_eq_true, not_true_eq_false, ra_ltT, ra_ltF, ra_leT, ra_leF, ra_eqT, ra_eqF, or_false, false_or, or_true, true_or, and_true, true_and, and_false, false_and, ra_at, ra_a2, rc_hasMin, if_pos hmm, rc_attempt h hk ho]
        split <;> rfl
      · simp (disch := omega) only [↓reduceIte, ra_lit, ra_nf_ap, ra_st_lo, nI_add, nI_clamp, nI_ltI, nI_leI, nI_eq, Option.bind_some, if_true, if_false, not_false_eq_true, not_true_eq_false, ra_ltT, ra_ltF, ra_leT, ra_leF, ra_eqT, ra_eqF, or_false, false_or, or_true, true_or, and_true, true_and, and_false, false_and, ra_miR, if_pos hmm, rr_tried h hk ho]
        split <;> rfl
      · unfold ra_tr
        split
        · exact hmm
        · exact hmm
    · refine ⟨-nI 6, γ, ra_rf φ 6, ?_, ?_, h, hm⟩
      · simp (disch := omega) only [↓reduceIte, ra_lit, ra_nf_ap, ra_st_lo, nI_add, nI_clamp, nI_ltI, nI_leI, nI_eq, Option.bind_some, if_true, if_false, not_false_eq_true, not_true_eq_false, ra_ltT, ra_ltF, ra_leT, ra_leF, ra_eqT, ra_eqF, or_false, false_or, or_true, true_or, and_true, true_and, and_false, false_and, ra_at, ra_a2, rc_hasMin, if_neg hmm, rc_refuse]
      · simp (disch := omega) only [↓reduceIte, ra_lit, ra_nf_ap, ra_st_lo, nI_add, nI_clamp, nI_ltI, nI_leI, nI_eq, Option.bind_some, if_true, if_false, not_false_eq_true, not_true_eq_false, ra_ltT, ra_ltF, ra_leT, ra_leF, ra_eqT, ra_eqF, or_false, false_or, or_true, true_or, and_true, true_and, and_false, false_and, ra_miR, if_neg hmm, rr_no]
  · refine ⟨-nI c, γ, ra_rf φ c, ?_, ?_, h, hm⟩
    · rw [e1]
      simp (disch := omega) only [↓reduceIte, ra_lit, ra_nf_ap, ra_st_lo, nI_add, nI_clamp, nI_ltI, nI_leI, nI_eq, Option.bind_some, if_true, if_false, not_false_eq_true, not_true_eq_false, ra_ltT, ra_ltF, ra_leT, ra_leF, ra_eqT, ra_eqF, or_false, false_or, or_true, true_or, and_true, true_and, and_false, false_and, ra_nzF hc]
    · rw [e2]
      have : c < 7 := by omega
      simp (disch := omega) only [↓reduceIte, ra_lit, ra_nf_ap, ra_st_lo, nI_add, nI_clamp, nI_ltI, nI_leI, nI_eq, Option.bind_some, if_true, if_false, not_false_eq_true, not_true_eq_false, ra_ltT, ra_ltF, ra_leT, ra_leF, ra_eqT, ra_eqF, or_false, false_or, or_true, true_or, and_true, true_and, and_false, false_and, ra_nzF hc, rr_no]
theorem tm_pause {γ κ τ : Nat → Nat} (G M φ : Nat → Nat) (h : ra_ok γ κ τ) (hm : γ 8 ≤ 999) (p : Int32) :
    ∃ r γ' φ', f_X2_pause (ra_nf G) (ra_nf γ) (ra_nf φ) p = some (r, ra_nf γ', ra_nf φ') ∧ f_X3_pause (ra_nf M) (ra_st γ κ τ) (ra_nf φ) p = some (r, ra_st γ' κ τ, ra_nf φ') ∧ ra_ok γ' κ τ ∧ γ' 8 ≤ 999 := by
  have h' := h
  obtain ⟨h0, h1, h2, h3, h4, h5, h6, h7, h8, h9, h10, h11⟩ := h
  unfold f_X2_pause f_X3_pause
  by_cases hp : p < nI 0
  · refine ⟨-nI 4, γ, ra_rf φ 4, ?_, ?_, h', hm⟩
    · simp (disch := omega) only [↓reduceIte, ra_lit, ra_nf_ap, ra_st_lo, nI_add, nI_clamp, nI_ltI, nI_leI, nI_eq, Option.bind_some, if_true, if_false, not_false_eq_true, not_true_eq_false, ra_ltT, ra_ltF, ra_leT, ra_leF, ra_eqT, ra_eqF, or_false, false_or, or_true, true_or, and_true, true_and, and_false, false_and, ra_nLe hp, rc_refuse]
    · simp (disch := omega) only [↓reduceIte, ra_lit, ra_nf_ap, ra_st_lo, nI_add, nI_clamp, nI_ltI, nI_leI, nI_eq, Option.bind_some, if_true, if_false, not_false_eq_true, not_true_eq_false, ra_ltT, ra_ltF, ra_leT, ra_leF, ra_eqT, ra_eqF, or_false, false_or, or_true, true_or, and_true, true_and, and_false, false_and, ra_nLe hp, rr_no]
  · obtain ⟨v, hv, rfl⟩ := nI_of (x := p) hp
    by_cases v1 : v < 1
    · refine ⟨-nI 4, γ, ra_rf φ 4, ?_, ?_, h', hm⟩
      · simp (disch := omega) only [↓reduceIte, ra_lit, ra_nf_ap, ra_st_lo, nI_add, nI_clamp, nI_ltI, nI_leI, nI_eq, Option.bind_some, if_true, if_false, not_false_eq_true, not_true_eq_false, ra_ltT, ra_ltF, ra_leT, ra_leF, ra_eqT, ra_eqF, or_false, false_or, or_true, true_or, and_true, true_and, and_false, false_and, rc_refuse]
      · simp (disch := omega) only [↓reduceIte, ra_lit, ra_nf_ap, ra_st_lo, nI_add, nI_clamp, nI_ltI, nI_leI, nI_eq, Option.bind_some, if_true, if_false, not_false_eq_true, not_true_eq_false, ra_ltT, ra_ltF, ra_leT, ra_leF, ra_eqT, ra_eqF, or_false, false_or, or_true, true_or, and_true, true_and, and_false, false_and, rr_no]
    by_cases v60 : 60 < v
    · refine ⟨-nI 6, γ, ra_rf φ 6, ?_, ?_, h', hm⟩
      · simp (disch := omega) only [↓reduceIte, ra_lit, ra_nf_ap, ra_st_lo, nI_add, nI_clamp, nI_ltI, nI_leI, nI_eq, Option.bind_some, if_true, if_false, not_false_eq_true, not_true_eq_false, ra_ltT, ra_ltF, ra_leT, ra_leF, ra_eqT, ra_eqF, or_false, false_or, or_true, true_or, and_true, true_and, and_false, false_and, rc_refuse]
      · simp (disch := omega) only [↓reduceIte, ra_lit, ra_nf_ap, ra_st_lo, nI_add, nI_clamp, nI_ltI, nI_leI, nI_eq, Option.bind_some, if_true, if_false, not_false_eq_true, not_true_eq_false, ra_ltT, ra_ltF, ra_leT, ra_leF, ra_eqT, ra_eqF, or_false, false_or, or_true, true_or, and_true, true_and, and_false, false_and, rr_no]
    by_cases hmm : γ 8 + v ≤ 999
    · refine ⟨nI (γ 8 + v), ra_wt γ v, φ, ?_, ?_, ra_wt_ok h', hmm⟩
      · simp (disch := omega) only [↓reduceIte, ra_lit, ra_nf_ap, ra_st_lo, nI_add, nI_clamp, nI_ltI, nI_leI, nI_eq, Option.bind_some, if_true, if_false, not_false_eq_true, not_true_eq_false, ra_ltT, ra_ltF, ra_leT, ra_leF, ra_eqT, ra_eqF, or_false, false_or, or_true, true_or, and_true, true_and, and_false, false_and, rc_hasMin, if_pos hmm, rc_rest]
        rfl
      · simp (disch := omega) only [↓reduceIte, ra_lit, ra_nf_ap, ra_st_lo, nI_add, nI_clamp, nI_ltI, nI_leI, nI_eq, Option.bind_some, if_true, if_false, not_false_eq_true, not_true_eq_false, ra_ltT, ra_ltF, ra_leT, ra_leF, ra_eqT, ra_eqF, or_false, false_or, or_true, true_or, and_true, true_and, and_false, false_and, if_pos hmm, rr_waits]
        rfl
    · refine ⟨-nI 6, γ, ra_rf φ 6, ?_, ?_, h', hm⟩
      · simp (disch := omega) only [↓reduceIte, ra_lit, ra_nf_ap, ra_st_lo, nI_add, nI_clamp, nI_ltI, nI_leI, nI_eq, Option.bind_some, if_true, if_false, not_false_eq_true, not_true_eq_false, ra_ltT, ra_ltF, ra_leT, ra_leF, ra_eqT, ra_eqF, or_false, false_or, or_true, true_or, and_true, true_and, and_false, false_and, rc_hasMin, if_neg hmm, rc_refuse]
      · simp (disch := omega) only [↓reduceIte, ra_lit, ra_nf_ap, ra_st_lo, nI_add, nI_clamp, nI_ltI, nI_leI, nI_eq, Option.bind_some, if_true, if_false, not_false_eq_true, not_true_eq_false, ra_ltT, ra_ltF, ra_leT, ra_leF, ra_eqT, ra_eqF, or_false, false_or, or_true, true_or, and_true, true_and, and_false, false_and, if_neg hmm, rr_no]
theorem tm_holds {γ κ τ : Nat → Nat} (G M : Nat → Nat) (h : ra_ok γ κ τ) :
    ∃ r, f_X2_holds (ra_nf G) (ra_nf γ) (ra_nf κ) (ra_nf τ) = some r ∧ f_X3_holds (ra_nf M) (ra_st γ κ τ) = some r := by
  have h' := h
  obtain ⟨h0, h1, h2, h3, h4, h5, h6, h7, h8, h9, h10, h11⟩ := h
  unfold f_X2_holds f_X3_holds
  rw [rc_isOff γ (by omega) (by omega), rr_isOff M γ κ τ (by omega) (by omega)]
  by_cases ho : γ 3 < γ 0
  · simp (disch := omega) only [↓reduceIte, ra_lit, ra_nf_ap, ra_st_lo, nI_add, nI_clamp, nI_ltI, nI_leI, nI_eq, Option.bind_some, if_true, if_false, not_false_eq_true, not_true_eq_false, ra_ltT, ra_ltF, ra_leT, ra_leF, ra_eqT, ra_eqF, or_false, false_or, or_true, true_or, and_true, true_and, and_false, false_and, if_pos ho, rc_thickNow h', rr_nowOf h']
    exact ⟨_, rfl, rfl⟩
  · simp (disch := omega) only [↓reduceIte, ra_lit, ra_nf_ap, ra_st_lo, nI_add, nI_clamp, nI_ltI, nI_leI, nI_eq, Option.bind_some, if_true, if_false, not_false_eq_true, not_true_eq_false, ra_ltT, ra_ltF, ra_leT, ra_leF, ra_eqT, ra_eqF, or_false, false_or, or_true, true_or, and_true, true_and, and_false, false_and, if_neg ho]
    exact ⟨_, rfl, rfl⟩
theorem tm_danger {γ κ τ : Nat → Nat} (G M φ : Nat → Nat) (h : ra_ok γ κ τ) (p : Int32) :
    ∃ r φ', f_X2_danger (ra_nf G) (ra_nf γ) (ra_nf φ) p = some (r, ra_nf φ') ∧ f_X3_danger (ra_nf M) (ra_st γ κ τ) (ra_nf φ) p = some (r, ra_nf φ') := by
  have h' := h
  obtain ⟨h0, h1, h2, h3, h4, h5, h6, h7, h8, h9, h10, h11⟩ := h
  unfold f_X2_danger f_X3_danger
  by_cases hp : p < nI 0
  · refine ⟨-nI 4, ra_rf φ 4, ?_, ?_⟩
    · simp (disch := omega) only [↓reduceIte, ra_lit, ra_nf_ap, ra_st_lo, nI_add, nI_clamp, nI_ltI, nI_leI, nI_eq, Option.bind_some, if_true, if_false, not_false_eq_true, not_true_eq_false, ra_ltT, ra_ltF, ra_leT, ra_leF, ra_eqT, ra_eqF, or_false, false_or, or_true, true_or, and_true, true_and, and_false, false_and, ra_nLe hp, rc_refuse]
    · simp (disch := omega) only [↓reduceIte, ra_lit, ra_nf_ap, ra_st_lo, nI_add, nI_clamp, nI_ltI, nI_leI, nI_eq, Option.bind_some, if_true, if_false, not_false_eq_true, not_true_eq_false, ra_ltT, ra_ltF, ra_leT, ra_leF, ra_eqT, ra_eqF, or_false, false_or, or_true, true_or, and_true, true_and, and_false, false_and, ra_nLe hp, rr_no]
  · obtain ⟨v, hv, rfl⟩ := nI_of (x := p) hp
    by_cases v9 : v ≤ 9
    · refine ⟨nI (min 99 (γ 6 + v * 5) - 9), φ, ?_, ?_⟩
      · simp (disch := omega) only [↓reduceIte, ra_lit, ra_nf_ap, ra_st_lo, nI_add, nI_clamp, nI_ltI, nI_leI, nI_eq, Option.bind_some, if_true, if_false, not_false_eq_true, not_true_eq_false, ra_ltT, ra_ltF, ra_leT, ra_leF, ra_eqT, ra_eqF, or_false, false_or, or_true, true_or, and_true, true_and, and_false, false_and, pk_mul, ra_mnn, ra_mx0]
      · simp (disch := omega) only [↓reduceIte, ra_lit, ra_nf_ap, ra_st_lo, nI_add, nI_clamp, nI_ltI, nI_leI, nI_eq, Option.bind_some, if_true, if_false, not_false_eq_true, not_true_eq_false, ra_ltT, ra_ltF, ra_leT, ra_leF, ra_eqT, ra_eqF, or_false, false_or, or_true, true_or, and_true, true_and, and_false, false_and, pk_mul, ra_least, ra_most, ra_mnn, ra_mx0, Nat.mul_comm 5 v]
    · refine ⟨-nI 6, ra_rf φ 6, ?_, ?_⟩
      · simp (disch := omega) only [↓reduceIte, ra_lit, ra_nf_ap, ra_st_lo, nI_add, nI_clamp, nI_ltI, nI_leI, nI_eq, Option.bind_some, if_true, if_false, not_false_eq_true, not_true_eq_false, ra_ltT, ra_ltF, ra_leT, ra_leF, ra_eqT, ra_eqF, or_false, false_or, or_true, true_or, and_true, true_and, and_false, false_and, rc_refuse]
      · simp (disch := omega) only [↓reduceIte, ra_lit, ra_nf_ap, ra_st_lo, nI_add, nI_clamp, nI_ltI, nI_leI, nI_eq, Option.bind_some, if_true, if_false, not_false_eq_true, not_true_eq_false, ra_ltT, ra_ltF, ra_leT, ra_leF, ra_eqT, ra_eqF, or_false, false_or, or_true, true_or, and_true, true_and, and_false, false_and, rr_no]
theorem tm_image {γ κ τ : Nat → Nat} (G M : Nat → Nat) (a b c d : Nat → Int32) :
    f_X2_image (ra_nf G) (ra_nf γ) (ra_nf κ) (ra_nf τ) a b c = some (nI (γ 8), ra_nf (ra_un G 2 1), ra_nf γ, ra_nf κ, ra_nf τ) ∧ f_X3_image (ra_nf M) (ra_st γ κ τ) d = some (nI (γ 8), ra_nf (ra_un M 0 1), ra_st γ κ τ) := by
  unfold f_X2_image f_X3_image
  constructor
  · simp (disch := omega) only [↓reduceIte, ra_lit, ra_nf_ap, ra_st_lo, nI_add, nI_clamp, nI_ltI, nI_leI, nI_eq, Option.bind_some, if_true, if_false, not_false_eq_true, not_true_eq_false, ra_ltT, ra_ltF, ra_leT, ra_leF, ra_eqT, ra_eqF, or_false, false_or, or_true, true_or, and_true, true_and, and_false, false_and, rc_copy, ra_upd]
  · simp (disch := omega) only [↓reduceIte, ra_lit, ra_nf_ap, ra_st_lo, nI_add, nI_clamp, nI_ltI, nI_leI, nI_eq, Option.bind_some, if_true, if_false, not_false_eq_true, not_true_eq_false, ra_ltT, ra_ltF, ra_leT, ra_leF, ra_eqT, ra_eqF, or_false, false_or, or_true, true_or, and_true, true_and, and_false, false_and, rr_lays, ra_upd]
theorem tm_on (G M φ : Nat → Nat) (a b c d e f s m : Nat → Int32) {I : Nat} (hG : G 2 = I) (hM : M 0 = I) (hI : I ≤ 1) :
    (I = 0 ∧ f_X2_on (ra_nf G) a b c d e f (ra_nf φ) = some (-nI 3, a, b, c, ra_nf (ra_rf φ 3)) ∧ f_X3_on (ra_nf M) s m (ra_nf φ) = some (-nI 3, s, ra_nf (ra_rf φ 3))) ∨
    (I = 1 ∧ f_X2_on (ra_nf G) a b c d e f (ra_nf φ) = some (d 8, d, e, f, ra_nf φ) ∧ f_X3_on (ra_nf M) s m (ra_nf φ) = some (m 8, m, ra_nf φ)) := by
  unfold f_X2_on f_X3_on
  have hI : I = 0 ∨ I = 1 := by omega
  rcases hI with rfl | rfl
  · left
    refine ⟨rfl, ?_, ?_⟩
    · simp (disch := omega) only [↓reduceIte, ra_lit, ra_nf_ap, ra_st_lo, nI_add, nI_clamp, nI_ltI, nI_leI, nI_eq, Option.bind_some, if_true, if_false, not_false_eq_true, not_true_eq_false, ra_ltT, ra_ltF, ra_leT, ra_leF, ra_eqT, ra_eqF, or_false, false_or, or_true, true_or, and_true, true_and, and_false, false_and, hG, rc_refuse]
    · simp (disch := omega) only [↓reduceIte, ra_lit, ra_nf_ap, ra_st_lo, nI_add, nI_clamp, nI_ltI, nI_leI, nI_eq, Option.bind_some, if_true, if_false, not_false_eq_true, not_true_eq_false, ra_ltT, ra_ltF, ra_leT, ra_leF, ra_eqT, ra_eqF, or_false, false_or, or_true, true_or, and_true, true_and, and_false, false_and, hM, rr_no]
  · right
    refine ⟨rfl, ?_, ?_⟩
    · simp (disch := omega) only [↓reduceIte, ra_lit, ra_nf_ap, ra_st_lo, nI_add, nI_clamp, nI_ltI, nI_leI, nI_eq, Option.bind_some, if_true, if_false, not_false_eq_true, not_true_eq_false, ra_ltT, ra_ltF, ra_leT, ra_leF, ra_eqT, ra_eqF, or_false, false_or, or_true, true_or, and_true, true_and, and_false, false_and, hG, rc_copy]
    · simp (disch := omega) only [↓reduceIte, ra_lit, ra_nf_ap, ra_st_lo, nI_add, nI_clamp, nI_ltI, nI_leI, nI_eq, Option.bind_some, if_true, if_false, not_false_eq_true, not_true_eq_false, ra_ltT, ra_ltF, ra_leT, ra_leF, ra_eqT, ra_eqF, or_false, false_or, or_true, true_or, and_true, true_and, and_false, false_and, hM, rr_lays]
theorem tm_count {γ κ τ : Nat → Nat} (G M φ : Nat → Nat) (h0 : G 0 = M 1) (h1 : G 1 = M 2) (p : Int32) :
    ∃ r, f_X2_count (ra_nf G) (ra_nf γ) (ra_nf φ) p = some r ∧ f_X3_count (ra_nf M) (ra_st γ κ τ) (ra_nf φ) p = some r := by
  unfold f_X2_count f_X3_count
  by_cases hp : p < nI 0
  · refine ⟨-nI 9, ?_, ?_⟩
    · simp (disch := omega) only [↓reduceIte, ra_lit, ra_nf_ap, ra_st_lo, nI_add, nI_clamp, nI_ltI, nI_leI, nI_eq, Option.bind_some, if_true, if_false, not_false_eq_true, not_true_eq_false, ra_ltT, ra_ltF, ra_leT, ra_leF, ra_eqT, ra_eqF, or_false, false_or, or_true, true_or, and_true, true_and, and_false, false_and, ra_pLe hp, ra_pEq hp]
    · simp (disch := omega) only [↓reduceIte, ra_lit, ra_nf_ap, ra_st_lo, nI_add, nI_clamp, nI_ltI, nI_leI, nI_eq, Option.bind_some, if_true, if_false, not_false_eq_true, not_true_eq_false, ra_ltT, ra_ltF, ra_leT, ra_leF, ra_eqT, ra_eqF, or_false, false_or, or_true, true_or, and_true, true_and, and_false, false_and, rr_isInN hp, ra_pEq hp]
  · obtain ⟨v, hv, rfl⟩ := nI_of (x := p) hp
    by_cases c : 11 ≤ v ∧ v ≤ 16
    · obtain ⟨c1, c2⟩ := c
      refine ⟨nI (φ (v - 10)), ?_, ?_⟩
      · simp (disch := omega) only [↓reduceIte, ra_lit, ra_nf_ap, ra_st_lo, nI_add, nI_clamp, nI_ltI, nI_leI, nI_eq, Option.bind_some, if_true, if_false, not_false_eq_true, not_true_eq_false, ra_ltT, ra_ltF, ra_leT, ra_leF, ra_eqT, ra_eqF, or_false, false_or, or_true, true_or, and_true, true_and, and_false, false_and, pk_sub, ra_at]
      · simp (disch := omega) only [↓reduceIte, ra_lit, ra_nf_ap, ra_st_lo, nI_add, nI_clamp, nI_ltI, nI_leI, nI_eq, Option.bind_some, if_true, if_false, not_false_eq_true, not_true_eq_false, ra_ltT, ra_ltF, ra_leT, ra_leF, ra_eqT, ra_eqF, or_false, false_or, or_true, true_or, and_true, true_and, and_false, false_and, rr_isIn, pk_sub]
    · by_cases c10 : v ≤ 10
      · have hv : v = 0 ∨ v = 1 ∨ v = 2 ∨ v = 3 ∨ v = 4 ∨ v = 5 ∨ v = 6 ∨ v = 7 ∨ v = 8 ∨ v = 9 ∨ v = 10 := by omega
        rcases hv with rfl | rfl | rfl | rfl | rfl | rfl | rfl | rfl | rfl | rfl | rfl
        all_goals
          simp (disch := omega) only [↓reduceIte, ra_lit, ra_nf_ap, ra_st_lo, nI_add, nI_clamp, nI_ltI, nI_leI, nI_eq, Option.bind_some, if_true, if_false, not_false_eq_true, not_true_eq_false, ra_ltT, ra_ltF, ra_leT, ra_leF, ra_eqT, ra_eqF, or_false, false_or, or_true, true_or, and_true, true_and, and_false, false_and, rr_isIn, h0, h1]
          exact ⟨_, rfl, rfl⟩
      · by_cases c17 : v = 17
        · subst c17
          simp (disch := omega) only [↓reduceIte, ra_lit, ra_nf_ap, ra_st_lo, nI_add, nI_clamp, nI_ltI, nI_leI, nI_eq, Option.bind_some, if_true, if_false, not_false_eq_true, not_true_eq_false, ra_ltT, ra_ltF, ra_leT, ra_leF, ra_eqT, ra_eqF, or_false, false_or, or_true, true_or, and_true, true_and, and_false, false_and, rr_isIn]
          exact ⟨_, rfl, rfl⟩
        · simp (disch := omega) only [↓reduceIte, ra_lit, ra_nf_ap, ra_st_lo, nI_add, nI_clamp, nI_ltI, nI_leI, nI_eq, Option.bind_some, if_true, if_false, not_false_eq_true, not_true_eq_false, ra_ltT, ra_ltF, ra_leT, ra_leF, ra_eqT, ra_eqF, or_false, false_or, or_true, true_or, and_true, true_and, and_false, false_and, rr_isIn]
          exact ⟨_, rfl, rfl⟩
end RASimple2
end
section
/-! goes, stop, waited, judge, lots -/
section RALoops
def ra_fail (κ τ : Nat → Nat) (k : Nat) : Nat → Nat → (Nat → Nat) → Nat
  | 0, n, _ => n
  | d + 1, n, γ => if ra_ov γ κ τ k then n else ra_fail κ τ k d (n + 1) (ra_wear γ k)
def ra_enc (r : Nat) : Int32 := if r < 13 then nI r else -nI 9
theorem ra_fail_le (κ τ : Nat → Nat) (k : Nat) : ∀ (d n : Nat) (γ : Nat → Nat), n ≤ ra_fail κ τ k d n γ ∧ ra_fail κ τ k d n γ ≤ n + d := by
  intro d
  induction d with
  | zero => intro n γ; exact ⟨Nat.le_refl _, Nat.le_refl _⟩
  | succ d ih =>
    intro n γ
    unfold ra_fail
    have := ih (n + 1) (ra_wear γ k)
    split <;> omega
theorem rc_faL {κ τ : Nat → Nat} (a b c e : Nat → Int32) {k : Nat} (hk : k < 7) : ∀ (d n m : Nat) (γ : Nat → Nat), n + d = 13 → d < m → ra_ok γ κ τ → γ 3 < γ 0 →
    ∃ γ', f_X2_failuresAhead_L13 a b c e (nI k) (ra_nf κ) (ra_nf τ) m (nI n) (ra_nf γ) = some (if ra_fail κ τ k d n γ < 13 then Sum.inl (nI (ra_fail κ τ k d n γ), ra_nf γ', ra_nf κ, ra_nf τ) else Sum.inr (nI 13, ra_nf γ')) := by
  intro d
  induction d with
  | zero =>
    intro n m γ hn hm h ho
    obtain ⟨m, rfl⟩ : ∃ q, m = q + 1 := ⟨m - 1, by omega⟩
    obtain rfl : n = 13 := by omega
    refine ⟨γ, ?_⟩
    rw [f_X2_failuresAhead_L13]
    simp (disch := omega) only [↓reduceIte, ra_lit, ra_nf_ap, ra_st_lo, nI_add, nI_clamp, nI_ltI, nI_leI, nI_eq, Option.bind_some, if_true, if_false, not_false_eq_true, not_true_eq_false, ra_ltT, ra_ltF, ra_leT, ra_leF, ra_eqT, ra_eqF, or_false, false_or, or_true, true_or, and_true, true_and, and_false, false_and, ra_fail]
  | succ d ih =>
    intro n m γ hn hm h ho
    obtain ⟨m, rfl⟩ : ∃ q, m = q + 1 := ⟨m - 1, by omega⟩
    have hf := ra_fail_le κ τ k d (n + 1) (ra_wear γ k)
    by_cases hov : ra_ov γ κ τ k
    · refine ⟨γ, ?_⟩
      rw [f_X2_failuresAhead_L13]
      simp (disch := omega) only [↓reduceIte, ra_lit, ra_nf_ap, ra_st_lo, nI_add, nI_clamp, nI_ltI, nI_leI, nI_eq, Option.bind_some, if_true, if_false, not_false_eq_true, not_true_eq_false, ra_ltT, ra_ltF, ra_leT, ra_leF, ra_eqT, ra_eqF, or_false, false_or, or_true, true_or, and_true, true_and, and_false, false_and, ra_fail, rc_over h, ho, if_pos hov]
    · obtain ⟨γ', h1⟩ := ih (n + 1) m (ra_wear γ k) (by omega) (by omega) (ra_wear_ok h) ho
      refine ⟨γ', ?_⟩
      rw [f_X2_failuresAhead_L13]
      obtain ⟨h0, h1', h2, h3, h4, h5, h6, h7, h8, h9, h10, h11⟩ := h
      simp (disch := omega) only [↓reduceIte, ra_lit, ra_nf_ap, ra_st_lo, nI_add, nI_clamp, nI_ltI, nI_leI, nI_eq, Option.bind_some, if_true, if_false, not_false_eq_true, not_true_eq_false, ra_ltT, ra_ltF, ra_leT, ra_leF, ra_eqT, ra_eqF, or_false, false_or, or_true, true_or, and_true, true_and, and_false, false_and, ra_fail, rc_over (show ra_ok γ κ τ from ⟨h0, h1', h2, h3, h4, h5, h6, h7, h8, h9, h10, h11⟩), ho, if_neg hov, rc_strain]
      exact h1
theorem rc_fa {γ κ τ : Nat → Nat} (a ta tb tc : Nat → Int32) {k : Nat} (hk : k < 7) (h : ra_ok γ κ τ) (ho : γ 3 < γ 0) :
    ∃ γ', f_X2_failuresAhead a (ra_nf γ) (ra_nf κ) (ra_nf τ) ta tb tc (nI k) = some (ra_enc (ra_fail κ τ k 13 0 γ), ra_nf γ', ra_nf κ, ra_nf τ) := by
  obtain ⟨γ', h1⟩ := rc_faL a (ra_nf γ) (ra_nf κ) (ra_nf τ) hk 13 0 rf_fu γ rfl (by unfold rf_fu; omega) h ho
  refine ⟨γ', ?_⟩
  unfold f_X2_failuresAhead
  rw [rc_copy, Option.bind_some]
  have h1 : f_X2_failuresAhead_L13 a (ra_nf γ) (ra_nf κ) (ra_nf τ) (nI k) (ra_nf κ) (ra_nf τ) rf_fu 0 (ra_nf γ) = _ := h1
  simp only [h1, Option.bind_some]
  unfold ra_enc
  split <;> rfl
theorem rr_goL {κ τ : Nat → Nat} (M : Nat → Nat) (mi : Nat → Int32) {k : Nat} (hk : k < 7) : ∀ (d n m : Nat) (γ : Nat → Nat), n + d = 13 → d + 1 < m → ra_ok γ κ τ → γ 3 < γ 0 →
    ∃ x γ', f_X3_goesBy_L9 (ra_nf M) (nI k) mi m (-nI 9) (nI n) (ra_st γ κ τ) = some (ra_enc (ra_fail κ τ k d n γ), x, ra_st γ' κ τ) := by
  intro d
  induction d with
  | zero =>
    intro n m γ hn hm h ho
    obtain ⟨m, rfl⟩ : ∃ q, m = q + 1 := ⟨m - 1, by omega⟩
    obtain rfl : n = 13 := by omega
    refine ⟨nI 13, γ, ?_⟩
    rw [f_X3_goesBy_L9]
    simp (disch := omega) only [↓reduceIte, ra_lit, ra_nf_ap, ra_st_lo, nI_add, nI_clamp, nI_ltI, nI_leI, nI_eq, Option.bind_some, if_true, if_false, not_false_eq_true, not_true_eq_false, ra_ltT, ra_ltF, ra_leT, ra_leF, ra_eqT, ra_eqF, or_false, false_or, or_true, true_or, and_true, true_and, and_false, false_and, ra_fail, ra_enc]
  | succ d ih =>
    intro n m γ hn hm h ho
    obtain ⟨m, rfl⟩ : ∃ q, m = q + 1 := ⟨m - 1, by omega⟩
    obtain ⟨h0, h1', h2, h3, h4, h5, h6, h7, h8, h9, h10, h11⟩ := id h
    have e9 : ¬ (0 : Int32) ≤ -nI 9 := by decide
    by_cases hov : ra_ov γ κ τ k
    · refine ⟨nI (n + 1), ra_wear γ k, ?_⟩
      obtain ⟨m, rfl⟩ : ∃ q, m = q + 1 := ⟨m - 1, by omega⟩
      rw [f_X3_goesBy_L9, if_neg (show ¬ (12 : Int32) < nI n from nI_nlt (a := 12) (by omega) (by decide)), if_neg e9]
      simp (disch := omega) only [↓reduceIte, ra_lit, ra_nf_ap, ra_st_lo, nI_add, nI_clamp, nI_ltI, nI_leI, nI_eq, Option.bind_some, if_true, if_false, not_false_eq_true, not_true_eq_false, ra_ltT, ra_ltF, ra_leT, ra_leF, ra_eqT, ra_eqF, or_false, false_or, or_true, true_or, and_true, true_and, and_false, false_and, rr_would h, ho, if_pos hov, rr_wears]
      rw [f_X3_goesBy_L9]
      by_cases c : n + 1 ≤ 12
      · simp (disch := omega) only [↓reduceIte, ra_lit, ra_nf_ap, ra_st_lo, nI_add, nI_clamp, nI_ltI, nI_leI, nI_eq, Option.bind_some, if_true, if_false, not_false_eq_true, not_true_eq_false, ra_ltT, ra_ltF, ra_leT, ra_leF, ra_eqT, ra_eqF, or_false, false_or, or_true, true_or, and_true, true_and, and_false, false_and, ra_fail, ra_enc, if_pos hov]
      · simp (disch := omega) only [↓reduceIte, ra_lit, ra_nf_ap, ra_st_lo, nI_add, nI_clamp, nI_ltI, nI_leI, nI_eq, Option.bind_some, if_true, if_false, not_false_eq_true, not_true_eq_false, ra_ltT, ra_ltF, ra_leT, ra_leF, ra_eqT, ra_eqF, or_false, false_or, or_true, true_or, and_true, true_and, and_false, false_and, ra_fail, ra_enc, if_pos hov]
    · obtain ⟨x, γ', h1⟩ := ih (n + 1) m (ra_wear γ k) (by omega) (by omega) (ra_wear_ok h) ho
      refine ⟨x, γ', ?_⟩
      rw [f_X3_goesBy_L9, if_neg (show ¬ (12 : Int32) < nI n from nI_nlt (a := 12) (by omega) (by decide)), if_neg e9]
      simp (disch := omega) only [↓reduceIte, ra_lit, ra_nf_ap, ra_st_lo, nI_add, nI_clamp, nI_ltI, nI_leI, nI_eq, Option.bind_some, if_true, if_false, not_false_eq_true, not_true_eq_false, ra_ltT, ra_ltF, ra_leT, ra_leF, ra_eqT, ra_eqF, or_false, false_or, or_true, true_or, and_true, true_and, and_false, false_and, rr_would h, ho, if_neg hov, rr_wears, ra_fail]
      exact h1
theorem rr_goesBy {γ κ τ : Nat → Nat} (M : Nat → Nat) (mi : Nat → Int32) {k : Nat} (hk : k < 7) (h : ra_ok γ κ τ) (ho : γ 3 < γ 0) :
    f_X3_goesBy (ra_nf M) (ra_st γ κ τ) mi (nI k) = some (ra_enc (ra_fail κ τ k 13 0 γ), ra_st γ κ τ, ra_st γ κ τ) := by
  obtain ⟨x, γ', h1⟩ := rr_goL M (ra_st γ κ τ) hk 13 0 rf_fu γ rfl (by unfold rf_fu; omega) h ho
  have h1 : f_X3_goesBy_L9 (ra_nf M) (nI k) (ra_st γ κ τ) rf_fu (-9) 0 (ra_st γ κ τ) = _ := h1
  unfold f_X3_goesBy f_X3_begins f_X3_ends
  simp only [rr_lays, Option.bind_some, h1]
theorem tm_goes {γ κ τ : Nat → Nat} (G M φ : Nat → Nat) (ta tb tc mi : Nat → Int32) (h : ra_ok γ κ τ) (p : Int32) :
    ∃ r a b c φ' mi', f_X2_goes (ra_nf G) (ra_nf γ) (ra_nf κ) (ra_nf τ) ta tb tc (ra_nf φ) p = some (r, a, b, c, ra_nf φ') ∧ f_X3_goes (ra_nf M) (ra_st γ κ τ) mi (ra_nf φ) p = some (r, ra_st γ κ τ, mi', ra_nf φ') := by
  unfold f_X2_goes f_X3_goes
  rcases ra_wrong G M φ h p with ⟨k, hk, rfl, ho, e1, e2⟩ | ⟨c, hc, e1, e2⟩
  · obtain ⟨γ', h1⟩ := rc_fa (ra_nf G) ta tb tc hk h ho
    refine ⟨ra_enc (ra_fail κ τ k 13 0 γ), ra_nf γ', ra_nf κ, ra_nf τ, φ, ra_st γ κ τ, ?_, ?_⟩
    · rw [e1]
      simp (disch := omega) only [↓reduceIte, ra_lit, ra_nf_ap, ra_st_lo, nI_add, nI_clamp, nI_ltI, nI_leI, nI_eq, Option.bind_some, if_true, if_false, not_false_eq_true, not_true_eq_false, ra_ltT, ra_ltF, ra_leT, ra_leF, ra_eqT, ra_eqF, or_false, false_or, or_true, true_or, and_true, true_and, and_false, false_and, h1]
    · rw [e2]
      simp (disch := omega) only [↓reduceIte, ra_lit, ra_nf_ap, ra_st_lo, nI_add, nI_clamp, nI_ltI, nI_leI, nI_eq, Option.bind_some, if_true, if_false, not_false_eq_true, not_true_eq_false, ra_ltT, ra_ltF, ra_leT, ra_leF, ra_eqT, ra_eqF, or_false, false_or, or_true, true_or, and_true, true_and, and_false, false_and, rr_goesBy M mi hk h ho]
  · refine ⟨-nI c, ta, tb, tc, ra_rf φ c, mi, ?_, ?_⟩
    · rw [e1]
      simp (disch := omega) only [↓reduceIte, ra_lit, ra_nf_ap, ra_st_lo, nI_add, nI_clamp, nI_ltI, nI_leI, nI_eq, Option.bind_some, if_true, if_false, not_false_eq_true, not_true_eq_false, ra_ltT, ra_ltF, ra_leT, ra_leF, ra_eqT, ra_eqF, or_false, false_or, or_true, true_or, and_true, true_and, and_false, false_and, ra_nzF hc]
    · rw [e2]
      have : c < 7 := by omega
      simp (disch := omega) only [↓reduceIte, ra_lit, ra_nf_ap, ra_st_lo, nI_add, nI_clamp, nI_ltI, nI_leI, nI_eq, Option.bind_some, if_true, if_false, not_false_eq_true, not_true_eq_false, ra_ltT, ra_ltF, ra_leT, ra_leF, ra_eqT, ra_eqF, or_false, false_or, or_true, true_or, and_true, true_and, and_false, false_and, ra_nzF hc, rr_no]
theorem ra_stopL {γ κ τ : Nat → Nat} (G M : Nat → Nat) (rc rr : Nat → Int32) (h : ra_ok γ κ τ) (ho : γ 3 < γ 0) : ∀ (d k m m' : Nat) (b fc fr : Int32) (ta tb tc mi : Nat → Int32), k + d = 7 → d < m → d < m' → ((fc = 13 ∧ fr = 1000000000) ∨ ∃ f, f ≤ 12 ∧ fc = nI f ∧ fr = nI f) →
    ∃ r x1 x2 y1 y2 a b' c mi', f_X2_stop_L25 (ra_nf G) (ra_nf γ) (ra_nf κ) (ra_nf τ) rc m b fc (nI k) ta tb tc = some (r, x1, x2, a, b', c) ∧ f_X3_stop_L22 (ra_nf M) rr m' b fr (nI k) (ra_st γ κ τ) mi = some (r, y1, y2, ra_st γ κ τ, mi') := by
  intro d
  induction d with
  | zero =>
    intro k m m' b fc fr ta tb tc mi hk hm hm' hf
    obtain ⟨m, rfl⟩ : ∃ q, m = q + 1 := ⟨m - 1, by omega⟩
    obtain ⟨m', rfl⟩ : ∃ q, m' = q + 1 := ⟨m' - 1, by omega⟩
    obtain rfl : k = 7 := by omega
    refine ⟨b, fc, nI 7, fr, nI 7, ta, tb, tc, mi, ?_, ?_⟩
    · rw [f_X2_stop_L25, if_pos (by decide)]
    · rw [f_X3_stop_L22, if_pos (by decide)]
  | succ d ih =>
    intro k m m' b fc fr ta tb tc mi hk hm hm' hf
    obtain ⟨m, rfl⟩ : ∃ q, m = q + 1 := ⟨m - 1, by omega⟩
    obtain ⟨m', rfl⟩ : ∃ q, m' = q + 1 := ⟨m' - 1, by omega⟩
    have hk7 : k < 7 := by omega
    obtain ⟨γ', h1⟩ := rc_fa (ra_nf G) ta tb tc hk7 h ho
    have h2 := rr_goesBy M mi hk7 h ho
    rw [f_X2_stop_L25, f_X3_stop_L22, if_neg (show ¬ (6 : Int32) < nI k from nI_nlt (a := 6) (by omega) (by decide)), if_neg (show ¬ (7 : Int32) ≤ nI k from nI_ge (b := 7) (by omega) (by decide)), h1, h2]
    simp only [Option.bind_some]
    rw [nI_1]
    unfold ra_enc
    by_cases c : ra_fail κ τ k 13 0 γ < 13
    · simp only [if_pos c]
      rw [if_neg (nI_pos (by omega)), if_neg (nI_pos (by omega))]
      generalize ra_fail κ τ k 13 0 γ = v at c
      have key : ((fc ≤ nI v) ↔ ¬ (nI v < fr)) := by
        rcases hf with ⟨rfl, rfl⟩ | ⟨f, hf, rfl, rfl⟩
        · have a1 : ¬ (13 : Int32) ≤ nI v := nI_ge (b := 13) (by omega) (by decide)
          have a2 : nI v < (1000000000 : Int32) := nI_lt (b := 1000000000) (by omega) (by decide)
          exact ⟨fun z => absurd z a1, fun z => absurd a2 z⟩
        · rw [nI_leI (by omega) (by omega), nI_ltI (by omega) (by omega)]
          omega
      by_cases c2 : nI v < fr
      · rw [if_neg (fun z => key.mp z c2), if_pos c2]
        exact ih (k + 1) m m' (nI k) (nI v) (nI v) _ _ _ _ (by omega) (by omega) (by omega) (Or.inr ⟨v, by omega, rfl, rfl⟩)
      · rw [if_pos (key.mpr c2), if_neg c2]
        exact ih (k + 1) m m' b fc fr _ _ _ _ (by omega) (by omega) (by omega) hf
    · simp only [if_neg c]
      rw [if_pos (by decide), if_pos (by decide)]
      exact ih (k + 1) m m' b fc fr _ _ _ _ (by omega) (by omega) (by omega) hf
theorem tm_stop {γ κ τ : Nat → Nat} (G M φ : Nat → Nat) (ta tb tc mi : Nat → Int32) (h : ra_ok γ κ τ) :
    ∃ r a b c φ' mi', f_X2_stop (ra_nf G) (ra_nf γ) (ra_nf κ) (ra_nf τ) ta tb tc (ra_nf φ) = some (r, a, b, c, ra_nf φ') ∧ f_X3_stop (ra_nf M) (ra_st γ κ τ) mi (ra_nf φ) = some (r, ra_st γ κ τ, mi', ra_nf φ') := by
  obtain ⟨h0, h1, h2⟩ := id h
  unfold f_X2_stop f_X3_stop
  rw [rc_isOff γ (by omega) (by omega), rr_isOff M γ κ τ (by omega) (by omega)]
  by_cases ho : γ 3 < γ 0
  · obtain ⟨r, x1, x2, y1, y2, a, b', c, mi', e1, e2⟩ := ra_stopL G M (ra_nf φ) (ra_nf φ) h ho 7 0 rf_fu rf_fu (-9) 13 1000000000 ta tb tc mi rfl (by unfold rf_fu; omega) (by unfold rf_fu; omega) (Or.inl ⟨rfl, rfl⟩)
    have e1 : f_X2_stop_L25 (ra_nf G) (ra_nf γ) (ra_nf κ) (ra_nf τ) (ra_nf φ) rf_fu (-9) 13 0 ta tb tc = _ := e1
    have e2 : f_X3_stop_L22 (ra_nf M) (ra_nf φ) rf_fu (-9) 1000000000 0 (ra_st γ κ τ) mi = _ := e2
    refine ⟨r, a, b', c, φ, mi', ?_, ?_⟩
    · rw [if_pos ho, Option.bind_some, if_pos (show nI 0 = 0 from rfl), e1]
      rfl
    · rw [if_pos ho, Option.bind_some, if_pos (show nI 0 = 0 from rfl), e2]
      rfl
  · refine ⟨-nI 3, ta, tb, tc, ra_rf φ 3, mi, ?_, ?_⟩
    · simp (disch := omega) only [↓reduceIte, ra_lit, ra_nf_ap, ra_st_lo, nI_add, nI_clamp, nI_ltI, nI_leI, nI_eq, Option.bind_some, if_true, if_false, not_false_eq_true, not_true_eq_false, ra_ltT, ra_ltF, ra_leT, ra_leF, ra_eqT, ra_eqF, or_false, false_or, or_true, true_or, and_true, true_and, and_false, false_and, if_neg ho, rc_refuse]
    · simp (disch := omega) only [↓reduceIte, ra_lit, ra_nf_ap, ra_st_lo, nI_add, nI_clamp, nI_ltI, nI_leI, nI_eq, Option.bind_some, if_true, if_false, not_false_eq_true, not_true_eq_false, ra_ltT, ra_ltF, ra_leT, ra_leF, ra_eqT, ra_eqF, or_false, false_or, or_true, true_or, and_true, true_and, and_false, false_and, if_neg ho, rr_no]
theorem ra_waL {γ κ τ : Nat → Nat} (G M φ : Nat → Nat) {k : Nat} (hk : k < 7) (h : ra_ok γ κ τ) (ho : γ 3 < γ 0) : ∀ (d i m m' : Nat) (ta tb tc : Nat → Int32), i + d = 61 → d < m → d < m' →
    ∃ a b c, (∃ r, f_X2_waited_L14 (ra_nf G) (ra_nf γ) (ra_nf κ) (ra_nf τ) (nI k) (ra_nf φ) m (nI i) ta tb tc = some (Sum.inl (r, a, b, c, ra_nf φ)) ∧ f_X3_waited_L18 (ra_nf M) (ra_st γ κ τ) (nI k) (ra_nf φ) m' (nI i) = some (Sum.inl (r, ra_nf φ))) ∨
      (∃ x y, f_X2_waited_L14 (ra_nf G) (ra_nf γ) (ra_nf κ) (ra_nf τ) (nI k) (ra_nf φ) m (nI i) ta tb tc = some (Sum.inr (x, a, b, c)) ∧ f_X3_waited_L18 (ra_nf M) (ra_st γ κ τ) (nI k) (ra_nf φ) m' (nI i) = some (Sum.inr y)) := by
  intro d
  induction d with
  | zero =>
    intro i m m' ta tb tc hi hm hm'
    obtain ⟨m, rfl⟩ : ∃ q, m = q + 1 := ⟨m - 1, by omega⟩
    obtain ⟨m', rfl⟩ : ∃ q, m' = q + 1 := ⟨m' - 1, by omega⟩
    obtain rfl : i = 61 := by omega
    refine ⟨ta, tb, tc, Or.inr ⟨nI 61, nI 61, ?_, ?_⟩⟩
    · rw [f_X2_waited_L14, if_pos (by decide)]
    · rw [f_X3_waited_L18, if_pos (by decide)]
  | succ d ih =>
    intro i m m' ta tb tc hi hm hm'
    obtain ⟨m, rfl⟩ : ∃ q, m = q + 1 := ⟨m - 1, by omega⟩
    obtain ⟨m', rfl⟩ : ∃ q, m' = q + 1 := ⟨m' - 1, by omega⟩
    obtain ⟨h0, h1, h2, h3, h4, h5, h6, h7, h8, h9, h10, h11⟩ := id h
    have hw := ra_wt_ok (m := i) h
    have e1 : f_X0_goesOver (ra_nf (ra_wt γ i)) (ra_nf κ) (ra_nf τ) (nI k) = some (nI (if ra_ov (ra_wt γ i) κ τ k then 1 else 0)) := by
      rw [rc_over hw (by omega)]
      have : (ra_wt γ i) 3 < (ra_wt γ i) 0 := ho
      simp only [this, true_and]
    have e2 : f_X3_goesOver (ra_nf M) (ra_st γ κ τ) (nI (γ 3)) (nI k) (nI (γ 4 - i / 2)) (nI (γ 5 - i / 3)) = some (nI (if ra_ov (ra_wt γ i) κ τ k then 1 else 0)) :=
      rr_over h (by omega) (by omega) (by omega) (by omega)
    rw [f_X2_waited_L14, f_X3_waited_L18]
    simp (disch := omega) only [↓reduceIte, ra_lit, ra_nf_ap, ra_st_lo, nI_add, nI_clamp, nI_ltI, nI_leI, nI_eq, Option.bind_some, if_true, if_false, not_false_eq_true, not_true_eq_false, ra_ltT, ra_ltF, ra_leT, ra_leF, ra_eqT, ra_eqF, or_false, false_or, or_true, true_or, and_true, true_and, and_false, false_and, rc_copy, rc_rest, e1, ra_most, pk_div, ra_mx0, e2]
    by_cases c : ra_ov (ra_wt γ i) κ τ k
    · simp (disch := omega) only [↓reduceIte, ra_lit, ra_nf_ap, ra_st_lo, nI_add, nI_clamp, nI_ltI, nI_leI, nI_eq, Option.bind_some, if_true, if_false, not_false_eq_true, not_true_eq_false, ra_ltT, ra_ltF, ra_leT, ra_leF, ra_eqT, ra_eqF, or_false, false_or, or_true, true_or, and_true, true_and, and_false, false_and, if_pos c]
      exact ⟨_, _, _, Or.inl ⟨_, rfl, rfl⟩⟩
    · simp (disch := omega) only [↓reduceIte, ra_lit, ra_nf_ap, ra_st_lo, nI_add, nI_clamp, nI_ltI, nI_leI, nI_eq, Option.bind_some, if_true, if_false, not_false_eq_true, not_true_eq_false, ra_ltT, ra_ltF, ra_leT, ra_leF, ra_eqT, ra_eqF, or_false, false_or, or_true, true_or, and_true, true_and, and_false, false_and, if_neg c]
      exact ih (i + 1) m m' _ _ _ (by omega) (by omega) (by omega)
theorem tm_waited {γ κ τ : Nat → Nat} (G M φ : Nat → Nat) (ta tb tc : Nat → Int32) (h : ra_ok γ κ τ) (p : Int32) :
    ∃ r a b c φ', f_X2_waited (ra_nf G) (ra_nf γ) (ra_nf κ) (ra_nf τ) ta tb tc (ra_nf φ) p = some (r, a, b, c, ra_nf φ') ∧ f_X3_waited (ra_nf M) (ra_st γ κ τ) (ra_nf φ) p = some (r, ra_nf φ') := by
  unfold f_X2_waited f_X3_waited
  rcases ra_wrong G M φ h p with ⟨k, hk, rfl, ho, e1, e2⟩ | ⟨c, hc, e1, e2⟩
  · rw [e1, e2]
    obtain ⟨a, b, c, h1⟩ := ra_waL G M φ hk h ho 61 0 rf_fu rf_fu ta tb tc rfl (by unfold rf_fu; omega) (by unfold rf_fu; omega)
    simp (disch := omega) only [↓reduceIte, ra_lit, ra_nf_ap, ra_st_lo, nI_add, nI_clamp, nI_ltI, nI_leI, nI_eq, Option.bind_some, if_true, if_false, not_false_eq_true, not_true_eq_false, ra_ltT, ra_ltF, ra_leT, ra_leF, ra_eqT, ra_eqF, or_false, false_or, or_true, true_or, and_true, true_and, and_false, false_and]
    rcases h1 with ⟨r, h1, h2⟩ | ⟨x, y, h1, h2⟩
    · rw [h1, h2]
      exact ⟨r, a, b, c, φ, rfl, rfl⟩
    · rw [h1, h2]
      exact ⟨_, a, b, c, φ, rfl, rfl⟩
  · rw [e1, e2]
    have : c < 7 := by omega
    simp (disch := omega) only [↓reduceIte, ra_lit, ra_nf_ap, ra_st_lo, nI_add, nI_clamp, nI_ltI, nI_leI, nI_eq, Option.bind_some, if_true, if_false, not_false_eq_true, not_true_eq_false, ra_ltT, ra_ltF, ra_leT, ra_leF, ra_eqT, ra_eqF, or_false, false_or, or_true, true_or, and_true, true_and, and_false, false_and, ra_nzF hc, rr_no]
    exact ⟨_, _, _, _, _, rfl, rfl⟩
/-- a move: a try, a wait of five, nothing -/
def ra_mv (γ κ τ : Nat → Nat) (v : Nat) : Nat → Nat := if v < 7 then ra_tr γ κ τ v else if v = 7 then ra_wt γ 5 else γ
theorem ra_mv_ok {γ κ τ : Nat → Nat} {v : Nat} (h : ra_ok γ κ τ) (ho : γ 3 < γ 0) : ra_ok (ra_mv γ κ τ v) κ τ := by
  unfold ra_mv
  split
  · exact ra_tr_ok h ho
  · split
    · exact ra_wt_ok h
    · exact h
theorem rc_isTry {v : Nat} (hv : v < 1000) : f_X2_isTry (nI v) = some (nI (if v < 7 then 1 else 0)) := by
  unfold f_X2_isTry
  by_cases c : v < 7
  · simp (disch := omega) only [↓reduceIte, ra_lit, ra_nf_ap, ra_st_lo, nI_add, nI_clamp, nI_ltI, nI_leI, nI_eq, Option.bind_some, if_true, if_false, not_false_eq_true, not_true_eq_false, ra_ltT, ra_ltF, ra_leT, ra_leF, ra_eqT, ra_eqF, or_false, false_or, or_true, true_or, and_true, true_and, and_false, false_and]
  · simp (disch := omega) only [↓reduceIte, ra_lit, ra_nf_ap, ra_st_lo, nI_add, nI_clamp, nI_ltI, nI_leI, nI_eq, Option.bind_some, if_true, if_false, not_false_eq_true, not_true_eq_false, ra_ltT, ra_ltF, ra_leT, ra_leF, ra_eqT, ra_eqF, or_false, false_or, or_true, true_or, and_true, true_and, and_false, false_and]
theorem rc_move {γ κ τ : Nat → Nat} {v : Nat} (h : ra_ok γ κ τ) (ho : γ 3 < γ 0) (hv : v < 1000) : f_X0_move (ra_nf γ) (ra_nf κ) (ra_nf τ) (nI v) = some (ra_nf (ra_mv γ κ τ v)) := by
  obtain ⟨h0, h1, h2, h3, h4, h5, h6, h7, h8, h9, h10, h11⟩ := id h
  unfold f_X0_move ra_mv
  rw [rc_isTry hv]
  by_cases c : v < 7
  · simp (disch := omega) only [↓reduceIte, ra_lit, ra_nf_ap, ra_st_lo, nI_add, nI_clamp, nI_ltI, nI_leI, nI_eq, Option.bind_some, if_true, if_false, not_false_eq_true, not_true_eq_false, ra_ltT, ra_ltF, ra_leT, ra_leF, ra_eqT, ra_eqF, or_false, false_or, or_true, true_or, and_true, true_and, and_false, false_and, rc_attempt h c ho]
  · by_cases c7 : v = 7
    · subst c7
      simp (disch := omega) only [↓reduceIte, ra_lit, ra_nf_ap, ra_st_lo, nI_add, nI_clamp, nI_ltI, nI_leI, nI_eq, Option.bind_some, if_true, if_false, not_false_eq_true, not_true_eq_false, ra_ltT, ra_ltF, ra_leT, ra_leF, ra_eqT, ra_eqF, or_false, false_or, or_true, true_or, and_true, true_and, and_false, false_and, rc_rest]
    · simp (disch := omega) only [↓reduceIte, ra_lit, ra_nf_ap, ra_st_lo, nI_add, nI_clamp, nI_ltI, nI_leI, nI_eq, Option.bind_some, if_true, if_false, not_false_eq_true, not_true_eq_false, ra_ltT, ra_ltF, ra_leT, ra_leF, ra_eqT, ra_eqF, or_false, false_or, or_true, true_or, and_true, true_and, and_false, false_and]
theorem ra_juL {κ τ : Nat → Nat} (na nb nc ygc : Nat → Int32) (M ρ : Nat → Nat) (mi : Nat → Int32) {R : Nat} (hM : M 2 = R) (hR : R ≤ 12) (hρ : ∀ j, ρ j ≤ 9) : ∀ (d i m m' : Nat) (γ : Nat → Nat), i + d = R → d < m → d + 1 < m' → ra_ok γ κ τ → γ 3 < γ 0 →
    ∃ γ', (∃ r y, f_X2_judge_L36 na nb nc (ra_nf ρ) (nI R) ygc (ra_nf κ) (ra_nf τ) m (nI i) (ra_nf γ) = some (Sum.inl (r, ygc, ra_nf γ', ra_nf κ, ra_nf τ)) ∧ f_X3_judge_L9 (ra_nf ρ) (ra_nf M) mi m' (-nI 9) (nI i) (ra_st γ κ τ) = some (r, y, ra_st γ' κ τ)) ∨
      (∃ x y, f_X2_judge_L36 na nb nc (ra_nf ρ) (nI R) ygc (ra_nf κ) (ra_nf τ) m (nI i) (ra_nf γ) = some (Sum.inr (x, ra_nf γ')) ∧ f_X3_judge_L9 (ra_nf ρ) (ra_nf M) mi m' (-nI 9) (nI i) (ra_st γ κ τ) = some (-nI 9, y, ra_st γ' κ τ)) := by
  intro d
  induction d with
  | zero =>
    intro i m m' γ hi hm hm' h ho
    obtain ⟨m, rfl⟩ : ∃ q, m = q + 1 := ⟨m - 1, by omega⟩
    obtain ⟨m', rfl⟩ : ∃ q, m' = q + 1 := ⟨m' - 1, by omega⟩
    obtain rfl : i = R := by omega
    refine ⟨γ, Or.inr ⟨nI i, nI i, ?_, ?_⟩⟩
    · rw [f_X2_judge_L36]
      simp (disch := omega) only [↓reduceIte, ra_lit, ra_nf_ap, ra_st_lo, nI_add, nI_clamp, nI_ltI, nI_leI, nI_eq, Option.bind_some, if_true, if_false, not_false_eq_true, not_true_eq_false, ra_ltT, ra_ltF, ra_leT, ra_leF, ra_eqT, ra_eqF, or_false, false_or, or_true, true_or, and_true, true_and, and_false, false_and]
    · rw [f_X3_judge_L9]
      simp (disch := omega) only [↓reduceIte, ra_lit, ra_nf_ap, ra_st_lo, nI_add, nI_clamp, nI_ltI, nI_leI, nI_eq, Option.bind_some, if_true, if_false, not_false_eq_true, not_true_eq_false, ra_ltT, ra_ltF, ra_leT, ra_leF, ra_eqT, ra_eqF, or_false, false_or, or_true, true_or, and_true, true_and, and_false, false_and, hM]
  | succ d ih =>
    intro i m m' γ hi hm hm' h ho
    obtain ⟨m, rfl⟩ : ∃ q, m = q + 1 := ⟨m - 1, by omega⟩
    obtain ⟨m', rfl⟩ : ∃ q, m' = q + 1 := ⟨m' - 1, by omega⟩
    obtain ⟨h0, h1, h2, h3, h4, h5, h6, h7, h8, h9, h10, h11⟩ := id h
    have hv := hρ i
    have hmv := ra_mv_ok (v := ρ i) h ho
    obtain ⟨g0, g1, -⟩ := id hmv
    have e9 : (nI 0 ≤ -nI 9) = False := eq_false (by decide)
    have eoff := rc_isOff (ra_mv γ κ τ (ρ i)) (by omega) (by omega)
    have eoffr := rr_isOff M (ra_mv γ κ τ (ρ i)) κ τ (by omega) (by omega)
    rw [f_X2_judge_L36, f_X3_judge_L9]
    simp (disch := omega) only [↓reduceIte, ra_lit, ra_nf_ap, ra_st_lo, nI_add, nI_clamp, nI_ltI, nI_leI, nI_eq, Option.bind_some, if_true, if_false, not_false_eq_true, not_true_eq_false, ra_ltT, ra_ltF, ra_leT, ra_leF, ra_eqT, ra_eqF, or_false, false_or, or_true, true_or, and_true, true_and, and_false, false_and, hM, ra_at, rc_move h ho, eoff, e9, rr_isOff, ho]
    by_cases c7 : ρ i < 7
    · have em : ra_mv γ κ τ (ρ i) = ra_tr γ κ τ (ρ i) := if_pos c7
      rw [em] at eoffr g0 g1 hmv ⊢
      simp (disch := omega) only [↓reduceIte, ra_lit, ra_nf_ap, ra_st_lo, nI_add, nI_clamp, nI_ltI, nI_leI, nI_eq, Option.bind_some, if_true, if_false, not_false_eq_true, not_true_eq_false, ra_ltT, ra_ltF, ra_leT, ra_leF, ra_eqT, ra_eqF, or_false, false_or, or_true, true_or, and_true, true_and, and_false, false_and, rr_tried h c7 ho, eoffr]
      by_cases co : (ra_tr γ κ τ (ρ i)) 3 < (ra_tr γ κ τ (ρ i)) 0
      · simp (disch := omega) only [↓reduceIte, ra_lit, ra_nf_ap, ra_st_lo, nI_add, nI_clamp, nI_ltI, nI_leI, nI_eq, Option.bind_some, if_true, if_false, not_false_eq_true, not_true_eq_false, ra_ltT, ra_ltF, ra_leT, ra_leF, ra_eqT, ra_eqF, or_false, false_or, or_true, true_or, and_true, true_and, and_false, false_and, if_pos co]
        exact ih (i + 1) m m' _ (by omega) (by omega) (by omega) hmv co
      · simp (disch := omega) only [↓reduceIte, ra_lit, ra_nf_ap, ra_st_lo, nI_add, nI_clamp, nI_ltI, nI_leI, nI_eq, Option.bind_some, if_true, if_false, not_false_eq_true, not_true_eq_false, ra_ltT, ra_ltF, ra_leT, ra_leF, ra_eqT, ra_eqF, or_false, false_or, or_true, true_or, and_true, true_and, and_false, false_and, if_neg co]
        obtain ⟨m', rfl⟩ : ∃ q, m' = q + 1 := ⟨m' - 1, by omega⟩
        refine ⟨_, Or.inl ⟨nI i, nI (i + 1), rfl, ?_⟩⟩
        rw [f_X3_judge_L9]
        by_cases cR : R ≤ i + 1
        · simp (disch := omega) only [↓reduceIte, ra_lit, ra_nf_ap, ra_st_lo, nI_add, nI_clamp, nI_ltI, nI_leI, nI_eq, Option.bind_some, if_true, if_false, not_false_eq_true, not_true_eq_false, ra_ltT, ra_ltF, ra_leT, ra_leF, ra_eqT, ra_eqF, or_false, false_or, or_true, true_or, and_true, true_and, and_false, false_and, hM]
        · simp (disch := omega) only [↓reduceIte, ra_lit, ra_nf_ap, ra_st_lo, nI_add, nI_clamp, nI_ltI, nI_leI, nI_eq, Option.bind_some, if_true, if_false, not_false_eq_true, not_true_eq_false, ra_ltT, ra_ltF, ra_leT, ra_leF, ra_eqT, ra_eqF, or_false, false_or, or_true, true_or, and_true, true_and, and_false, false_and, hM]
    · by_cases e7 : ρ i = 7
      · have em : ra_mv γ κ τ (ρ i) = ra_wt γ 5 := by
          unfold ra_mv
          rw [if_neg c7, if_pos e7]
        rw [em] at hmv ⊢
        have co : (ra_wt γ 5) 3 < (ra_wt γ 5) 0 := ho
        simp (disch := omega) only [↓reduceIte, ra_lit, ra_nf_ap, ra_st_lo, nI_add, nI_clamp, nI_ltI, nI_leI, nI_eq, Option.bind_some, if_true, if_false, not_false_eq_true, not_true_eq_false, ra_ltT, ra_ltF, ra_leT, ra_leF, ra_eqT, ra_eqF, or_false, false_or, or_true, true_or, and_true, true_and, and_false, false_and, if_pos co, e7, rr_waits]
        exact ih (i + 1) m m' _ (by omega) (by omega) (by omega) hmv co
      · have em : ra_mv γ κ τ (ρ i) = γ := by
          unfold ra_mv
          rw [if_neg c7, if_neg e7]
        rw [em]
        simp (disch := omega) only [↓reduceIte, ra_lit, ra_nf_ap, ra_st_lo, nI_add, nI_clamp, nI_ltI, nI_leI, nI_eq, Option.bind_some, if_true, if_false, not_false_eq_true, not_true_eq_false, ra_ltT, ra_ltF, ra_leT, ra_leF, ra_eqT, ra_eqF, or_false, false_or, or_true, true_or, and_true, true_and, and_false, false_and, if_pos ho]
        exact ih (i + 1) m m' _ (by omega) (by omega) (by omega) h ho
theorem tm_judge {γ κ τ : Nat → Nat} (G M ρ : Nat → Nat) (ta tb tc mi : Nat → Int32) {R : Nat} (hG : G 1 = R) (hM : M 2 = R) (hR : R ≤ 12) (hρ : ∀ j, ρ j ≤ 9) (h : ra_ok γ κ τ) :
    ∃ r a b c mi', f_X2_judge (ra_nf G) (ra_nf γ) (ra_nf κ) (ra_nf τ) ta tb tc (ra_nf ρ) = some (r, ra_nf (ra_un G 1 0), a, b, c) ∧ f_X3_judge (ra_nf M) (ra_st γ κ τ) mi (ra_nf ρ) = some (r, ra_nf (ra_un M 2 0), ra_st γ κ τ, mi') := by
  obtain ⟨h0, h1, h2⟩ := id h
  unfold f_X2_judge f_X3_judge f_X3_begins f_X3_ends
  rw [rc_isOff γ (by omega) (by omega)]
  by_cases ho : γ 3 < γ 0
  · obtain ⟨γ', h3⟩ := ra_juL (ra_nf γ) (ra_nf κ) (ra_nf τ) (ra_nf (ra_un G 1 0)) M ρ (ra_st γ κ τ) hM hR hρ R 0 rf_fu rf_fu γ (by omega) (by unfold rf_fu; omega) (by unfold rf_fu; omega) h ho
    simp (disch := omega) only [↓reduceIte, ra_lit, ra_nf_ap, ra_st_lo, nI_add, nI_clamp, nI_ltI, nI_leI, nI_eq, Option.bind_some, if_true, if_false, not_false_eq_true, not_true_eq_false, ra_ltT, ra_ltF, ra_leT, ra_leF, ra_eqT, ra_eqF, or_false, false_or, or_true, true_or, and_true, true_and, and_false, false_and, if_pos ho, rc_copy, rr_lays, hG, ra_upd]
    rcases h3 with ⟨r, y, e1, e2⟩ | ⟨x, y, e1, e2⟩
    · rw [e1, e2]
      exact ⟨r, _, _, _, _, rfl, rfl⟩
    · rw [e1, e2]
      exact ⟨_, _, _, _, _, rfl, rfl⟩
  · refine ⟨-nI 9, ta, tb, tc, ra_st γ κ τ, ?_, ?_⟩
    · simp (disch := omega) only [↓reduceIte, ra_lit, ra_nf_ap, ra_st_lo, nI_add, nI_clamp, nI_ltI, nI_leI, nI_eq, Option.bind_some, if_true, if_false, not_false_eq_true, not_true_eq_false, ra_ltT, ra_ltF, ra_leT, ra_leF, ra_eqT, ra_eqF, or_false, false_or, or_true, true_or, and_true, true_and, and_false, false_and, if_neg ho, ra_upd]
    · have e : ∃ y, f_X3_judge_L9 (ra_nf ρ) (ra_nf M) (ra_st γ κ τ) rf_fu (-9) 0 (ra_st γ κ τ) = some (-9, y, ra_st γ κ τ) := by
        obtain ⟨m, hm⟩ : ∃ q, rf_fu = q + 1 := ⟨19999, rfl⟩
        rw [hm, f_X3_judge_L9]
        have e9 : ¬ (0 : Int32) ≤ -9 := by decide
        have eoffr := rr_isOff M γ κ τ (by omega) (by omega)
        by_cases cR : R ≤ 0
        · rw [if_pos (show ra_nf M 2 ≤ 0 by rw [ra_nf_ap, hM]; exact nI_le (b := 0) cR (by decide))]
          exact ⟨_, rfl⟩
        · rw [if_neg (show ¬ ra_nf M 2 ≤ 0 by rw [ra_nf_ap, hM]; exact nI_nle (by omega) (by omega)), if_neg e9, eoffr, if_neg ho, Option.bind_some, if_neg (by decide)]
          exact ⟨_, rfl⟩
      obtain ⟨y, e⟩ := e
      simp only [rr_lays, Option.bind_some, e]
      simp (disch := omega) only [↓reduceIte, ra_lit, ra_nf_ap, ra_st_lo, nI_add, nI_clamp, nI_ltI, nI_leI, nI_eq, Option.bind_some, if_true, if_false, not_false_eq_true, not_true_eq_false, ra_ltT, ra_ltF, ra_leT, ra_leF, ra_eqT, ra_eqF, or_false, false_or, or_true, true_or, and_true, true_and, and_false, false_and, ra_upd]
theorem ra_unun (f : Nat → Nat) (k a b : Nat) : ra_un (ra_un f k a) k b = ra_un f k b := by
  funext j
  unfold ra_un
  split <;> rfl
theorem ra_drw (G M : Nat → Nat) (hGM : nI (G 3) = nI (M 6)) {m : Nat} (hm0 : 0 < m) (hm : m < 2 ^ 31) :
    ∃ s v, v < m ∧ f_X2_draw (ra_nf G) (nI m) = some (nI v, ra_nf (ra_un G 3 s)) ∧ f_X3_drawn (ra_nf M) (nI m) = some (nI v, ra_nf (ra_un M 6 s)) := by
  obtain ⟨s, hs, es⟩ := ra_int (nI (M 6) * 1664525 + 1013904223)
  obtain ⟨j, hj, ej⟩ := pk_andE (nI s) (m := 2147483647) 31 (by decide)
  have e0 : ¬ nI m ≤ 0 := nI_nle hm0 hm
  have e1 : ¬ nI m = 0 := nI_ne0 hm0 hm
  have e2 : rf_rem ((nI s &&& 2147483647) / 256) (nI m) = nI (j / 256 % m) := by
    rw [ej, show (nI j / 256 : Int32) = nI (j / 256) from pk_div (d := 256) hj (by decide) (by decide)]
    exact pk_rem (by omega) hm0 hm
  refine ⟨s, j / 256 % m, Nat.mod_lt _ hm0, ?_, ?_⟩
  · unfold f_X2_draw
    rw [ra_nf_ap, hGM, es]
    simp only [Option.bind_some, if_neg e0, if_pos e1, e2, ra_upd]
  · unfold f_X3_drawn
    rw [ra_nf_ap, es]
    simp only [Option.bind_some, if_pos e1, e2, ra_upd]
theorem ra_evL {κ τ : Nat → Nat} (na nb nc : Nat → Int32) (q1 q2 q3 q4 : Int32) (mi rf : Nat → Int32) : ∀ (d i m m' : Nat) (G M γ : Nat → Nat), i + d = 12 → d < m → d < m' → ra_ok γ κ τ → nI (G 3) = nI (M 6) →
    ∃ x y s γ', f_X2_eveningHarm_L34 na nb nc (ra_nf κ) (ra_nf τ) m (nI i) (ra_nf G) (ra_nf γ) = some (x, ra_nf (ra_un G 3 s), ra_nf γ') ∧ f_X3_lots_L72 q1 q2 q3 q4 mi rf m' (nI i) (ra_nf M) (ra_st γ κ τ) = some (y, ra_nf (ra_un M 6 s), ra_st γ' κ τ) := by
  intro d
  induction d with
  | zero =>
    intro i m m' G M γ hi hm hm' h hGM
    obtain ⟨m, rfl⟩ : ∃ q, m = q + 1 := ⟨m - 1, by omega⟩
    obtain ⟨m', rfl⟩ : ∃ q, m' = q + 1 := ⟨m' - 1, by omega⟩
    obtain rfl : i = 12 := by omega
    obtain ⟨s, hs, es⟩ := ra_int (nI (G 3))
    have eG : ra_nf (ra_un G 3 s) = ra_nf G := by
      rw [← ra_upd, ← es]
      funext j
      unfold upd
      split
      · rename_i e
        rw [e]
        rfl
      · rfl
    have eM : ra_nf (ra_un M 6 s) = ra_nf M := by
      rw [← ra_upd, ← es, hGM]
      funext j
      unfold upd
      split
      · rename_i e
        rw [e]
        rfl
      · rfl
    refine ⟨nI 12, nI 12, s, γ, ?_, ?_⟩
    · rw [f_X2_eveningHarm_L34, if_pos (by decide), eG]
    · rw [f_X3_lots_L72, if_pos (by decide), eM]
  | succ d ih =>
    intro i m m' G M γ hi hm hm' h hGM
    obtain ⟨m, rfl⟩ : ∃ q, m = q + 1 := ⟨m - 1, by omega⟩
    obtain ⟨m', rfl⟩ : ∃ q, m' = q + 1 := ⟨m' - 1, by omega⟩
    obtain ⟨h0, h1, h2⟩ := id h
    have c12 : ¬ (12 : Int32) ≤ nI i := nI_ge (b := 12) (by omega) (by decide)
    rw [f_X2_eveningHarm_L34, f_X3_lots_L72, if_neg c12, if_neg c12, rc_isOff γ (by omega) (by omega), rr_isOff M γ κ τ (by omega) (by omega)]
    by_cases ho : γ 3 < γ 0
    · obtain ⟨s, v, hv, e1, e2⟩ := ra_drw G M hGM (m := 6) (by decide) (by decide)
      have e1 : f_X2_draw (ra_nf G) 6 = _ := e1
      have e2 : f_X3_drawn (ra_nf M) 6 = _ := e2
      rw [if_pos ho, Option.bind_some, Option.bind_some, if_pos (show nI 0 = 0 from rfl), if_pos (show nI 0 = 0 from rfl), e1, e2]
      simp only [Option.bind_some]
      rw [rc_attempt h (k := v) (by omega) ho, rr_tried h (k := v) (by omega) ho]
      simp only [Option.bind_some]
      rw [nI_1]
      obtain ⟨x, y, s2, γ', e3, e4⟩ := ih (i + 1) m m' (ra_un G 3 s) (ra_un M 6 s) (ra_tr γ κ τ v) (by omega) (by omega) (by omega) (ra_tr_ok h ho) rfl
      rw [ra_unun] at e3 e4
      exact ⟨x, y, s2, γ', e3, e4⟩
    · obtain ⟨s, hs, es⟩ := ra_int (nI (G 3))
      have eG : ra_nf (ra_un G 3 s) = ra_nf G := by
        rw [← ra_upd, ← es]
        funext j
        unfold upd
        split
        · rename_i e
          rw [e]
          rfl
        · rfl
      have eM : ra_nf (ra_un M 6 s) = ra_nf M := by
        rw [← ra_upd, ← es, hGM]
        funext j
        unfold upd
        split
        · rename_i e
          rw [e]
          rfl
        · rfl
      refine ⟨nI i, nI i, s, γ, ?_, ?_⟩
      · rw [if_neg ho, Option.bind_some, if_neg (by decide), eG]
      · rw [if_neg ho, Option.bind_some, if_neg (by decide), eM]
theorem ra_loL {γ κ τ : Nat → Nat} (h : ra_ok γ κ τ) (p2 : Int32) (rc rr : Nat → Int32) {N : Nat} (hN : N ≤ 20) : ∀ (d i m m' : Nat) (G M : Nat → Nat) (x : Int32) (ta tb tc s0 : Nat → Int32), i + d = N → d < m → d < m' → nI (G 3) = nI (M 6) →
    ∃ r z1 z2 s a b c s', f_X2_lots_L35 (ra_nf γ) (ra_nf κ) (ra_nf τ) (nI N) p2 rc m x (nI i) (ra_nf G) ta tb tc = some (r, z1, ra_nf (ra_un G 3 s), a, b, c) ∧ f_X3_lots_L39 (nI N) p2 (ra_st γ κ τ) rr m' x (nI i) (ra_nf M) s0 = some (r, z2, ra_nf (ra_un M 6 s), s') := by
  intro d
  induction d with
  | zero =>
    intro i m m' G M x ta tb tc s0 hi hm hm' hGM
    obtain ⟨m, rfl⟩ : ∃ q, m = q + 1 := ⟨m - 1, by omega⟩
    obtain ⟨m', rfl⟩ : ∃ q, m' = q + 1 := ⟨m' - 1, by omega⟩
    obtain rfl : i = N := by omega
    obtain ⟨s, hs, es⟩ := ra_int (nI (G 3))
    have eG : ra_nf (ra_un G 3 s) = ra_nf G := by
      rw [← ra_upd, ← es]
      funext j
      unfold upd
      split
      · rename_i e
        rw [e]
        rfl
      · rfl
    have eM : ra_nf (ra_un M 6 s) = ra_nf M := by
      rw [← ra_upd, ← es, hGM]
      funext j
      unfold upd
      split
      · rename_i e
        rw [e]
        rfl
      · rfl
    refine ⟨x, nI i, nI i, s, ta, tb, tc, s0, ?_, ?_⟩
    · rw [f_X2_lots_L35, if_pos (nI_le (Nat.le_refl _) (by omega)), eG]
    · rw [f_X3_lots_L39, if_pos (nI_le (Nat.le_refl _) (by omega)), eM]
  | succ d ih =>
    intro i m m' G M x ta tb tc s0 hi hm hm' hGM
    obtain ⟨m, rfl⟩ : ∃ q, m = q + 1 := ⟨m - 1, by omega⟩
    obtain ⟨m', rfl⟩ : ∃ q, m' = q + 1 := ⟨m' - 1, by omega⟩
    obtain ⟨h0, h1, h2, h3, h4, h5, h6, h7, h8, h9, h10, h11⟩ := id h
    have cN : ¬ nI N ≤ nI i := nI_ge (by omega) (by omega)
    obtain ⟨s, v, hv, e1, e2⟩ := ra_drw G M hGM (m := 31) (by decide) (by decide)
    have e1 : f_X2_draw (ra_nf G) 31 = _ := e1
    have e2 : f_X3_drawn (ra_nf M) 31 = _ := e2
    have hok : ra_ok (ra_un (ra_un γ 9 0) 4 v) κ τ := ⟨h0, h1, h2, h3, h4, h5, by show v ≤ 30; omega, h7, h8, h9, h10, h11⟩
    obtain ⟨x', y', s2, γ', e3, e4⟩ := ra_evL (κ := κ) (τ := τ) (ra_nf γ) (ra_nf κ) (ra_nf τ) (nI N) p2 x (nI i) (ra_st γ κ τ) rr 12 0 rf_fu rf_fu (ra_un G 3 s) (ra_un M 6 s) (ra_un (ra_un γ 9 0) 4 v) rfl (by unfold rf_fu; omega) (by unfold rf_fu; omega) hok rfl
    rw [ra_unun] at e3 e4
    have eu : upd (upd (ra_st γ κ τ) 4 (nI v)) 9 0 = ra_st (ra_un (ra_un γ 9 0) 4 v) κ τ := by
      rw [ra_st_u _ _ _ (by decide), show (0 : Int32) = nI 0 from rfl, ra_st_u _ _ _ (by decide)]
      congr 1
      funext j
      unfold ra_un
      by_cases e4 : j = 4
      · subst e4; rfl
      · by_cases e9 : j = 9
        · subst e9; rfl
        · simp [e4, e9]
    have eu2 : upd (upd (ra_nf γ) 9 0) 4 (nI v) = ra_nf (ra_un (ra_un γ 9 0) 4 v) := by
      rw [show (0 : Int32) = nI 0 from rfl, ra_upd, ra_upd]
    obtain ⟨r, z1, z2, s3, a, b, c, s', e5, e6⟩ := ih (i + 1) m m' (ra_un G 3 s2) (ra_un M 6 s2) (x + nI (γ' 9)) (ra_nf γ') (ra_nf κ) (ra_nf τ) (ra_st γ' κ τ) (by omega) (by omega) (by omega) rfl
    rw [ra_unun] at e5 e6
    refine ⟨r, z1, z2, s3, a, b, c, s', ?_, ?_⟩
    · rw [f_X2_lots_L35, if_neg cN]
      unfold f_X2_eveningHarm
      rw [rc_copy, Option.bind_some, e1, Option.bind_some]
      simp only [eu2]
      have e3 : f_X2_eveningHarm_L34 (ra_nf γ) (ra_nf κ) (ra_nf τ) (ra_nf κ) (ra_nf τ) rf_fu 0 (ra_nf (ra_un G 3 s)) (ra_nf (ra_un (ra_un γ 9 0) 4 v)) = _ := e3
      rw [e3]
      simp only [Option.bind_some]
      rw [nI_1]
      exact e5
    · rw [f_X3_lots_L39, if_neg cN]
      unfold f_X3_ends
      rw [rr_lays, Option.bind_some, Option.bind_some, e2]
      simp only [Option.bind_some, eu]
      have e4 : f_X3_lots_L72 (nI N) p2 x (nI i) (ra_st γ κ τ) rr rf_fu 0 (ra_nf (ra_un M 6 s)) (ra_st (ra_un (ra_un γ 9 0) 4 v) κ τ) = _ := e4
      rw [e4]
      simp only [Option.bind_some]
      rw [nI_1, ra_st_lo _ _ _ (by decide)]
      exact e6
theorem tm_lots {γ κ τ : Nat → Nat} (G M φ : Nat → Nat) (ta tb tc mi : Nat → Int32) (h : ra_ok γ κ τ) (p1 p2 : Int32) :
    ∃ r s a b c s' mi' φ', f_X2_lots (ra_nf G) (ra_nf γ) (ra_nf κ) (ra_nf τ) ta tb tc (ra_nf φ) p1 p2 = some (r, ra_nf (ra_un G 3 s), a, b, c, ra_nf φ') ∧ f_X3_lots (ra_nf M) (ra_st γ κ τ) mi (ra_nf φ) p1 p2 = some (r, ra_nf (ra_un M 6 s'), ra_st γ κ τ, mi', ra_nf φ') := by
  have eG : ∃ s, ra_nf (ra_un G 3 s) = ra_nf G := by
    refine ⟨G 3, ?_⟩
    congr 1
    funext j
    unfold ra_un
    split
    · rename_i e
      rw [e]
    · rfl
  have eM : ∃ s, ra_nf (ra_un M 6 s) = ra_nf M := by
    refine ⟨M 6, ?_⟩
    congr 1
    funext j
    unfold ra_un
    split
    · rename_i e
      rw [e]
    · rfl
  obtain ⟨sG, eG⟩ := eG
  obtain ⟨sM, eM⟩ := eM
  unfold f_X2_lots f_X3_lots
  by_cases hp : p1 < nI 0
  · refine ⟨-nI 4, sG, ta, tb, tc, sM, mi, ra_rf φ 4, ?_, ?_⟩
    · rw [eG]
      simp (disch := omega) only [↓reduceIte, ra_lit, ra_nf_ap, ra_st_lo, nI_add, nI_clamp, nI_ltI, nI_leI, nI_eq, Option.bind_some, if_true, if_false, not_false_eq_true, not_true_eq_false, ra_ltT, ra_ltF, ra_leT, ra_leF, ra_eqT, ra_eqF, or_false, false_or, or_true, true_or, and_true, true_and, and_false, false_and, ra_nLe hp, rc_refuse]
    · rw [eM]
      simp (disch := omega) only [↓reduceIte, ra_lit, ra_nf_ap, ra_st_lo, nI_add, nI_clamp, nI_ltI, nI_leI, nI_eq, Option.bind_some, if_true, if_false, not_false_eq_true, not_true_eq_false, ra_ltT, ra_ltF, ra_leT, ra_leF, ra_eqT, ra_eqF, or_false, false_or, or_true, true_or, and_true, true_and, and_false, false_and, ra_nLe hp, rr_no]
  · obtain ⟨N, hN, rfl⟩ := nI_of (x := p1) hp
    by_cases c1 : N < 1
    · refine ⟨-nI 4, sG, ta, tb, tc, sM, mi, ra_rf φ 4, ?_, ?_⟩
      · rw [eG]
        simp (disch := omega) only [↓reduceIte, ra_lit, ra_nf_ap, ra_st_lo, nI_add, nI_clamp, nI_ltI, nI_leI, nI_eq, Option.bind_some, if_true, if_false, not_false_eq_true, not_true_eq_false, ra_ltT, ra_ltF, ra_leT, ra_leF, ra_eqT, ra_eqF, or_false, false_or, or_true, true_or, and_true, true_and, and_false, false_and, rc_refuse]
      · rw [eM]
        simp (disch := omega) only [↓reduceIte, ra_lit, ra_nf_ap, ra_st_lo, nI_add, nI_clamp, nI_ltI, nI_leI, nI_eq, Option.bind_some, if_true, if_false, not_false_eq_true, not_true_eq_false, ra_ltT, ra_ltF, ra_leT, ra_leF, ra_eqT, ra_eqF, or_false, false_or, or_true, true_or, and_true, true_and, and_false, false_and, rr_no]
    by_cases c20 : 20 < N
    · refine ⟨-nI 6, sG, ta, tb, tc, sM, mi, ra_rf φ 6, ?_, ?_⟩
      · rw [eG]
        simp (disch := omega) only [↓reduceIte, ra_lit, ra_nf_ap, ra_st_lo, nI_add, nI_clamp, nI_ltI, nI_leI, nI_eq, Option.bind_some, if_true, if_false, not_false_eq_true, not_true_eq_false, ra_ltT, ra_ltF, ra_leT, ra_leF, ra_eqT, ra_eqF, or_false, false_or, or_true, true_or, and_true, true_and, and_false, false_and, rc_refuse]
      · rw [eM]
        simp (disch := omega) only [↓reduceIte, ra_lit, ra_nf_ap, ra_st_lo, nI_add, nI_clamp, nI_ltI, nI_leI, nI_eq, Option.bind_some, if_true, if_false, not_false_eq_true, not_true_eq_false, ra_ltT, ra_ltF, ra_leT, ra_leF, ra_eqT, ra_eqF, or_false, false_or, or_true, true_or, and_true, true_and, and_false, false_and, rr_no]
    obtain ⟨z, hz, ez⟩ := ra_int p2
    obtain ⟨r, z1, z2, s, a, b, c, s', e1, e2⟩ := ra_loL h p2 (ra_nf φ) (ra_nf φ) (N := N) (by omega) N 0 rf_fu rf_fu (ra_un G 3 z) (ra_un M 6 z) (nI 0) ta tb tc (ra_st γ κ τ) (by omega) (by unfold rf_fu; omega) (by unfold rf_fu; omega) rfl
    rw [ra_unun] at e1 e2
    refine ⟨r, s, a, b, c, s, ra_st γ κ τ, φ, ?_, ?_⟩
    · have e3 : upd (ra_nf G) 3 p2 = ra_nf (ra_un G 3 z) := by rw [ez, ra_upd]
      simp (disch := omega) only [↓reduceIte, ra_lit, ra_nf_ap, ra_st_lo, nI_add, nI_clamp, nI_ltI, nI_leI, nI_eq, Option.bind_some, if_true, if_false, not_false_eq_true, not_true_eq_false, ra_ltT, ra_ltF, ra_leT, ra_leF, ra_eqT, ra_eqF, or_false, false_or, or_true, true_or, and_true, true_and, and_false, false_and, e3, e1]
    · have e3 : upd (ra_nf M) 6 p2 = ra_nf (ra_un M 6 z) := by rw [ez, ra_upd]
      unfold f_X3_begins f_X3_ends
      simp (disch := omega) only [↓reduceIte, ra_lit, ra_nf_ap, ra_st_lo, nI_add, nI_clamp, nI_ltI, nI_leI, nI_eq, Option.bind_some, if_true, if_false, not_false_eq_true, not_true_eq_false, ra_ltT, ra_ltF, ra_leT, ra_leF, ra_eqT, ra_eqF, or_false, false_or, or_true, true_or, and_true, true_and, and_false, false_and, e3, rr_lays, e2]
end RALoops
end
section
/-! months: sticks, falls, year, two, worth -/
section RAMonths
def ra_te (m : Nat) : Int32 := nI m - nI 1
def ra_top (f : Nat → Nat) : Nat → Nat
  | 0 => 0
  | n + 1 => max (ra_top f n) (f n + 1)
theorem ra_top_le (f : Nat → Nat) (c : Nat) : ∀ n, ra_top f n ≤ c ↔ ∀ p, p < n → f p + 1 ≤ c := by
  intro n
  induction n with
  | zero => exact ⟨fun _ p hp => absurd hp (Nat.not_lt_zero p), fun _ => Nat.zero_le _⟩
  | succ n ih =>
    unfold ra_top
    constructor
    · intro h p hp
      by_cases e : p = n
      · subst e; omega
      · exact ih.mp (by omega) p (by omega)
    · intro h
      have h1 := ih.mpr (fun p hp => h p (by omega))
      have h2 := h n (by omega)
      omega
theorem ra_te_toInt {m : Nat} (h : m < 2 ^ 30) : (ra_te m).toInt = (m : Int) - 1 := pk_sub_toInt h (by decide)
theorem ra_te_le {m c : Nat} (h : m < 2 ^ 30) (hc : c < 2 ^ 30) : (ra_te m ≤ nI c) = (m ≤ c + 1) := by
  apply propext
  rw [Int32.le_iff_toInt_le, ra_te_toInt h, nI_toInt (by omega)]
  omega
theorem ra_le_te {m c : Nat} (h : m < 2 ^ 30) (hc : c < 2 ^ 30) : (nI c ≤ ra_te m) = (c + 1 ≤ m) := by
  apply propext
  rw [Int32.le_iff_toInt_le, ra_te_toInt h, nI_toInt (by omega)]
  omega
theorem ra_lt_te {m c : Nat} (h : m < 2 ^ 30) (hc : c < 2 ^ 30) : (nI c < ra_te m) = (c + 1 < m) := by
  apply propext
  rw [Int32.lt_iff_toInt_lt, ra_te_toInt h, nI_toInt (by omega)]
  omega
theorem ra_te_max {m v : Nat} (h : m < 2 ^ 29) (hv : v < 2 ^ 29) : rf_max (ra_te m) (nI v) = ra_te (max m (v + 1)) := by
  unfold rf_max
  apply Int32.toInt_inj.mp
  rw [ra_te_toInt (by omega)]
  by_cases c : ra_te m < nI v
  · rw [if_pos c, nI_toInt (by omega)]
    have c := Int32.lt_iff_toInt_lt.mp c
    rw [ra_te_toInt (by omega), nI_toInt (by omega)] at c
    omega
  · rw [if_neg c, ra_te_toInt (by omega)]
    have c : ¬ (ra_te m).toInt < (nI v).toInt := fun z => c (Int32.lt_iff_toInt_lt.mpr z)
    rw [ra_te_toInt (by omega), nI_toInt (by omega)] at c
    omega
/-- how thick, by part -/
def ra_pf (κ τ : Nat → Nat) (sw co he : Nat) (j : Nat) : Nat := ra_tk (κ j) (τ j) sw co he
theorem ra_top_bd {κ τ : Nat → Nat} {sw co he n : Nat} (hτ : ∀ j, τ j ≤ 240) (hs : sw < 1000) (hh : he < 1000) : ra_top (ra_pf κ τ sw co he) n ≤ 10000 := by
  rw [ra_top_le]
  intro p _
  have := hτ p
  have := ra_tk_le (k := κ p) (th := τ p) (sw := sw) (co := co) (he := he) (by omega) hs hh
  exact this
theorem rc_topL {γ κ τ : Nat → Nat} (h : ra_ok γ κ τ) : ∀ (d p m : Nat), p + d = γ 0 → d < m →
    f_X0_thickestNow_L4 (ra_nf γ) (ra_nf κ) (ra_nf τ) m (ra_te (ra_top (ra_pf κ τ (γ 4) (γ 5) (γ 7)) p)) (nI p) = some (ra_te (ra_top (ra_pf κ τ (γ 4) (γ 5) (γ 7)) (γ 0)), nI (γ 0)) := by
  obtain ⟨h0, h1, h2, h3, h4, h5, h6, h7, h8, h9, h10, h11⟩ := id h
  intro d
  induction d with
  | zero =>
    intro p m hp hm
    obtain ⟨m, rfl⟩ : ∃ q, m = q + 1 := ⟨m - 1, by omega⟩
    obtain rfl : p = γ 0 := by omega
    rw [f_X0_thickestNow_L4]
    simp (disch := omega) only [↓reduceIte, ra_lit, ra_nf_ap, ra_st_lo, nI_add, nI_clamp, nI_ltI, nI_leI, nI_eq, Option.bind_some, if_true, if_false, not_false_eq_true, not_true_eq_false, ra_ltT, ra_ltF, ra_leT, ra_leF, ra_eqT, ra_eqF, or_false, false_or, or_true, true_or, and_true, true_and, and_false, false_and]
  | succ d ih =>
    intro p m hp hm
    obtain ⟨m, rfl⟩ : ∃ q, m = q + 1 := ⟨m - 1, by omega⟩
    have hb := ra_top_bd (κ := κ) (τ := τ) (sw := γ 4) (co := γ 5) (he := γ 7) (n := p) h11 (by omega) (by omega)
    have := h11 p
    have hv := ra_tk_le (k := κ p) (th := τ p) (sw := γ 4) (co := γ 5) (he := γ 7) (by omega) (by omega) (by omega)
    rw [f_X0_thickestNow_L4]
    simp (disch := omega) only [↓reduceIte, ra_lit, ra_nf_ap, ra_st_lo, nI_add, nI_clamp, nI_ltI, nI_leI, nI_eq, Option.bind_some, if_true, if_false, not_false_eq_true, not_true_eq_false, ra_ltT, ra_ltF, ra_leT, ra_leF, ra_eqT, ra_eqF, or_false, false_or, or_true, true_or, and_true, true_and, and_false, false_and, rc_thickNow h, ra_te_max]
    exact ih (p + 1) m (by omega) (by omega)
theorem rc_thickest {γ κ τ : Nat → Nat} (h : ra_ok γ κ τ) : f_X0_thickestNow (ra_nf γ) (ra_nf κ) (ra_nf τ) = some (ra_te (ra_top (ra_pf κ τ (γ 4) (γ 5) (γ 7)) (γ 0))) := by
  have h1 := rc_topL h (γ 0) 0 rf_fu (by omega) (by have := h.1; unfold rf_fu; omega)
  have h1 : f_X0_thickestNow_L4 (ra_nf γ) (ra_nf κ) (ra_nf τ) rf_fu (-1) 0 = _ := h1
  unfold f_X0_thickestNow
  rw [h1]
  rfl
/-- the thickest of a month, one more -/
def ra_T (γ κ τ ρ : Nat → Nat) (i : Nat) : Nat := ra_top (ra_pf κ τ (2 * ρ i) (9 - ρ i) (ρ i)) (γ 0)
theorem ra_T_le {γ κ τ ρ : Nat → Nat} (h : ra_ok γ κ τ) (hρ : ∀ j, ρ j ≤ 9) (i : Nat) : ra_T γ κ τ ρ i ≤ 10000 := by
  obtain ⟨h0, h1, h2, h3, h4, h5, h6, h7, h8, h9, h10, h11⟩ := id h
  have := hρ i
  exact ra_top_bd h11 (by omega) (by omega)
theorem rc_meL {γ κ τ : Nat → Nat} (ρ : Nat → Nat) (a n1 n2 n3 : Nat → Int32) (h : ra_ok γ κ τ) (hρ : ∀ j, ρ j ≤ 9) : ∀ (d i m : Nat) (γ' : Nat → Nat) (th : Nat → Int32), i + d = 12 → d < m → ra_ok γ' κ τ → γ' 0 = γ 0 → (∀ j, j < i → th j = ra_te (ra_T γ κ τ ρ j)) →
    ∃ x b th', f_X2_measureMonths_L13 a n1 n2 n3 (ra_nf ρ) (ra_nf κ) (ra_nf τ) m (nI i) (ra_nf γ') th = some (x, b, th') ∧ ∀ j, j < 12 → th' j = ra_te (ra_T γ κ τ ρ j) := by
  intro d
  induction d with
  | zero =>
    intro i m γ' th hi hm h' e0 hth
    obtain ⟨m, rfl⟩ : ∃ q, m = q + 1 := ⟨m - 1, by omega⟩
    obtain rfl : i = 12 := by omega
    refine ⟨nI 12, ra_nf γ', th, ?_, hth⟩
    rw [f_X2_measureMonths_L13, if_pos (by decide)]
  | succ d ih =>
    intro i m γ' th hi hm h' e0 hth
    obtain ⟨m, rfl⟩ : ∃ q, m = q + 1 := ⟨m - 1, by omega⟩
    obtain ⟨h0, h1, h2, h3, h4, h5, h6, h7, h8, h9, h10, h11⟩ := id h'
    have hv := hρ i
    have hok : ra_ok (ra_un (ra_un (ra_un γ' 7 (ρ i)) 4 (2 * ρ i)) 5 (9 - ρ i)) κ τ := ⟨h0, h1, h2, h3, h4, h5, by show 2 * ρ i ≤ 30; omega, by show 9 - ρ i ≤ 20; omega, h8, hv, h10, h11⟩
    have ht := rc_thickest hok
    have ht : f_X0_thickestNow (ra_nf (ra_un (ra_un (ra_un γ' 7 (ρ i)) 4 (2 * ρ i)) 5 (9 - ρ i))) (ra_nf κ) (ra_nf τ) = some (ra_te (ra_T γ κ τ ρ i)) := by
      rw [ht]
      show some (ra_te (ra_top (ra_pf κ τ (2 * ρ i) (9 - ρ i) (ρ i)) (γ' 0))) = _
      rw [e0]
      rfl
    rw [f_X2_measureMonths_L13]
    simp (disch := omega) only [↓reduceIte, ra_lit, ra_nf_ap, ra_st_lo, nI_add, nI_clamp, nI_ltI, nI_leI, nI_eq, Option.bind_some, if_true, if_false, not_false_eq_true, not_true_eq_false, ra_ltT, ra_ltF, ra_leT, ra_leF, ra_eqT, ra_eqF, or_false, false_or, or_true, true_or, and_true, true_and, and_false, false_and, ra_at, pk_mul, pk_sub, ra_upd, ht, ra_put]
    exact ih (i + 1) m _ _ (by omega) (by omega) hok e0 (fun j hj => by
      unfold upd
      by_cases e : j = i
      · subst e
        rw [if_pos rfl]
      · rw [if_neg e]
        exact hth j (by omega))
theorem rc_measure {γ κ τ : Nat → Nat} (ρ : Nat → Nat) (a ta tb tc th : Nat → Int32) (h : ra_ok γ κ τ) (hρ : ∀ j, ρ j ≤ 9) :
    ∃ b th', f_X2_measureMonths a (ra_nf γ) (ra_nf κ) (ra_nf τ) ta tb tc (ra_nf ρ) th = some (b, ra_nf κ, ra_nf τ, th') ∧ ∀ j, j < 12 → th' j = ra_te (ra_T γ κ τ ρ j) := by
  obtain ⟨x, b, th', h1, h2⟩ := rc_meL ρ a (ra_nf γ) (ra_nf κ) (ra_nf τ) h hρ 12 0 rf_fu γ th rfl (by unfold rf_fu; omega) h rfl (fun j hj => absurd hj (Nat.not_lt_zero j))
  have h1 : f_X2_measureMonths_L13 a (ra_nf γ) (ra_nf κ) (ra_nf τ) (ra_nf ρ) (ra_nf κ) (ra_nf τ) rf_fu 0 (ra_nf γ) th = _ := h1
  refine ⟨b, th', ?_, h2⟩
  unfold f_X2_measureMonths
  simp only [rc_copy, Option.bind_some, h1]
/-- bits of a test -/
def ra_bt (f : Nat → Bool) : Nat → Nat
  | 0 => 0
  | n + 1 => if f n then ra_bt f n ||| 2 ^ n else ra_bt f n
theorem ra_bt_lt (f : Nat → Bool) : ∀ n, ra_bt f n < 2 ^ n := by
  intro n
  induction n with
  | zero => exact Nat.one_pos
  | succ n ih =>
    unfold ra_bt
    have e : 2 ^ (n + 1) = 2 ^ n * 2 := Nat.pow_succ 2 n
    split
    · exact Nat.or_lt_two_pow (by omega) (by have := Nat.two_pow_pos n; omega)
    · omega
theorem ra_bt_test (f : Nat → Bool) : ∀ n i, (ra_bt f n).testBit i = (decide (i < n) && f i) := by
  intro n
  induction n with
  | zero => intro i; simp [ra_bt]
  | succ n ih =>
    intro i
    unfold ra_bt
    split
    · rename_i h
      rw [Nat.testBit_or, ih, Nat.testBit_two_pow]
      by_cases e : n = i
      · subst e
        simp [h]
      · have : (i < n + 1) = (i < n) := propext (by omega)
        simp [e, this]
    · rename_i h
      rw [ih]
      by_cases e : n = i
      · subst e
        simp [h]
      · have : (i < n + 1) = (i < n) := propext (by omega)
        simp [this]
theorem ra_or {a b : Nat} (ha : a < 2 ^ 31) (hb : b < 2 ^ 31) : nI a ||| nI b = nI (a ||| b) := by
  have hab : a ||| b < 2 ^ 31 := Nat.or_lt_two_pow ha hb
  apply Int32.toBitVec_inj.mp
  apply BitVec.eq_of_toNat_eq
  rw [pk_tn (by omega), Int32.toBitVec_or, BitVec.toNat_or, pk_tn (by omega), pk_tn (by omega)]
theorem ra_and {a b : Nat} (ha : a < 2 ^ 31) (hb : b < 2 ^ 31) : nI a &&& nI b = nI (a &&& b) := by
  have hab : a &&& b ≤ a := Nat.and_le_left
  apply Int32.toBitVec_inj.mp
  apply BitVec.eq_of_toNat_eq
  rw [pk_tn (by omega), Int32.toBitVec_and, BitVec.toNat_and, pk_tn (by omega), pk_tn (by omega)]
theorem ra_sh : ∀ i, i < 13 → (1 : Int32) <<< (nI i &&& 31) = nI (2 ^ i) := by decide
theorem ra_p2 {i : Nat} (h : i ≤ 12) : 2 ^ i ≤ 4096 
  := (Nat.pow_le_pow_right (by decide) h : 2 ^ i ≤ 2 ^ 12)
def ra_cnt (f : Nat → Bool) : Nat → Nat
  | 0 => 0
  | n + 1 => ra_cnt f n + (if f n then 1 else 0)
theorem ra_cnt_le (f : Nat → Bool) : ∀ n, ra_cnt f n ≤ n := by
  intro n
  induction n with
  | zero => exact Nat.le_refl _
  | succ n ih =>
    unfold ra_cnt
    split <;> omega
theorem ra_cnt_congr {f g : Nat → Bool} : ∀ n, (∀ i, i < n → f i = g i) → ra_cnt f n = ra_cnt g n := by
  intro n
  induction n with
  | zero => intro _; rfl
  | succ n ih =>
    intro h
    unfold ra_cnt
    rw [ih (fun i hi => h i (by omega)), h n (by omega)]
theorem ra_pop0 : ∀ a, a < 64 → ∀ b, b < 64 → f_J6_bitCount_0f7a4 (nI (64 * a + b)) = some (nI (ra_cnt (64 * a + b).testBit 12)) := by decide +kernel
theorem ra_pop {v : Nat} (h : v < 4096) : f_J6_bitCount_0f7a4 (nI v) = some (nI (ra_cnt v.testBit 12)) := by
  have := ra_pop0 (v / 64) (by omega) (v % 64) (by omega)
  rw [show 64 * (v / 64) + v % 64 = v by omega] at this
  exact this
def ra_stk (γ κ τ ρ : Nat → Nat) (size i : Nat) : Bool := decide (size + 5 < ra_T γ κ τ ρ i)
def ra_fal (γ κ τ ρ : Nat → Nat) (size i : Nat) : Bool := decide (ra_T γ κ τ ρ i + 8 < size)
theorem rc_stL {γ κ τ ρ : Nat → Nat} (a th : Nat → Int32) (h : ra_ok γ κ τ) (hρ : ∀ j, ρ j ≤ 9) (hth : ∀ j, j < 12 → th j = ra_te (ra_T γ κ τ ρ j)) {size : Nat} (hs : size < 1000) : ∀ (d i m : Nat), i + d = 12 → d < m →
    f_X2_stickMonths_L4 a th (nI size) m (nI (ra_bt (ra_stk γ κ τ ρ size) i)) (nI i) = some (nI (ra_bt (ra_stk γ κ τ ρ size) 12), nI 12) := by
  intro d
  induction d with
  | zero =>
    intro i m hi hm
    obtain ⟨m, rfl⟩ : ∃ q, m = q + 1 := ⟨m - 1, by omega⟩
    obtain rfl : i = 12 := by omega
    rw [f_X2_stickMonths_L4, if_pos (by decide)]
  | succ d ih =>
    intro i m hi hm
    obtain ⟨m, rfl⟩ : ∃ q, m = q + 1 := ⟨m - 1, by omega⟩
    have hT := ra_T_le h hρ i
    have h2 := ra_p2 (i := i) (by omega)
    have hb := ra_bt_lt (ra_stk γ κ τ ρ size) i
    rw [f_X2_stickMonths_L4, ra_sh i (by omega)]
    simp (disch := omega) only [↓reduceIte, ra_lit, ra_nf_ap, ra_st_lo, nI_add, nI_clamp, nI_ltI, nI_leI, nI_eq, Option.bind_some, if_true, if_false, not_false_eq_true, not_true_eq_false, ra_ltT, ra_ltF, ra_leT, ra_leF, ra_eqT, ra_eqF, or_false, false_or, or_true, true_or, and_true, true_and, and_false, false_and, ra_at, hth i (by omega), ra_te_le, ra_or]
    have ih := ih (i + 1) m (by omega) (by omega)
    unfold ra_bt at ih
    by_cases c : size + 5 < ra_T γ κ τ ρ i
    · have e : ra_stk γ κ τ ρ size i = true := decide_eq_true c
      rw [if_neg (by omega)]
      rw [e] at ih
      exact ih
    · have e : ra_stk γ κ τ ρ size i = false := decide_eq_false c
      rw [if_pos (by omega)]
      rw [e] at ih
      exact ih
theorem rc_stick {γ κ τ ρ : Nat → Nat} (a th : Nat → Int32) (h : ra_ok γ κ τ) (hρ : ∀ j, ρ j ≤ 9) (hth : ∀ j, j < 12 → th j = ra_te (ra_T γ κ τ ρ j)) {size : Nat} (hs : size < 1000) :
    f_X2_stickMonths a th (nI size) = some (nI (ra_bt (ra_stk γ κ τ ρ size) 12)) := by
  have h1 := rc_stL a th h hρ hth hs 12 0 rf_fu rfl (by unfold rf_fu; omega)
  have h1 : f_X2_stickMonths_L4 a th (nI size) rf_fu 0 0 = _ := h1
  unfold f_X2_stickMonths
  rw [h1]
  rfl
theorem rc_flL {γ κ τ ρ : Nat → Nat} (a th : Nat → Int32) (h : ra_ok γ κ τ) (hρ : ∀ j, ρ j ≤ 9) (hth : ∀ j, j < 12 → th j = ra_te (ra_T γ κ τ ρ j)) {size : Nat} (hs : size < 1000) (h100 : 100 ≤ size) : ∀ (d i m : Nat), i + d = 12 → d < m →
    f_X2_fallMonths_L4 a th (nI size) m (nI (ra_bt (ra_fal γ κ τ ρ size) i)) (nI i) = some (nI (ra_bt (ra_fal γ κ τ ρ size) 12), nI 12) := by
  intro d
  induction d with
  | zero =>
    intro i m hi hm
    obtain ⟨m, rfl⟩ : ∃ q, m = q + 1 := ⟨m - 1, by omega⟩
    obtain rfl : i = 12 := by omega
    rw [f_X2_fallMonths_L4, if_pos (by decide)]
  | succ d ih =>
    intro i m hi hm
    obtain ⟨m, rfl⟩ : ∃ q, m = q + 1 := ⟨m - 1, by omega⟩
    have hT := ra_T_le h hρ i
    have h2 := ra_p2 (i := i) (by omega)
    have hb := ra_bt_lt (ra_fal γ κ τ ρ size) i
    rw [f_X2_fallMonths_L4, ra_sh i (by omega)]
    simp (disch := omega) only [↓reduceIte, ra_lit, ra_nf_ap, ra_st_lo, nI_add, nI_clamp, nI_ltI, nI_leI, nI_eq, Option.bind_some, if_true, if_false, not_false_eq_true, not_true_eq_false, ra_ltT, ra_ltF, ra_leT, ra_leF, ra_eqT, ra_eqF, or_false, false_or, or_true, true_or, and_true, true_and, and_false, false_and, ra_at, hth i (by omega), pk_sub, ra_le_te, ra_or]
    have ih := ih (i + 1) m (by omega) (by omega)
    unfold ra_bt at ih
    by_cases c : ra_T γ κ τ ρ i + 8 < size
    · have e : ra_fal γ κ τ ρ size i = true := decide_eq_true c
      rw [if_neg (by omega)]
      rw [e] at ih
      exact ih
    · have e : ra_fal γ κ τ ρ size i = false := decide_eq_false c
      rw [if_pos (by omega)]
      rw [e] at ih
      exact ih
theorem rc_fall {γ κ τ ρ : Nat → Nat} (a th : Nat → Int32) (h : ra_ok γ κ τ) (hρ : ∀ j, ρ j ≤ 9) (hth : ∀ j, j < 12 → th j = ra_te (ra_T γ κ τ ρ j)) {size : Nat} (hs : size < 1000) (h100 : 100 ≤ size) :
    f_X2_fallMonths a th (nI size) = some (nI (ra_bt (ra_fal γ κ τ ρ size) 12)) := by
  have h1 := rc_flL a th h hρ hth hs h100 12 0 rf_fu rfl (by unfold rf_fu; omega)
  have h1 : f_X2_fallMonths_L4 a th (nI size) rf_fu 0 0 = _ := h1
  unfold f_X2_fallMonths
  rw [h1]
  rfl
theorem rr_siL {γ κ τ ρ : Nat → Nat} (M : Nat → Nat) (p1 : Int32) (h : ra_ok γ κ τ) (hρ : ∀ j, ρ j ≤ 9) {i size : Nat} (hs : size < 1000) : ∀ (d p m : Nat), p + d = γ 0 → d < m →
    f_X3_sticksIn_L10 (ra_nf M) (ra_st γ κ τ) (ra_nf ρ) p1 (nI size) (nI (ρ i)) m (nI p) = some (if ∀ q, q < γ 0 → p ≤ q → ra_pf κ τ (2 * ρ i) (9 - ρ i) (ρ i) q ≤ size + 4 then Sum.inr (nI (γ 0)) else Sum.inl (nI 1)) := by
  obtain ⟨h0, h1, h2, h3, h4, h5, h6, h7, h8, h9, h10, h11⟩ := id h
  have hv := hρ i
  intro d
  induction d with
  | zero =>
    intro p m hp hm
    obtain ⟨m, rfl⟩ : ∃ q, m = q + 1 := ⟨m - 1, by omega⟩
    obtain rfl : p = γ 0 := by omega
    rw [f_X3_sticksIn_L10, if_pos (fun q a b => by omega)]
    simp (disch := omega) only [↓reduceIte, ra_lit, ra_nf_ap, ra_st_lo, nI_add, nI_clamp, nI_ltI, nI_leI, nI_eq, Option.bind_some, if_true, if_false, not_false_eq_true, not_true_eq_false, ra_ltT, ra_ltF, ra_leT, ra_leF, ra_eqT, ra_eqF, or_false, false_or, or_true, true_or, and_true, true_and, and_false, false_and]
  | succ d ih =>
    intro p m hp hm
    obtain ⟨m, rfl⟩ : ∃ q, m = q + 1 := ⟨m - 1, by omega⟩
    have := h11 p
    have ht := ra_tk_le (k := κ p) (th := τ p) (sw := 2 * ρ i) (co := 9 - ρ i) (he := ρ i) (by omega) (by omega) (by omega)
    rw [f_X3_sticksIn_L10]
    simp (disch := omega) only [↓reduceIte, ra_lit, ra_nf_ap, ra_st_lo, nI_add, nI_clamp, nI_ltI, nI_leI, nI_eq, Option.bind_some, if_true, if_false, not_false_eq_true, not_true_eq_false, ra_ltT, ra_ltF, ra_leT, ra_leF, ra_eqT, ra_eqF, or_false, false_or, or_true, true_or, and_true, true_and, and_false, false_and, pk_mul, pk_sub, rr_partBy h]
    by_cases c : ra_tk (κ p) (τ p) (2 * ρ i) (9 - ρ i) (ρ i) ≤ size + 4
    · rw [if_pos c, ih (p + 1) m (by omega) (by omega)]
      have e : (∀ q, q < γ 0 → p + 1 ≤ q → ra_pf κ τ (2 * ρ i) (9 - ρ i) (ρ i) q ≤ size + 4) ↔ (∀ q, q < γ 0 → p ≤ q → ra_pf κ τ (2 * ρ i) (9 - ρ i) (ρ i) q ≤ size + 4) := by
        constructor
        · intro z q a b
          by_cases e : q = p
          · subst e; exact c
          · exact z q a (by omega)
        · intro z q a b
          exact z q a (by omega)
      simp only [e]
    · rw [if_neg c, if_neg (fun z => c (z p (by omega) (Nat.le_refl _)))]
theorem rr_sticksIn {γ κ τ ρ : Nat → Nat} (M : Nat → Nat) (h : ra_ok γ κ τ) (hρ : ∀ j, ρ j ≤ 9) {i size : Nat} (hi : i < 12) (hs : size < 1000) :
    f_X3_sticksIn (ra_nf M) (ra_st γ κ τ) (ra_nf ρ) (nI i) (nI size) = some (nI (if ra_stk γ κ τ ρ size i then 1 else 0)) := by
  have h1 := rr_siL M (nI i) h hρ (i := i) hs (γ 0) 0 rf_fu (by omega) (by have := h.1; unfold rf_fu; omega)
  unfold f_X3_sticksIn
  have e : (∀ q, q < γ 0 → 0 ≤ q → ra_pf κ τ (2 * ρ i) (9 - ρ i) (ρ i) q ≤ size + 4) ↔ ra_T γ κ τ ρ i ≤ size + 5 := by
    unfold ra_T
    rw [ra_top_le]
    exact ⟨fun z p hp => by have := z p hp (Nat.zero_le _); omega, fun z q hq _ => by have := z q hq; omega⟩
  by_cases c : ra_T γ κ τ ρ i ≤ size + 5
  · have e2 : ra_stk γ κ τ ρ size i = false := decide_eq_false (by omega)
    rw [if_pos (e.mpr c)] at h1
    simp (disch := omega) only [↓reduceIte, ra_lit, ra_nf_ap, ra_st_lo, nI_add, nI_clamp, nI_ltI, nI_leI, nI_eq, Option.bind_some, if_true, if_false, not_false_eq_true, not_true_eq_false, ra_ltT, ra_ltF, ra_leT, ra_leF, ra_eqT, ra_eqF, or_false, false_or, or_true, true_or, and_true, true_and, and_false, false_and, h1]
    rw [e2]
    rfl
  · have e2 : ra_stk γ κ τ ρ size i = true := decide_eq_true (by omega)
    rw [if_neg (fun z => c (e.mp z))] at h1
    simp (disch := omega) only [↓reduceIte, ra_lit, ra_nf_ap, ra_st_lo, nI_add, nI_clamp, nI_ltI, nI_leI, nI_eq, Option.bind_some, if_true, if_false, not_false_eq_true, not_true_eq_false, ra_ltT, ra_ltF, ra_leT, ra_leF, ra_eqT, ra_eqF, or_false, false_or, or_true, true_or, and_true, true_and, and_false, false_and, h1]
    rw [e2]
    rfl
theorem rr_fiL {γ κ τ ρ : Nat → Nat} (M : Nat → Nat) (p1 : Int32) (h : ra_ok γ κ τ) (hρ : ∀ j, ρ j ≤ 9) {i size : Nat} (hs : size < 1000) (h100 : 100 ≤ size) : ∀ (d p m : Nat), p + d = γ 0 → d < m →
    f_X3_fallsIn_L10 (ra_nf M) (ra_st γ κ τ) (ra_nf ρ) p1 (nI size) (nI (ρ i)) m (nI p) = some (if ∀ q, q < γ 0 → p ≤ q → ra_pf κ τ (2 * ρ i) (9 - ρ i) (ρ i) q < size - 9 then Sum.inr (nI (γ 0)) else Sum.inl (nI 0)) := by
  obtain ⟨h0, h1, h2, h3, h4, h5, h6, h7, h8, h9, h10, h11⟩ := id h
  have hv := hρ i
  intro d
  induction d with
  | zero =>
    intro p m hp hm
    obtain ⟨m, rfl⟩ : ∃ q, m = q + 1 := ⟨m - 1, by omega⟩
    obtain rfl : p = γ 0 := by omega
    rw [f_X3_fallsIn_L10, if_pos (fun q a b => by omega)]
    simp (disch := omega) only [↓reduceIte, ra_lit, ra_nf_ap, ra_st_lo, nI_add, nI_clamp, nI_ltI, nI_leI, nI_eq, Option.bind_some, if_true, if_false, not_false_eq_true, not_true_eq_false, ra_ltT, ra_ltF, ra_leT, ra_leF, ra_eqT, ra_eqF, or_false, false_or, or_true, true_or, and_true, true_and, and_false, false_and]
  | succ d ih =>
    intro p m hp hm
    obtain ⟨m, rfl⟩ : ∃ q, m = q + 1 := ⟨m - 1, by omega⟩
    have := h11 p
    have ht := ra_tk_le (k := κ p) (th := τ p) (sw := 2 * ρ i) (co := 9 - ρ i) (he := ρ i) (by omega) (by omega) (by omega)
    rw [f_X3_fallsIn_L10]
    simp (disch := omega) only [↓reduceIte, ra_lit, ra_nf_ap, ra_st_lo, nI_add, nI_clamp, nI_ltI, nI_leI, nI_eq, Option.bind_some, if_true, if_false, not_false_eq_true, not_true_eq_false, ra_ltT, ra_ltF, ra_leT, ra_leF, ra_eqT, ra_eqF, or_false, false_or, or_true, true_or, and_true, true_and, and_false, false_and, pk_mul, pk_sub, rr_partBy h]
    by_cases c : ra_tk (κ p) (τ p) (2 * ρ i) (9 - ρ i) (ρ i) < size - 9
    · rw [if_pos c, ih (p + 1) m (by omega) (by omega)]
      have e : (∀ q, q < γ 0 → p + 1 ≤ q → ra_pf κ τ (2 * ρ i) (9 - ρ i) (ρ i) q < size - 9) ↔ (∀ q, q < γ 0 → p ≤ q → ra_pf κ τ (2 * ρ i) (9 - ρ i) (ρ i) q < size - 9) := by
        constructor
        · intro z q a b
          by_cases e : q = p
          · subst e; exact c
          · exact z q a (by omega)
        · intro z q a b
          exact z q a (by omega)
      simp only [e]
    · rw [if_neg c, if_neg (fun z => c (z p (by omega) (Nat.le_refl _)))]
theorem rr_fallsIn {γ κ τ ρ : Nat → Nat} (M : Nat → Nat) (h : ra_ok γ κ τ) (hρ : ∀ j, ρ j ≤ 9) {i size : Nat} (hi : i < 12) (hs : size < 1000) (h100 : 100 ≤ size) :
    f_X3_fallsIn (ra_nf M) (ra_st γ κ τ) (ra_nf ρ) (nI i) (nI size) = some (nI (if ra_fal γ κ τ ρ size i then 1 else 0)) := by
  have h1 := rr_fiL M (nI i) h hρ (i := i) hs h100 (γ 0) 0 rf_fu (by omega) (by have := h.1; unfold rf_fu; omega)
  unfold f_X3_fallsIn
  have e : (∀ q, q < γ 0 → 0 ≤ q → ra_pf κ τ (2 * ρ i) (9 - ρ i) (ρ i) q < size - 9) ↔ ra_T γ κ τ ρ i ≤ size - 9 := by
    unfold ra_T
    rw [ra_top_le]
    exact ⟨fun z p hp => by have := z p hp (Nat.zero_le _); omega, fun z q hq _ => by have := z q hq; omega⟩
  by_cases c : ra_T γ κ τ ρ i ≤ size - 9
  · have e2 : ra_fal γ κ τ ρ size i = true := decide_eq_true (by omega)
    rw [if_pos (e.mpr c)] at h1
    simp (disch := omega) only [↓reduceIte, ra_lit, ra_nf_ap, ra_st_lo, nI_add, nI_clamp, nI_ltI, nI_leI, nI_eq, Option.bind_some, if_true, if_false, not_false_eq_true, not_true_eq_false, ra_ltT, ra_ltF, ra_leT, ra_leF, ra_eqT, ra_eqF, or_false, false_or, or_true, true_or, and_true, true_and, and_false, false_and, h1]
    rw [e2]
    rfl
  · have e2 : ra_fal γ κ τ ρ size i = false := decide_eq_false (by omega)
    rw [if_neg (fun z => c (e.mp z))] at h1
    simp (disch := omega) only [↓reduceIte, ra_lit, ra_nf_ap, ra_st_lo, nI_add, nI_clamp, nI_ltI, nI_leI, nI_eq, Option.bind_some, if_true, if_false, not_false_eq_true, not_true_eq_false, ra_ltT, ra_ltF, ra_leT, ra_leF, ra_eqT, ra_eqF, or_false, false_or, or_true, true_or, and_true, true_and, and_false, false_and, h1]
    rw [e2]
    rfl
end RAMonths
end
section
/-! the calls about months -/
section RAYear
theorem rr_ahL (M ρ : Nat → Nat) {R : Nat} (hM : M 2 = R) (hR : R ≤ 12) (hρ : ∀ j, ρ j ≤ 9) : ∀ (d i m : Nat), i + d = R → d < m → f_X3_areHeats_L2 (ra_nf M) (ra_nf ρ) m (nI i) = some (Sum.inr (nI R)) := by
  intro d
  induction d with
  | zero =>
    intro i m hi hm
    obtain ⟨m, rfl⟩ : ∃ q, m = q + 1 := ⟨m - 1, by omega⟩
    obtain rfl : i = R := by omega
    rw [f_X3_areHeats_L2]
    simp (disch := omega) only [↓reduceIte, ra_lit, ra_nf_ap, ra_st_lo, nI_add, nI_clamp, nI_ltI, nI_leI, nI_eq, Option.bind_some, if_true, if_false, not_false_eq_true, not_true_eq_false, ra_ltT, ra_ltF, ra_leT, ra_leF, ra_eqT, ra_eqF, or_false, false_or, or_true, true_or, and_true, true_and, and_false, false_and, hM]
  | succ d ih =>
    intro i m hi hm
    obtain ⟨m, rfl⟩ : ∃ q, m = q + 1 := ⟨m - 1, by omega⟩
    have := hρ i
    rw [f_X3_areHeats_L2]
    simp (disch := omega) only [↓reduceIte, ra_lit, ra_nf_ap, ra_st_lo, nI_add, nI_clamp, nI_ltI, nI_leI, nI_eq, Option.bind_some, if_true, if_false, not_false_eq_true, not_true_eq_false, ra_ltT, ra_ltF, ra_leT, ra_leF, ra_eqT, ra_eqF, or_false, false_or, or_true, true_or, and_true, true_and, and_false, false_and, hM]
    exact ih (i + 1) m (by omega) (by omega)
theorem rr_areHeats (M ρ : Nat → Nat) {R : Nat} (hM : M 2 = R) (hR : R ≤ 12) (hρ : ∀ j, ρ j ≤ 9) : f_X3_areHeats (ra_nf M) (ra_nf ρ) = some (nI (if R = 12 then 1 else 0)) := by
  have h1 := rr_ahL M ρ hM hR hρ R 0 rf_fu (by omega) (by unfold rf_fu; omega)
  have h1 : f_X3_areHeats_L2 (ra_nf M) (ra_nf ρ) rf_fu 0 = _ := h1
  unfold f_X3_areHeats
  rw [h1]
  show (if ra_nf M 2 = 12 then some 1 else some 0) = _
  rw [ra_nf_ap, hM]
  by_cases c : R = 12
  · simp (disch := omega) only [↓reduceIte, ra_lit, ra_nf_ap, ra_st_lo, nI_add, nI_clamp, nI_ltI, nI_leI, nI_eq, Option.bind_some, if_true, if_false, not_false_eq_true, not_true_eq_false, ra_ltT, ra_ltF, ra_leT, ra_leF, ra_eqT, ra_eqF, or_false, false_or, or_true, true_or, and_true, true_and, and_false, false_and]
  · simp (disch := omega) only [↓reduceIte, ra_lit, ra_nf_ap, ra_st_lo, nI_add, nI_clamp, nI_ltI, nI_leI, nI_eq, Option.bind_some, if_true, if_false, not_false_eq_true, not_true_eq_false, ra_ltT, ra_ltF, ra_leT, ra_leF, ra_eqT, ra_eqF, or_false, false_or, or_true, true_or, and_true, true_and, and_false, false_and]
theorem ra_mr (G M ρ φ : Nat → Nat) {R : Nat} (hG : G 1 = R) (hM : M 2 = R) (hR : R ≤ 12) (hρ : ∀ j, ρ j ≤ 9) (p : Int32) :
    (∃ size, 100 ≤ size ∧ size ≤ 250 ∧ p = nI size ∧ R = 12 ∧ f_X2_monthRefusal (ra_nf G) (ra_nf φ) p = some (nI 0, ra_nf φ) ∧ f_X3_wrongSize (ra_nf M) (ra_nf ρ) p = some (nI 0)) ∨
    (∃ c, (c = 3 ∨ c = 4 ∨ c = 6) ∧ f_X2_monthRefusal (ra_nf G) (ra_nf φ) p = some (-nI c, ra_nf (ra_rf φ c)) ∧ f_X3_wrongSize (ra_nf M) (ra_nf ρ) p = some (-nI c)) := by
  unfold f_X2_monthRefusal f_X3_wrongSize
  rw [rr_areHeats M ρ hM hR hρ]
  by_cases hp : p < nI 0
  · right
    refine ⟨4, by omega, ?_, ?_⟩
    · simp (disch := omega) only [↓reduceIte, ra_lit, ra_nf_ap, ra_st_lo, nI_add, nI_clamp, nI_ltI, nI_leI, nI_eq, Option.bind_some, if_true, if_false, not_false_eq_true, not_true_eq_false, ra_ltT, ra_ltF, ra_leT, ra_leF, ra_eqT, ra_eqF, or_false, false_or, or_true, true_or, and_true, true_and, and_false, false_and, ra_nLe hp, rc_refuse]
    · simp (disch := omega) only [↓reduceIte, ra_lit, ra_nf_ap, ra_st_lo, nI_add, nI_clamp, nI_ltI, nI_leI, nI_eq, Option.bind_some, if_true, if_false, not_false_eq_true, not_true_eq_false, ra_ltT, ra_ltF, ra_leT, ra_leF, ra_eqT, ra_eqF, or_false, false_or, or_true, true_or, and_true, true_and, and_false, false_and, ra_nLe hp]
  · obtain ⟨v, hv, rfl⟩ := nI_of (x := p) hp
    by_cases c1 : v < 100
    · right
      refine ⟨4, by omega, ?_, ?_⟩
      · simp (disch := omega) only [↓reduceIte, ra_lit, ra_nf_ap, ra_st_lo, nI_add, nI_clamp, nI_ltI, nI_leI, nI_eq, Option.bind_some, if_true, if_false, not_false_eq_true, not_true_eq_false, ra_ltT, ra_ltF, ra_leT, ra_leF, ra_eqT, ra_eqF, or_false, false_or, or_true, true_or, and_true, true_and, and_false, false_and, rc_refuse]
      · simp (disch := omega) only [↓reduceIte, ra_lit, ra_nf_ap, ra_st_lo, nI_add, nI_clamp, nI_ltI, nI_leI, nI_eq, Option.bind_some, if_true, if_false, not_false_eq_true, not_true_eq_false, ra_ltT, ra_ltF, ra_leT, ra_leF, ra_eqT, ra_eqF, or_false, false_or, or_true, true_or, and_true, true_and, and_false, false_and]
    by_cases c2 : 250 < v
    · right
      refine ⟨6, by omega, ?_, ?_⟩
      · simp (disch := omega) only [↓reduceIte, ra_lit, ra_nf_ap, ra_st_lo, nI_add, nI_clamp, nI_ltI, nI_leI, nI_eq, Option.bind_some, if_true, if_false, not_false_eq_true, not_true_eq_false, ra_ltT, ra_ltF, ra_leT, ra_leF, ra_eqT, ra_eqF, or_false, false_or, or_true, true_or, and_true, true_and, and_false, false_and, rc_refuse]
      · simp (disch := omega) only [↓reduceIte, ra_lit, ra_nf_ap, ra_st_lo, nI_add, nI_clamp, nI_ltI, nI_leI, nI_eq, Option.bind_some, if_true, if_false, not_false_eq_true, not_true_eq_false, ra_ltT, ra_ltF, ra_leT, ra_leF, ra_eqT, ra_eqF, or_false, false_or, or_true, true_or, and_true, true_and, and_false, false_and]
    by_cases c3 : R = 12
    · left
      refine ⟨v, by omega, by omega, rfl, c3, ?_, ?_⟩
      · simp (disch := omega) only [↓reduceIte, ra_lit, ra_nf_ap, ra_st_lo, nI_add, nI_clamp, nI_ltI, nI_leI, nI_eq, Option.bind_some, if_true, if_false, not_false_eq_true, not_true_eq_false, ra_ltT, ra_ltF, ra_leT, ra_leF, ra_eqT, ra_eqF, or_false, false_or, or_true, true_or, and_true, true_and, and_false, false_and, hG]
      · simp (disch := omega) only [↓reduceIte, ra_lit, ra_nf_ap, ra_st_lo, nI_add, nI_clamp, nI_ltI, nI_leI, nI_eq, Option.bind_some, if_true, if_false, not_false_eq_true, not_true_eq_false, ra_ltT, ra_ltF, ra_leT, ra_leF, ra_eqT, ra_eqF, or_false, false_or, or_true, true_or, and_true, true_and, and_false, false_and]
    · right
      refine ⟨3, by omega, ?_, ?_⟩
      · simp (disch := omega) only [↓reduceIte, ra_lit, ra_nf_ap, ra_st_lo, nI_add, nI_clamp, nI_ltI, nI_leI, nI_eq, Option.bind_some, if_true, if_false, not_false_eq_true, not_true_eq_false, ra_ltT, ra_ltF, ra_leT, ra_leF, ra_eqT, ra_eqF, or_false, false_or, or_true, true_or, and_true, true_and, and_false, false_and, hG, rc_refuse]
      · simp (disch := omega) only [↓reduceIte, ra_lit, ra_nf_ap, ra_st_lo, nI_add, nI_clamp, nI_ltI, nI_leI, nI_eq, Option.bind_some, if_true, if_false, not_false_eq_true, not_true_eq_false, ra_ltT, ra_ltF, ra_leT, ra_leF, ra_eqT, ra_eqF, or_false, false_or, or_true, true_or, and_true, true_and, and_false, false_and]
theorem ra_nz3 {c : Nat} (h : c = 2 ∨ c = 3 ∨ c = 4 ∨ c = 6) : (-nI c = nI 0) = False := eq_false (by rcases h with rfl | rfl | rfl | rfl <;> decide)
theorem rr_stL21 {γ κ τ ρ : Nat → Nat} (M : Nat → Nat) (rf : Nat → Int32) (h : ra_ok γ κ τ) (hρ : ∀ j, ρ j ≤ 9) {size : Nat} (hs : size < 1000) : ∀ (d i m : Nat), i + d = 12 → d < m →
    f_X3_sticks_L21 (ra_nf M) (ra_st γ κ τ) (ra_nf ρ) (nI size) rf m (nI (ra_bt (ra_stk γ κ τ ρ size) i)) (nI i) = some (nI (ra_bt (ra_stk γ κ τ ρ size) 12), nI 12) := by
  intro d
  induction d with
  | zero =>
    intro i m hi hm
    obtain ⟨m, rfl⟩ : ∃ q, m = q + 1 := ⟨m - 1, by omega⟩
    obtain rfl : i = 12 := by omega
    rw [f_X3_sticks_L21, if_pos (by decide)]
  | succ d ih =>
    intro i m hi hm
    obtain ⟨m, rfl⟩ : ∃ q, m = q + 1 := ⟨m - 1, by omega⟩
    have h2 := ra_p2 (i := i) (by omega)
    have hb := ra_bt_lt (ra_stk γ κ τ ρ size) i
    have ih := ih (i + 1) m (by omega) (by omega)
    unfold ra_bt at ih
    rw [f_X3_sticks_L21, ra_sh i (by omega), rr_sticksIn M h hρ (by omega) hs]
    by_cases c : ra_stk γ κ τ ρ size i = true
    · rw [if_pos c] at ih
      simp (disch := omega) only [↓reduceIte, ra_lit, ra_nf_ap, ra_st_lo, nI_add, nI_clamp, nI_ltI, nI_leI, nI_eq, Option.bind_some, if_true, if_false, not_false_eq_true, not_true_eq_false, ra_ltT, ra_ltF, ra_leT, ra_leF, ra_eqT, ra_eqF, or_false, false_or, or_true, true_or, and_true, true_and, and_false, false_and, if_pos c, ra_or]
      exact ih
    · rw [if_neg c] at ih
      simp (disch := omega) only [↓reduceIte, ra_lit, ra_nf_ap, ra_st_lo, nI_add, nI_clamp, nI_ltI, nI_leI, nI_eq, Option.bind_some, if_true, if_false, not_false_eq_true, not_true_eq_false, ra_ltT, ra_ltF, ra_leT, ra_leF, ra_eqT, ra_eqF, or_false, false_or, or_true, true_or, and_true, true_and, and_false, false_and, if_neg c, ra_or, Nat.or_zero]
      exact ih
theorem rr_flL21 {γ κ τ ρ : Nat → Nat} (M : Nat → Nat) (rf : Nat → Int32) (h : ra_ok γ κ τ) (hρ : ∀ j, ρ j ≤ 9) {size : Nat} (hs : size < 1000) (h100 : 100 ≤ size) : ∀ (d i m : Nat), i + d = 12 → d < m →
    f_X3_falls_L21 (ra_nf M) (ra_st γ κ τ) (ra_nf ρ) (nI size) rf m (nI (ra_bt (ra_fal γ κ τ ρ size) i)) (nI i) = some (nI (ra_bt (ra_fal γ κ τ ρ size) 12), nI 12) := by
  intro d
  induction d with
  | zero =>
    intro i m hi hm
    obtain ⟨m, rfl⟩ : ∃ q, m = q + 1 := ⟨m - 1, by omega⟩
    obtain rfl : i = 12 := by omega
    rw [f_X3_falls_L21, if_pos (by decide)]
  | succ d ih =>
    intro i m hi hm
    obtain ⟨m, rfl⟩ : ∃ q, m = q + 1 := ⟨m - 1, by omega⟩
    have h2 := ra_p2 (i := i) (by omega)
    have hb := ra_bt_lt (ra_fal γ κ τ ρ size) i
    have ih := ih (i + 1) m (by omega) (by omega)
    unfold ra_bt at ih
    rw [f_X3_falls_L21, ra_sh i (by omega), rr_fallsIn M h hρ (by omega) hs h100]
    by_cases c : ra_fal γ κ τ ρ size i = true
    · rw [if_pos c] at ih
      simp (disch := omega) only [↓reduceIte, ra_lit, ra_nf_ap, ra_st_lo, nI_add, nI_clamp, nI_ltI, nI_leI, nI_eq, Option.bind_some, if_true, if_false, not_false_eq_true, not_true_eq_false, ra_ltT, ra_ltF, ra_leT, ra_leF, ra_eqT, ra_eqF, or_false, false_or, or_true, true_or, and_true, true_and, and_false, false_and, if_pos c, ra_or]
      exact ih
    · rw [if_neg c] at ih
      simp (disch := omega) only [↓reduceIte, ra_lit, ra_nf_ap, ra_st_lo, nI_add, nI_clamp, nI_ltI, nI_leI, nI_eq, Option.bind_some, if_true, if_false, not_false_eq_true, not_true_eq_false, ra_ltT, ra_ltF, ra_leT, ra_leF, ra_eqT, ra_eqF, or_false, false_or, or_true, true_or, and_true, true_and, and_false, false_and, if_neg c, ra_or, Nat.or_zero]
      exact ih
theorem tm_sticks {γ κ τ : Nat → Nat} (G M ρ φ : Nat → Nat) (ta tb tc th : Nat → Int32) {R : Nat} (hG : G 1 = R) (hM : M 2 = R) (hR : R ≤ 12) (hρ : ∀ j, ρ j ≤ 9) (h : ra_ok γ κ τ) (p : Int32) :
    ∃ r a b c th' φ', f_X2_sticks (ra_nf G) (ra_nf γ) (ra_nf κ) (ra_nf τ) ta tb tc (ra_nf ρ) th (ra_nf φ) p = some (r, a, b, c, th', ra_nf φ') ∧ f_X3_sticks (ra_nf M) (ra_st γ κ τ) (ra_nf ρ) (ra_nf φ) p = some (r, ra_nf φ') := by
  unfold f_X2_sticks f_X3_sticks
  rcases ra_mr G M ρ φ hG hM hR hρ p with ⟨size, s1, s2, rfl, e12, e1, e2⟩ | ⟨c, hc, e1, e2⟩
  · obtain ⟨b, th', h1, h2⟩ := rc_measure ρ (ra_nf G) ta tb tc th h hρ
    have h3 := rr_stL21 M (ra_nf φ) h hρ (size := size) (by omega) 12 0 rf_fu rfl (by unfold rf_fu; omega)
    have h3 : f_X3_sticks_L21 (ra_nf M) (ra_st γ κ τ) (ra_nf ρ) (nI size) (ra_nf φ) rf_fu (nI 0) (nI 0) = _ := h3
    refine ⟨nI (ra_bt (ra_stk γ κ τ ρ size) 12), b, ra_nf κ, ra_nf τ, th', φ, ?_, ?_⟩
    · rw [e1]
      simp (disch := omega) only [↓reduceIte, ra_lit, ra_nf_ap, ra_st_lo, nI_add, nI_clamp, nI_ltI, nI_leI, nI_eq, Option.bind_some, if_true, if_false, not_false_eq_true, not_true_eq_false, ra_ltT, ra_ltF, ra_leT, ra_leF, ra_eqT, ra_eqF, or_false, false_or, or_true, true_or, and_true, true_and, and_false, false_and, h1, rc_stick (ra_nf G) th' h hρ h2]
    · rw [e2]
      simp (disch := omega) only [↓reduceIte, ra_lit, ra_nf_ap, ra_st_lo, nI_add, nI_clamp, nI_ltI, nI_leI, nI_eq, Option.bind_some, if_true, if_false, not_false_eq_true, not_true_eq_false, ra_ltT, ra_ltF, ra_leT, ra_leF, ra_eqT, ra_eqF, or_false, false_or, or_true, true_or, and_true, true_and, and_false, false_and, h3]
  · refine ⟨-nI c, ta, tb, tc, th, ra_rf φ c, ?_, ?_⟩
    · rw [e1]
      simp (disch := omega) only [↓reduceIte, ra_lit, ra_nf_ap, ra_st_lo, nI_add, nI_clamp, nI_ltI, nI_leI, nI_eq, Option.bind_some, if_true, if_false, not_false_eq_true, not_true_eq_false, ra_ltT, ra_ltF, ra_leT, ra_leF, ra_eqT, ra_eqF, or_false, false_or, or_true, true_or, and_true, true_and, and_false, false_and, ra_nz3 (c := c) (by omega)]
    · rw [e2]
      have : c < 7 := by omega
      simp (disch := omega) only [↓reduceIte, ra_lit, ra_nf_ap, ra_st_lo, nI_add, nI_clamp, nI_ltI, nI_leI, nI_eq, Option.bind_some, if_true, if_false, not_false_eq_true, not_true_eq_false, ra_ltT, ra_ltF, ra_leT, ra_leF, ra_eqT, ra_eqF, or_false, false_or, or_true, true_or, and_true, true_and, and_false, false_and, ra_nz3 (c := c) (by omega), rr_no]
theorem tm_falls {γ κ τ : Nat → Nat} (G M ρ φ : Nat → Nat) (ta tb tc th : Nat → Int32) {R : Nat} (hG : G 1 = R) (hM : M 2 = R) (hR : R ≤ 12) (hρ : ∀ j, ρ j ≤ 9) (h : ra_ok γ κ τ) (p : Int32) :
    ∃ r a b c th' φ', f_X2_falls (ra_nf G) (ra_nf γ) (ra_nf κ) (ra_nf τ) ta tb tc (ra_nf ρ) th (ra_nf φ) p = some (r, a, b, c, th', ra_nf φ') ∧ f_X3_falls (ra_nf M) (ra_st γ κ τ) (ra_nf ρ) (ra_nf φ) p = some (r, ra_nf φ') := by
  unfold f_X2_falls f_X3_falls
  rcases ra_mr G M ρ φ hG hM hR hρ p with ⟨size, s1, s2, rfl, e12, e1, e2⟩ | ⟨c, hc, e1, e2⟩
  · obtain ⟨b, th', h1, h2⟩ := rc_measure ρ (ra_nf G) ta tb tc th h hρ
    have h3 := rr_flL21 M (ra_nf φ) h hρ (size := size) (by omega) s1 12 0 rf_fu rfl (by unfold rf_fu; omega)
    have h3 : f_X3_falls_L21 (ra_nf M) (ra_st γ κ τ) (ra_nf ρ) (nI size) (ra_nf φ) rf_fu (nI 0) (nI 0) = _ := h3
    refine ⟨nI (ra_bt (ra_fal γ κ τ ρ size) 12), b, ra_nf κ, ra_nf τ, th', φ, ?_, ?_⟩
    · rw [e1]
      simp (disch := omega) only [↓reduceIte, ra_lit, ra_nf_ap, ra_st_lo, nI_add, nI_clamp, nI_ltI, nI_leI, nI_eq, Option.bind_some, if_true, if_false, not_false_eq_true, not_true_eq_false, ra_ltT, ra_ltF, ra_leT, ra_leF, ra_eqT, ra_eqF, or_false, false_or, or_true, true_or, and_true, true_and, and_false, false_and, h1, rc_fall (ra_nf G) th' h hρ h2]
    · rw [e2]
      simp (disch := omega) only [↓reduceIte, ra_lit, ra_nf_ap, ra_st_lo, nI_add, nI_clamp, nI_ltI, nI_leI, nI_eq, Option.bind_some, if_true, if_false, not_false_eq_true, not_true_eq_false, ra_ltT, ra_ltF, ra_leT, ra_leF, ra_eqT, ra_eqF, or_false, false_or, or_true, true_or, and_true, true_and, and_false, false_and, h3]
  · refine ⟨-nI c, ta, tb, tc, th, ra_rf φ c, ?_, ?_⟩
    · rw [e1]
      simp (disch := omega) only [↓reduceIte, ra_lit, ra_nf_ap, ra_st_lo, nI_add, nI_clamp, nI_ltI, nI_leI, nI_eq, Option.bind_some, if_true, if_false, not_false_eq_true, not_true_eq_false, ra_ltT, ra_ltF, ra_leT, ra_leF, ra_eqT, ra_eqF, or_false, false_or, or_true, true_or, and_true, true_and, and_false, false_and, ra_nz3 (c := c) (by omega)]
    · rw [e2]
      have : c < 7 := by omega
      simp (disch := omega) only [↓reduceIte, ra_lit, ra_nf_ap, ra_st_lo, nI_add, nI_clamp, nI_ltI, nI_leI, nI_eq, Option.bind_some, if_true, if_false, not_false_eq_true, not_true_eq_false, ra_ltT, ra_ltF, ra_leT, ra_leF, ra_eqT, ra_eqF, or_false, false_or, or_true, true_or, and_true, true_and, and_false, false_and, ra_nz3 (c := c) (by omega), rr_no]
/-- what a size costs in some months -/
def ra_acc (γ κ τ ρ : Nat → Nat) (mo pa pb size n : Nat) : Nat := pa * ra_cnt (fun i => ra_stk γ κ τ ρ size i && mo.testBit i) n + pb * ra_cnt (fun i => ra_fal γ κ τ ρ size i && mo.testBit i) n
theorem ra_acc_le {γ κ τ ρ : Nat → Nat} {mo pa pb size n : Nat} (ha : pa ≤ 99) (hb : pb ≤ 99) (hn : n ≤ 12) : ra_acc γ κ τ ρ mo pa pb size n ≤ 3000 := by
  unfold ra_acc
  have h1 := ra_cnt_le (fun i => ra_stk γ κ τ ρ size i && mo.testBit i) n
  have h2 := ra_cnt_le (fun i => ra_fal γ κ τ ρ size i && mo.testBit i) n
  have h3 := Nat.mul_le_mul ha (Nat.le_trans h1 hn)
  have h4 := Nat.mul_le_mul hb (Nat.le_trans h2 hn)
  omega
theorem rc_cost {γ κ τ ρ : Nat → Nat} (a th : Nat → Int32) (h : ra_ok γ κ τ) (hρ : ∀ j, ρ j ≤ 9) (hth : ∀ j, j < 12 → th j = ra_te (ra_T γ κ τ ρ j)) {size mo pa pb : Nat} (hs : size < 1000) (h100 : 100 ≤ size) (hmo : mo < 4096) :
    f_X2_cost a th (nI size) (nI mo) (nI pa) (nI pb) = some (nI (ra_acc γ κ τ ρ mo pa pb size 12)) := by
  have b1 := ra_bt_lt (ra_stk γ κ τ ρ size) 12
  have b2 := ra_bt_lt (ra_fal γ κ τ ρ size) 12
  have l1 : ra_bt (ra_stk γ κ τ ρ size) 12 &&& mo ≤ ra_bt (ra_stk γ κ τ ρ size) 12 := Nat.and_le_left
  have l2 : ra_bt (ra_fal γ κ τ ρ size) 12 &&& mo ≤ ra_bt (ra_fal γ κ τ ρ size) 12 := Nat.and_le_left
  unfold f_X2_cost
  rw [rc_stick a th h hρ hth hs, rc_fall a th h hρ hth hs h100]
  have k1 : ra_cnt (ra_bt (ra_stk γ κ τ ρ size) 12 &&& mo).testBit 12 = ra_cnt (fun i => ra_stk γ κ τ ρ size i && mo.testBit i) 12 :=
    ra_cnt_congr 12 (fun i hi => by rw [Nat.testBit_and, ra_bt_test, decide_eq_true hi, Bool.true_and])
  have k2 : ra_cnt (ra_bt (ra_fal γ κ τ ρ size) 12 &&& mo).testBit 12 = ra_cnt (fun i => ra_fal γ κ τ ρ size i && mo.testBit i) 12 :=
    ra_cnt_congr 12 (fun i hi => by rw [Nat.testBit_and, ra_bt_test, decide_eq_true hi, Bool.true_and])
  rw [Option.bind_some, ra_and (by omega) (by omega), ra_pop (by omega), Option.bind_some, Option.bind_some, ra_and (by omega) (by omega), ra_pop (by omega), Option.bind_some, k1, k2, pk_mul, pk_mul, nI_add]
  rfl
theorem ra_sm : ∀ i, i < 12 → ((nI i &&& 31).toBitVec.smod 32).toNat = i := by decide
theorem ra_tb {mo i : Nat} (hmo : mo < 4096) (hi : i < 12) : (((nI mo >>> (nI i &&& 31)) &&& 1) = 1) = (mo.testBit i = true) := by
  have h1 : mo / 2 ^ i ≤ mo := Nat.div_le_self _ _
  rw [pk_shrN (by omega) (nI i &&& 31) i (ra_sm i hi), pk_andN (by omega) 1 (by decide), Nat.testBit_eq_decide_div_mod_eq, decide_eq_true_eq]
  show (nI (mo / 2 ^ i % 2 ^ 1) = nI 1) = _
  rw [nI_eq (by omega) (by decide)]
theorem rr_fiL30 {γ κ τ ρ : Nat → Nat} (M : Nat → Nat) (h : ra_ok γ κ τ) (hρ : ∀ j, ρ j ≤ 9) {size mo pa pb : Nat} (hs : size < 1000) (h100 : 100 ≤ size) (hmo : mo < 4096) : ∀ (d i m : Nat), i + d = 12 → d < m →
    f_X3_finds_L30 (ra_st γ κ τ) (ra_nf ρ) (nI mo) (nI pa) (nI pb) (nI size) (ra_nf M) m (nI (ra_acc γ κ τ ρ mo pa pb size i)) (nI i) = some (nI (ra_acc γ κ τ ρ mo pa pb size 12), nI 12) := by
  intro d
  induction d with
  | zero =>
    intro i m hi hm
    obtain ⟨m, rfl⟩ : ∃ q, m = q + 1 := ⟨m - 1, by omega⟩
    obtain rfl : i = 12 := by omega
    rw [f_X3_finds_L30, if_pos (by decide)]
  | succ d ih =>
    intro i m hi hm
    obtain ⟨m, rfl⟩ : ∃ q, m = q + 1 := ⟨m - 1, by omega⟩
    have ih := ih (i + 1) m (by omega) (by omega)
    have c12 : ¬ (12 : Int32) ≤ nI i := nI_ge (b := 12) (by omega) (by decide)
    rw [f_X3_finds_L30, if_neg c12, rr_sticksIn M h hρ (by omega) hs, rr_fallsIn M h hρ (by omega) hs h100]
    simp only [ra_tb hmo (show i < 12 by omega)]
    have eq : ra_acc γ κ τ ρ mo pa pb size (i + 1) = ra_acc γ κ τ ρ mo pa pb size i + (pa * (if (ra_stk γ κ τ ρ size i && mo.testBit i) = true then 1 else 0) + pb * (if (ra_fal γ κ τ ρ size i && mo.testBit i) = true then 1 else 0)) := by
      unfold ra_acc
      rw [ra_cnt, ra_cnt, Nat.mul_add, Nat.mul_add]
      omega
    rw [eq] at ih
    by_cases ct : mo.testBit i = true
    · rw [if_pos ct]
      rw [ct] at ih
      simp only [Bool.and_true] at ih
      by_cases cs : ra_stk γ κ τ ρ size i = true
      · rw [if_pos cs] at ih
        by_cases cf : ra_fal γ κ τ ρ size i = true
        · rw [if_pos cf] at ih
          simp (disch := omega) only [↓reduceIte, ra_lit, ra_nf_ap, ra_st_lo, nI_add, nI_clamp, nI_ltI, nI_leI, nI_eq, Option.bind_some, if_true, if_false, not_false_eq_true, not_true_eq_false, ra_ltT, ra_ltF, ra_leT, ra_leF, ra_eqT, ra_eqF, or_false, false_or, or_true, true_or, and_true, true_and, and_false, false_and, if_pos cs, if_pos cf]
          simp only [Nat.mul_one] at ih
          exact ih
        · rw [if_neg cf] at ih
          simp (disch := omega) only [↓reduceIte, ra_lit, ra_nf_ap, ra_st_lo, nI_add, nI_clamp, nI_ltI, nI_leI, nI_eq, Option.bind_some, if_true, if_false, not_false_eq_true, not_true_eq_false, ra_ltT, ra_ltF, ra_leT, ra_leF, ra_eqT, ra_eqF, or_false, false_or, or_true, true_or, and_true, true_and, and_false, false_and, if_pos cs, if_neg cf]
          simp only [Nat.mul_one, Nat.mul_zero] at ih
          exact ih
      · rw [if_neg cs] at ih
        by_cases cf : ra_fal γ κ τ ρ size i = true
        · rw [if_pos cf] at ih
          simp (disch := omega) only [↓reduceIte, ra_lit, ra_nf_ap, ra_st_lo, nI_add, nI_clamp, nI_ltI, nI_leI, nI_eq, Option.bind_some, if_true, if_false, not_false_eq_true, not_true_eq_false, ra_ltT, ra_ltF, ra_leT, ra_leF, ra_eqT, ra_eqF, or_false, false_or, or_true, true_or, and_true, true_and, and_false, false_and, if_neg cs, if_pos cf]
          simp only [Nat.mul_one, Nat.mul_zero] at ih
          exact ih
        · rw [if_neg cf] at ih
          simp (disch := omega) only [↓reduceIte, ra_lit, ra_nf_ap, ra_st_lo, nI_add, nI_clamp, nI_ltI, nI_leI, nI_eq, Option.bind_some, if_true, if_false, not_false_eq_true, not_true_eq_false, ra_ltT, ra_ltF, ra_leT, ra_leF, ra_eqT, ra_eqF, or_false, false_or, or_true, true_or, and_true, true_and, and_false, false_and, if_neg cs, if_neg cf]
          simp only [Nat.mul_zero] at ih
          exact ih
    · rw [if_neg ct]
      have ct : mo.testBit i = false := by
        cases e : mo.testBit i with
        | false => rfl
        | true => exact absurd e ct
      rw [ct] at ih
      simp only [Bool.and_false] at ih
      simp (disch := omega) only [↓reduceIte, ra_lit, ra_nf_ap, ra_st_lo, nI_add, nI_clamp, nI_ltI, nI_leI, nI_eq, Option.bind_some, if_true, if_false, not_false_eq_true, not_true_eq_false, ra_ltT, ra_ltF, ra_leT, ra_leF, ra_eqT, ra_eqF, or_false, false_or, or_true, true_or, and_true, true_and, and_false, false_and]
      exact ih
def ra_bs (c : Nat → Nat) : Nat → Nat → Nat → Nat → Nat × Nat
  | 0, _, b, l => (b, l)
  | d + 1, z, b, l => if c z < l then ra_bs c d (z + 1) z (c z) else ra_bs c d (z + 1) b l
theorem ra_bs0 (c : Nat → Nat) (b : Nat) : ∀ d z, ra_bs c d z b 0 = (b, 0) := by
  intro d
  induction d with
  | zero => intro z; rfl
  | succ d ih =>
    intro z
    unfold ra_bs
    rw [if_neg (Nat.not_lt_zero _)]
    exact ih (z + 1)
theorem ra_bs_in (c : Nat → Nat) : ∀ d z b, z + d = 251 → 100 ≤ z → 100 ≤ b → b ≤ 250 → (ra_bs c d z b (c b)).2 = c (ra_bs c d z b (c b)).1 ∧ 100 ≤ (ra_bs c d z b (c b)).1 ∧ (ra_bs c d z b (c b)).1 ≤ 250 := by
  intro d
  induction d with
  | zero => intro z b _ _ h1 h2; exact ⟨rfl, h1, h2⟩
  | succ d ih =>
    intro z b hz hz1 h1 h2
    unfold ra_bs
    split
    · exact ih (z + 1) z (by omega) (by omega) hz1 (by omega)
    · exact ih (z + 1) b (by omega) (by omega) h1 h2
theorem ra_unu (M : Nat → Nat) (a b c d : Nat) : ra_un (ra_un (ra_un (ra_un M 4 a) 5 b) 4 c) 5 d = ra_un (ra_un M 4 c) 5 d := by
  funext j
  unfold ra_un
  by_cases e5 : j = 5
  · simp [e5]
  · by_cases e4 : j = 4
    · simp [e4]
    · simp [e4, e5]
theorem ra_unself (M : Nat → Nat) : ra_un (ra_un M 4 (M 4)) 5 (M 5) = M := by
  funext j
  unfold ra_un
  by_cases e5 : j = 5
  · simp [e5]
  · by_cases e4 : j = 4
    · simp [e4]
    · simp [e4, e5]
theorem rr_fiL16 {γ κ τ ρ : Nat → Nat} (h : ra_ok γ κ τ) (hρ : ∀ j, ρ j ≤ 9) {mo pa pb : Nat} (hmo : mo < 4096) (ha : pa ≤ 99) (hb : pb ≤ 99) : ∀ (d z m : Nat) (M : Nat → Nat), z + d = 251 → 100 ≤ z → d < m → M 5 ≤ 1000000000 →
    ∃ x, f_X3_finds_L16 (ra_st γ κ τ) (ra_nf ρ) (nI mo) (nI pa) (nI pb) m (nI z) (ra_nf M) = some (x, ra_nf (ra_un (ra_un M 4 (ra_bs (fun s => ra_acc γ κ τ ρ mo pa pb s 12) d z (M 4) (M 5)).1) 5 (ra_bs (fun s => ra_acc γ κ τ ρ mo pa pb s 12) d z (M 4) (M 5)).2)) := by
  intro d
  induction d with
  | zero =>
    intro z m M hz h1 hm h5
    obtain ⟨m, rfl⟩ : ∃ q, m = q + 1 := ⟨m - 1, by omega⟩
    obtain rfl : z = 251 := by omega
    refine ⟨nI 251, ?_⟩
    rw [f_X3_finds_L16, if_pos (by decide)]
    unfold ra_bs
    rw [ra_unself]
  | succ d ih =>
    intro z m M hz h1 hm h5
    obtain ⟨m, rfl⟩ : ∃ q, m = q + 1 := ⟨m - 1, by omega⟩
    have c250 : ¬ (250 : Int32) < nI z := nI_nlt (a := 250) (by omega) (by decide)
    have h3 := rr_fiL30 M h hρ (size := z) (mo := mo) (pa := pa) (pb := pb) (by omega) h1 hmo 12 0 rf_fu rfl (by unfold rf_fu; omega)
    have e0 : ra_acc γ κ τ ρ mo pa pb z 0 = 0 := by
      unfold ra_acc ra_cnt
      rw [Nat.mul_zero, Nat.mul_zero]
    rw [e0] at h3
    have h3 : f_X3_finds_L30 (ra_st γ κ τ) (ra_nf ρ) (nI mo) (nI pa) (nI pb) (nI z) (ra_nf M) rf_fu 0 0 = _ := h3
    have hl := ra_acc_le (γ := γ) (κ := κ) (τ := τ) (ρ := ρ) (mo := mo) (size := z) (n := 12) ha hb (Nat.le_refl _)
    rw [f_X3_finds_L16, if_neg c250, h3, Option.bind_some, ra_nf_ap]
    unfold ra_bs
    by_cases c : ra_acc γ κ τ ρ mo pa pb z 12 < M 5
    · simp (disch := omega) only [↓reduceIte, ra_lit, ra_nf_ap, ra_st_lo, nI_add, nI_clamp, nI_ltI, nI_leI, nI_eq, Option.bind_some, if_true, if_false, not_false_eq_true, not_true_eq_false, ra_ltT, ra_ltF, ra_leT, ra_leF, ra_eqT, ra_eqF, or_false, false_or, or_true, true_or, and_true, true_and, and_false, false_and, if_pos c, ra_upd]
      obtain ⟨x, e⟩ := ih (z + 1) m (ra_un (ra_un M 4 z) 5 (ra_acc γ κ τ ρ mo pa pb z 12)) (by omega) (by omega) (by omega) (by show ra_acc γ κ τ ρ mo pa pb z 12 ≤ 1000000000; omega)
      rw [ra_unu] at e
      exact ⟨x, e⟩
    · simp (disch := omega) only [↓reduceIte, ra_lit, ra_nf_ap, ra_st_lo, nI_add, nI_clamp, nI_ltI, nI_leI, nI_eq, Option.bind_some, if_true, if_false, not_false_eq_true, not_true_eq_false, ra_ltT, ra_ltF, ra_leT, ra_leF, ra_eqT, ra_eqF, or_false, false_or, or_true, true_or, and_true, true_and, and_false, false_and, if_neg c]
      exact ih (z + 1) m M (by omega) (by omega) (by omega) h5
/-- the best size for months, what it costs -/
def ra_be (γ κ τ ρ : Nat → Nat) (mo pa pb : Nat) : Nat × Nat := ra_bs (fun s => ra_acc γ κ τ ρ mo pa pb s 12) 150 101 100 (ra_acc γ κ τ ρ mo pa pb 100 12)
theorem rr_finds {γ κ τ ρ : Nat → Nat} (M : Nat → Nat) (h : ra_ok γ κ τ) (hρ : ∀ j, ρ j ≤ 9) {mo pa pb : Nat} (hmo : mo < 4096) (ha : pa ≤ 99) (hb : pb ≤ 99) :
    f_X3_finds (ra_nf M) (ra_st γ κ τ) (ra_nf ρ) (nI mo) (nI pa) (nI pb) = some (ra_nf (ra_un (ra_un M 4 (ra_be γ κ τ ρ mo pa pb).1) 5 (ra_be γ κ τ ρ mo pa pb).2)) := by
  obtain ⟨x, e⟩ := rr_fiL16 h hρ hmo ha hb 151 100 rf_fu (ra_un (ra_un M 4 100) 5 1000000000) rfl (by omega) (by unfold rf_fu; omega) (Nat.le_refl _)
  have e0 : upd (upd (ra_nf M) 4 100) 5 1000000000 = ra_nf (ra_un (ra_un M 4 100) 5 1000000000) := by
    rw [show (100 : Int32) = nI 100 from rfl, show (1000000000 : Int32) = nI 1000000000 from rfl, ra_upd, ra_upd]
  rw [ra_unu] at e
  have hl := ra_acc_le (γ := γ) (κ := κ) (τ := τ) (ρ := ρ) (mo := mo) (size := 100) (n := 12) ha hb (Nat.le_refl _)
  have e1 : ra_bs (fun s => ra_acc γ κ τ ρ mo pa pb s 12) 151 100 (ra_un (ra_un M 4 100) 5 1000000000 4) (ra_un (ra_un M 4 100) 5 1000000000 5) = ra_be γ κ τ ρ mo pa pb := by
    show ra_bs (fun s => ra_acc γ κ τ ρ mo pa pb s 12) (150 + 1) 100 100 1000000000 = _
    rw [ra_bs]
    show (if ra_acc γ κ τ ρ mo pa pb 100 12 < 1000000000 then _ else _) = _
    rw [if_pos (by omega)]
    rfl
  rw [e1] at e
  unfold f_X3_finds
  rw [e0]
  have e : f_X3_finds_L16 (ra_st γ κ τ) (ra_nf ρ) (nI mo) (nI pa) (nI pb) rf_fu 100 (ra_nf (ra_un (ra_un M 4 100) 5 1000000000)) = _ := e
  rw [e]
  rfl
theorem rc_bsL {γ κ τ ρ : Nat → Nat} (a th : Nat → Int32) (h : ra_ok γ κ τ) (hρ : ∀ j, ρ j ≤ 9) (hth : ∀ j, j < 12 → th j = ra_te (ra_T γ κ τ ρ j)) {mo pa pb : Nat} (hmo : mo < 4096) (ha : pa ≤ 99) (hb : pb ≤ 99) : ∀ (d z m b l : Nat), z + d = 251 → 100 ≤ z → d < m → l ≤ 3000 →
    ∃ x y, f_X2_bestSize_L19 a th (nI mo) (nI pa) (nI pb) m (nI b) (nI l) (nI z) = some (nI (ra_bs (fun s => ra_acc γ κ τ ρ mo pa pb s 12) d z b l).1, x, y) := by
  intro d
  induction d with
  | zero =>
    intro z m b l hz h1 hm hl
    obtain ⟨m, rfl⟩ : ∃ q, m = q + 1 := ⟨m - 1, by omega⟩
    obtain rfl : z = 251 := by omega
    refine ⟨nI l, nI 251, ?_⟩
    rw [f_X2_bestSize_L19, if_pos (by decide)]
    rfl
  | succ d ih =>
    intro z m b l hz h1 hm hl
    obtain ⟨m, rfl⟩ : ∃ q, m = q + 1 := ⟨m - 1, by omega⟩
    have c250 : ¬ (250 : Int32) < nI z := nI_nlt (a := 250) (by omega) (by decide)
    have hle := ra_acc_le (γ := γ) (κ := κ) (τ := τ) (ρ := ρ) (mo := mo) (size := z) (n := 12) ha hb (Nat.le_refl _)
    rw [f_X2_bestSize_L19, if_neg c250]
    by_cases l0 : l = 0
    · subst l0
      rw [if_pos (by decide), ra_bs0]
      exact ⟨_, _, rfl⟩
    · rw [if_neg (nI_nle (by omega) (by omega)), rc_cost a th h hρ hth (by omega) h1 hmo, Option.bind_some]
      unfold ra_bs
      by_cases c : ra_acc γ κ τ ρ mo pa pb z 12 < l
      · simp (disch := omega) only [↓reduceIte, ra_lit, ra_nf_ap, ra_st_lo, nI_add, nI_clamp, nI_ltI, nI_leI, nI_eq, Option.bind_some, if_true, if_false, not_false_eq_true, not_true_eq_false, ra_ltT, ra_ltF, ra_leT, ra_leF, ra_eqT, ra_eqF, or_false, false_or, or_true, true_or, and_true, true_and, and_false, false_and, if_pos c]
        exact ih (z + 1) m z _ (by omega) (by omega) (by omega) hle
      · simp (disch := omega) only [↓reduceIte, ra_lit, ra_nf_ap, ra_st_lo, nI_add, nI_clamp, nI_ltI, nI_leI, nI_eq, Option.bind_some, if_true, if_false, not_false_eq_true, not_true_eq_false, ra_ltT, ra_ltF, ra_leT, ra_leF, ra_eqT, ra_eqF, or_false, false_or, or_true, true_or, and_true, true_and, and_false, false_and, if_neg c]
        exact ih (z + 1) m b l (by omega) (by omega) (by omega) hl
theorem rc_bestSize {γ κ τ ρ : Nat → Nat} (a th : Nat → Int32) (h : ra_ok γ κ τ) (hρ : ∀ j, ρ j ≤ 9) (hth : ∀ j, j < 12 → th j = ra_te (ra_T γ κ τ ρ j)) {mo pa pb : Nat} (hmo : mo < 4096) (ha : pa ≤ 99) (hb : pb ≤ 99) :
    f_X2_bestSize a th (nI mo) (nI pa) (nI pb) = some (nI (ra_be γ κ τ ρ mo pa pb).1) := by
  have hl := ra_acc_le (γ := γ) (κ := κ) (τ := τ) (ρ := ρ) (mo := mo) (size := 100) (n := 12) ha hb (Nat.le_refl _)
  obtain ⟨x, y, e⟩ := rc_bsL a th h hρ hth hmo ha hb 150 101 rf_fu 100 (ra_acc γ κ τ ρ mo pa pb 100 12) rfl (by omega) (by unfold rf_fu; omega) hl
  have e1 : f_X2_cost a th 100 (nI mo) (nI pa) (nI pb) = _ := rc_cost a th h hρ hth (size := 100) (by omega) (by omega) hmo
  have e : f_X2_bestSize_L19 a th (nI mo) (nI pa) (nI pb) rf_fu 100 (nI (ra_acc γ κ τ ρ mo pa pb 100 12)) 101 = _ := e
  unfold f_X2_bestSize
  rw [e1, Option.bind_some, e]
  rfl
theorem rc_costBest {γ κ τ ρ : Nat → Nat} (a th : Nat → Int32) (h : ra_ok γ κ τ) (hρ : ∀ j, ρ j ≤ 9) (hth : ∀ j, j < 12 → th j = ra_te (ra_T γ κ τ ρ j)) {mo pa pb : Nat} (hmo : mo < 4096) :
    f_X2_cost a th (nI (ra_be γ κ τ ρ mo pa pb).1) (nI mo) (nI pa) (nI pb) = some (nI (ra_be γ κ τ ρ mo pa pb).2) := by
  obtain ⟨h1, h2, h3⟩ := ra_bs_in (fun s => ra_acc γ κ τ ρ mo pa pb s 12) 150 101 100 rfl (by omega) (by omega) (by omega)
  rw [rc_cost a th h hρ hth (size := (ra_be γ κ τ ρ mo pa pb).1) (by show (ra_bs _ 150 101 100 _).1 < 1000; omega) h2 hmo]
  congr 2
  exact h1.symm
theorem rc_leastCost {γ κ τ ρ : Nat → Nat} (a th : Nat → Int32) (h : ra_ok γ κ τ) (hρ : ∀ j, ρ j ≤ 9) (hth : ∀ j, j < 12 → th j = ra_te (ra_T γ κ τ ρ j)) {mo pa pb : Nat} (hmo : mo < 4096) (ha : pa ≤ 99) (hb : pb ≤ 99) :
    f_X2_leastCost a th (nI mo) (nI pa) (nI pb) = some (nI (ra_be γ κ τ ρ mo pa pb).2) := by
  unfold f_X2_leastCost
  rw [rc_bestSize a th h hρ hth hmo ha hb, Option.bind_some, rc_costBest a th h hρ hth hmo]
  rfl
theorem ra_price (p0 p1 : Int32) :
    (∃ pa pb, pa ≤ 99 ∧ pb ≤ 99 ∧ p0 = nI pa ∧ p1 = nI pb ∧ f_X2_priceRange p0 p1 = some (nI 0)) ∨
    ((p0 < nI 0 ∨ p1 < nI 0) ∧ f_X2_priceRange p0 p1 = some (-nI 4)) ∨
    (∃ pa pb, (99 < pa ∨ 99 < pb) ∧ pa < 2 ^ 31 ∧ pb < 2 ^ 31 ∧ p0 = nI pa ∧ p1 = nI pb ∧ f_X2_priceRange p0 p1 = some (-nI 6)) := by
  unfold f_X2_priceRange
  by_cases h0 : p0 < nI 0
  · right; left
    exact ⟨Or.inl h0, by simp (disch := omega) only [↓reduceIte, ra_lit, ra_nf_ap, ra_st_lo, nI_add, nI_clamp, nI_ltI, nI_leI, nI_eq, Option.bind_some, if_true, if_false, not_false_eq_true, not_true_eq_false, ra_ltT, ra_ltF, ra_leT, ra_leF, ra_eqT, ra_eqF, or_false, false_or, or_true, true_or, and_true, true_and, and_false, false_and, if_pos h0]⟩
  · obtain ⟨pa, ha, rfl⟩ := nI_of (x := p0) h0
    by_cases h1 : p1 < nI 0
    · right; left
      exact ⟨Or.inr h1, by simp (disch := omega) only [↓reduceIte, ra_lit, ra_nf_ap, ra_st_lo, nI_add, nI_clamp, nI_ltI, nI_leI, nI_eq, Option.bind_some, if_true, if_false, not_false_eq_true, not_true_eq_false, ra_ltT, ra_ltF, ra_leT, ra_leF, ra_eqT, ra_eqF, or_false, false_or, or_true, true_or, and_true, true_and, and_false, false_and, ra_nLe h1]⟩
    · obtain ⟨pb, hb, rfl⟩ := nI_of (x := p1) h1
      by_cases c : pa ≤ 99 ∧ pb ≤ 99
      · left
        obtain ⟨c1, c2⟩ := c
        exact ⟨pa, pb, c1, c2, rfl, rfl, by simp (disch := omega) only [↓reduceIte, ra_lit, ra_nf_ap, ra_st_lo, nI_add, nI_clamp, nI_ltI, nI_leI, nI_eq, Option.bind_some, if_true, if_false, not_false_eq_true, not_true_eq_false, ra_ltT, ra_ltF, ra_leT, ra_leF, ra_eqT, ra_eqF, or_false, false_or, or_true, true_or, and_true, true_and, and_false, false_and]⟩
      · right; right
        refine ⟨pa, pb, by omega, ha, hb, rfl, rfl, ?_⟩
        by_cases c1 : 99 < pa
        · simp (disch := omega) only [↓reduceIte, ra_lit, ra_nf_ap, ra_st_lo, nI_add, nI_clamp, nI_ltI, nI_leI, nI_eq, Option.bind_some, if_true, if_false, not_false_eq_true, not_true_eq_false, ra_ltT, ra_ltF, ra_leT, ra_leF, ra_eqT, ra_eqF, or_false, false_or, or_true, true_or, and_true, true_and, and_false, false_and]
        · simp (disch := omega) only [↓reduceIte, ra_lit, ra_nf_ap, ra_st_lo, nI_add, nI_clamp, nI_ltI, nI_leI, nI_eq, Option.bind_some, if_true, if_false, not_false_eq_true, not_true_eq_false, ra_ltT, ra_ltF, ra_leT, ra_leF, ra_eqT, ra_eqF, or_false, false_or, or_true, true_or, and_true, true_and, and_false, false_and]
theorem tm_year {γ κ τ : Nat → Nat} (G M ρ φ : Nat → Nat) (ta tb tc th : Nat → Int32) {R : Nat} (hG : G 1 = R) (hM : M 2 = R) (hR : R ≤ 12) (hρ : ∀ j, ρ j ≤ 9) (h : ra_ok γ κ τ) (p1 p2 p3 : Int32) :
    ∃ r a b c th' x y φ', f_X2_year (ra_nf G) (ra_nf γ) (ra_nf κ) (ra_nf τ) ta tb tc (ra_nf ρ) th (ra_nf φ) p1 p2 p3 = some (r, a, b, c, th', ra_nf φ') ∧ f_X3_year (ra_nf M) (ra_st γ κ τ) (ra_nf ρ) (ra_nf φ) p1 p2 p3 = some (r, ra_nf (ra_un (ra_un M 4 x) 5 y), ra_nf φ') := by
  unfold f_X2_year f_X3_year
  rcases ra_price p1 p2 with ⟨pa, pb, ha, hb, rfl, rfl, e1⟩ | ⟨hn, e1⟩ | ⟨pa, pb, hc, ha, hb, rfl, rfl, e1⟩
  · rw [e1]
    rcases ra_either p3 with ⟨h3, e2, e3⟩ | ⟨e2, e3⟩
    · rw [e2, e3, rr_areHeats M ρ hM hR hρ]
      by_cases c12 : R = 12
      · obtain ⟨b, th', h1, h2⟩ := rc_measure ρ (ra_nf G) ta tb tc th h hρ
        have f1 := rc_bestSize (ra_nf G) th' h hρ h2 (mo := 4095) (pa := pa) (pb := pb) (by omega) ha hb
        have f2 := rc_costBest (ra_nf G) th' h hρ h2 (mo := 4095) (pa := pa) (pb := pb) (by omega)
        have f3 := rr_finds M h hρ (mo := 4095) (pa := pa) (pb := pb) (by omega) ha hb
        rcases h3 with rfl | rfl
        · refine ⟨nI (ra_be γ κ τ ρ 4095 pa pb).1, b, ra_nf κ, ra_nf τ, th', (ra_be γ κ τ ρ 4095 pa pb).1, (ra_be γ κ τ ρ 4095 pa pb).2, φ, ?_, ?_⟩
          · simp (disch := omega) only [↓reduceIte, ra_lit, ra_nf_ap, ra_st_lo, nI_add, nI_clamp, nI_ltI, nI_leI, nI_eq, Option.bind_some, if_true, if_false, not_false_eq_true, not_true_eq_false, ra_ltT, ra_ltF, ra_leT, ra_leF, ra_eqT, ra_eqF, or_false, false_or, or_true, true_or, and_true, true_and, and_false, false_and, hG, h1, f1]
          · simp (disch := omega) only [↓reduceIte, ra_lit, ra_nf_ap, ra_st_lo, nI_add, nI_clamp, nI_ltI, nI_leI, nI_eq, Option.bind_some, if_true, if_false, not_false_eq_true, not_true_eq_false, ra_ltT, ra_ltF, ra_leT, ra_leF, ra_eqT, ra_eqF, or_false, false_or, or_true, true_or, and_true, true_and, and_false, false_and, f3]
            rfl
        · refine ⟨nI (ra_be γ κ τ ρ 4095 pa pb).2, b, ra_nf κ, ra_nf τ, th', (ra_be γ κ τ ρ 4095 pa pb).1, (ra_be γ κ τ ρ 4095 pa pb).2, φ, ?_, ?_⟩
          · simp (disch := omega) only [↓reduceIte, ra_lit, ra_nf_ap, ra_st_lo, nI_add, nI_clamp, nI_ltI, nI_leI, nI_eq, Option.bind_some, if_true, if_false, not_false_eq_true, not_true_eq_false, ra_ltT, ra_ltF, ra_leT, ra_leF, ra_eqT, ra_eqF, or_false, false_or, or_true, true_or, and_true, true_and, and_false, false_and, hG, h1, f1, f2]
          · simp (disch := omega) only [↓reduceIte, ra_lit, ra_nf_ap, ra_st_lo, nI_add, nI_clamp, nI_ltI, nI_leI, nI_eq, Option.bind_some, if_true, if_false, not_false_eq_true, not_true_eq_false, ra_ltT, ra_ltF, ra_leT, ra_leF, ra_eqT, ra_eqF, or_false, false_or, or_true, true_or, and_true, true_and, and_false, false_and, f3]
            rfl
      · refine ⟨-nI 3, ta, tb, tc, th, M 4, M 5, ra_rf φ 3, ?_, ?_⟩
        · simp (disch := omega) only [↓reduceIte, ra_lit, ra_nf_ap, ra_st_lo, nI_add, nI_clamp, nI_ltI, nI_leI, nI_eq, Option.bind_some, if_true, if_false, not_false_eq_true, not_true_eq_false, ra_ltT, ra_ltF, ra_leT, ra_leF, ra_eqT, ra_eqF, or_false, false_or, or_true, true_or, and_true, true_and, and_false, false_and, hG, rc_refuse]
        · rw [ra_unself]
          simp (disch := omega) only [↓reduceIte, ra_lit, ra_nf_ap, ra_st_lo, nI_add, nI_clamp, nI_ltI, nI_leI, nI_eq, Option.bind_some, if_true, if_false, not_false_eq_true, not_true_eq_false, ra_ltT, ra_ltF, ra_leT, ra_leF, ra_eqT, ra_eqF, or_false, false_or, or_true, true_or, and_true, true_and, and_false, false_and, rr_no]
    · rw [e2, e3]
      refine ⟨-nI 2, ta, tb, tc, th, M 4, M 5, ra_rf φ 2, ?_, ?_⟩
      · simp (disch := omega) only [↓reduceIte, ra_lit, ra_nf_ap, ra_st_lo, nI_add, nI_clamp, nI_ltI, nI_leI, nI_eq, Option.bind_some, if_true, if_false, not_false_eq_true, not_true_eq_false, ra_ltT, ra_ltF, ra_leT, ra_leF, ra_eqT, ra_eqF, or_false, false_or, or_true, true_or, and_true, true_and, and_false, false_and, rc_refuse]
      · rw [ra_unself]
        simp (disch := omega) only [↓reduceIte, ra_lit, ra_nf_ap, ra_st_lo, nI_add, nI_clamp, nI_ltI, nI_leI, nI_eq, Option.bind_some, if_true, if_false, not_false_eq_true, not_true_eq_false, ra_ltT, ra_ltF, ra_leT, ra_leF, ra_eqT, ra_eqF, or_false, false_or, or_true, true_or, and_true, true_and, and_false, false_and, rr_no]
  · rw [e1]
    refine ⟨-nI 4, ta, tb, tc, th, M 4, M 5, ra_rf φ 4, ?_, ?_⟩
    · simp (disch := omega) only [↓reduceIte, ra_lit, ra_nf_ap, ra_st_lo, nI_add, nI_clamp, nI_ltI, nI_leI, nI_eq, Option.bind_some, if_true, if_false, not_false_eq_true, not_true_eq_false, ra_ltT, ra_ltF, ra_leT, ra_leF, ra_eqT, ra_eqF, or_false, false_or, or_true, true_or, and_true, true_and, and_false, false_and, ra_nz3 (c := 4) (by omega), rc_refuse]
    · rw [ra_unself]
      by_cases h0 : p1 < nI 0
      · simp (disch := omega) only [↓reduceIte, ra_lit, ra_nf_ap, ra_st_lo, nI_add, nI_clamp, nI_ltI, nI_leI, nI_eq, Option.bind_some, if_true, if_false, not_false_eq_true, not_true_eq_false, ra_ltT, ra_ltF, ra_leT, ra_leF, ra_eqT, ra_eqF, or_false, false_or, or_true, true_or, and_true, true_and, and_false, false_and, if_pos h0, rr_no]
      · have h1 : p2 < nI 0 := by
          rcases hn with z | z
          · exact absurd z h0
          · exact z
        simp (disch := omega) only [↓reduceIte, ra_lit, ra_nf_ap, ra_st_lo, nI_add, nI_clamp, nI_ltI, nI_leI, nI_eq, Option.bind_some, if_true, if_false, not_false_eq_true, not_true_eq_false, ra_ltT, ra_ltF, ra_leT, ra_leF, ra_eqT, ra_eqF, or_false, false_or, or_true, true_or, and_true, true_and, and_false, false_and, if_neg h0, ra_nLe h1, rr_no]
  · rw [e1]
    refine ⟨-nI 6, ta, tb, tc, th, M 4, M 5, ra_rf φ 6, ?_, ?_⟩
    · simp (disch := omega) only [↓reduceIte, ra_lit, ra_nf_ap, ra_st_lo, nI_add, nI_clamp, nI_ltI, nI_leI, nI_eq, Option.bind_some, if_true, if_false, not_false_eq_true, not_true_eq_false, ra_ltT, ra_ltF, ra_leT, ra_leF, ra_eqT, ra_eqF, or_false, false_or, or_true, true_or, and_true, true_and, and_false, false_and, ra_nz3 (c := 6) (by omega), rc_refuse]
    · rw [ra_unself]
      by_cases c1 : 99 < pa
      · simp (disch := omega) only [↓reduceIte, ra_lit, ra_nf_ap, ra_st_lo, nI_add, nI_clamp, nI_ltI, nI_leI, nI_eq, Option.bind_some, if_true, if_false, not_false_eq_true, not_true_eq_false, ra_ltT, ra_ltF, ra_leT, ra_leF, ra_eqT, ra_eqF, or_false, false_or, or_true, true_or, and_true, true_and, and_false, false_and, rr_no]
      · simp (disch := omega) only [↓reduceIte, ra_lit, ra_nf_ap, ra_st_lo, nI_add, nI_clamp, nI_ltI, nI_leI, nI_eq, Option.bind_some, if_true, if_false, not_false_eq_true, not_true_eq_false, ra_ltT, ra_ltF, ra_leT, ra_leF, ra_eqT, ra_eqF, or_false, false_or, or_true, true_or, and_true, true_and, and_false, false_and, rr_no]
end RAYear
end
section
/-! two sizes, what they are worth -/
section RATwo
theorem ra_nz3' {c : Nat} (h : c = 2 ∨ c = 3 ∨ c = 4 ∨ c = 6) : ¬ -nI c = 0 := by rcases h with rfl | rfl | rfl | rfl <;> decide
theorem ra_span (p0 p1 p2 p3 : Int32) :
    (∃ f t pa pb, f ≤ t ∧ t ≤ 12 ∧ pa ≤ 99 ∧ pb ≤ 99 ∧ p0 = nI f ∧ p1 = nI t ∧ p2 = nI pa ∧ p3 = nI pb ∧ f_X2_spanRange p0 p1 p2 p3 = some (nI 0) ∧ f_X3_wrongMonths p0 p1 p2 p3 = some (nI 0)) ∨
    (∃ c, (c = 4 ∨ c = 6) ∧ f_X2_spanRange p0 p1 p2 p3 = some (-nI c) ∧ f_X3_wrongMonths p0 p1 p2 p3 = some (-nI c)) := by
  unfold f_X2_spanRange f_X3_wrongMonths
  by_cases h0 : p0 < nI 0
  · right
    refine ⟨4, by omega, ?_, ?_⟩
    · simp (disch := omega) only [↓reduceIte, ra_lit, ra_nf_ap, ra_st_lo, nI_add, nI_clamp, nI_ltI, nI_leI, nI_eq, Option.bind_some, if_true, if_false, not_false_eq_true, not_true_eq_false, ra_ltT, ra_ltF, ra_leT, ra_leF, ra_eqT, ra_eqF, or_false, false_or, or_true, true_or, and_true, true_and, and_false, false_and, if_pos h0]
    · simp (disch := omega) only [↓reduceIte, ra_lit, ra_nf_ap, ra_st_lo, nI_add, nI_clamp, nI_ltI, nI_leI, nI_eq, Option.bind_some, if_true, if_false, not_false_eq_true, not_true_eq_false, ra_ltT, ra_ltF, ra_leT, ra_leF, ra_eqT, ra_eqF, or_false, false_or, or_true, true_or, and_true, true_and, and_false, false_and, if_pos h0]
  obtain ⟨f, hf, rfl⟩ := nI_of (x := p0) h0
  by_cases h1 : p1 < nI 0
  · right
    refine ⟨4, by omega, ?_, ?_⟩
    · simp (disch := omega) only [↓reduceIte, ra_lit, ra_nf_ap, ra_st_lo, nI_add, nI_clamp, nI_ltI, nI_leI, nI_eq, Option.bind_some, if_true, if_false, not_false_eq_true, not_true_eq_false, ra_ltT, ra_ltF, ra_leT, ra_leF, ra_eqT, ra_eqF, or_false, false_or, or_true, true_or, and_true, true_and, and_false, false_and, if_pos h1]
    · simp (disch := omega) only [↓reduceIte, ra_lit, ra_nf_ap, ra_st_lo, nI_add, nI_clamp, nI_ltI, nI_leI, nI_eq, Option.bind_some, if_true, if_false, not_false_eq_true, not_true_eq_false, ra_ltT, ra_ltF, ra_leT, ra_leF, ra_eqT, ra_eqF, or_false, false_or, or_true, true_or, and_true, true_and, and_false, false_and, if_pos h1]
  obtain ⟨t, ht, rfl⟩ := nI_of (x := p1) h1
  by_cases h2 : p2 < nI 0
  · right
    refine ⟨4, by omega, ?_, ?_⟩
    · simp (disch := omega) only [↓reduceIte, ra_lit, ra_nf_ap, ra_st_lo, nI_add, nI_clamp, nI_ltI, nI_leI, nI_eq, Option.bind_some, if_true, if_false, not_false_eq_true, not_true_eq_false, ra_ltT, ra_ltF, ra_leT, ra_leF, ra_eqT, ra_eqF, or_false, false_or, or_true, true_or, and_true, true_and, and_false, false_and, if_pos h2]
    · simp (disch := omega) only [↓reduceIte, ra_lit, ra_nf_ap, ra_st_lo, nI_add, nI_clamp, nI_ltI, nI_leI, nI_eq, Option.bind_some, if_true, if_false, not_false_eq_true, not_true_eq_false, ra_ltT, ra_ltF, ra_leT, ra_leF, ra_eqT, ra_eqF, or_false, false_or, or_true, true_or, and_true, true_and, and_false, false_and, if_pos h2]
  obtain ⟨pa, ha, rfl⟩ := nI_of (x := p2) h2
  by_cases h3 : p3 < nI 0
  · right
    refine ⟨4, by omega, ?_, ?_⟩
    · simp (disch := omega) only [↓reduceIte, ra_lit, ra_nf_ap, ra_st_lo, nI_add, nI_clamp, nI_ltI, nI_leI, nI_eq, Option.bind_some, if_true, if_false, not_false_eq_true, not_true_eq_false, ra_ltT, ra_ltF, ra_leT, ra_leF, ra_eqT, ra_eqF, or_false, false_or, or_true, true_or, and_true, true_and, and_false, false_and, ra_nLe h3]
    · simp (disch := omega) only [↓reduceIte, ra_lit, ra_nf_ap, ra_st_lo, nI_add, nI_clamp, nI_ltI, nI_leI, nI_eq, Option.bind_some, if_true, if_false, not_false_eq_true, not_true_eq_false, ra_ltT, ra_ltF, ra_leT, ra_leF, ra_eqT, ra_eqF, or_false, false_or, or_true, true_or, and_true, true_and, and_false, false_and, ra_nLe h3]
  obtain ⟨pb, hb, rfl⟩ := nI_of (x := p3) h3
  by_cases c1 : 12 < t
  · right
    refine ⟨6, by omega, ?_, ?_⟩
    · simp (disch := omega) only [↓reduceIte, ra_lit, ra_nf_ap, ra_st_lo, nI_add, nI_clamp, nI_ltI, nI_leI, nI_eq, Option.bind_some, if_true, if_false, not_false_eq_true, not_true_eq_false, ra_ltT, ra_ltF, ra_leT, ra_leF, ra_eqT, ra_eqF, or_false, false_or, or_true, true_or, and_true, true_and, and_false, false_and]
    · by_cases c0 : 12 < f
      · simp (disch := omega) only [↓reduceIte, ra_lit, ra_nf_ap, ra_st_lo, nI_add, nI_clamp, nI_ltI, nI_leI, nI_eq, Option.bind_some, if_true, if_false, not_false_eq_true, not_true_eq_false, ra_ltT, ra_ltF, ra_leT, ra_leF, ra_eqT, ra_eqF, or_false, false_or, or_true, true_or, and_true, true_and, and_false, false_and]
      · simp (disch := omega) only [↓reduceIte, ra_lit, ra_nf_ap, ra_st_lo, nI_add, nI_clamp, nI_ltI, nI_leI, nI_eq, Option.bind_some, if_true, if_false, not_false_eq_true, not_true_eq_false, ra_ltT, ra_ltF, ra_leT, ra_leF, ra_eqT, ra_eqF, or_false, false_or, or_true, true_or, and_true, true_and, and_false, false_and]
  by_cases c2 : t < f
  · right
    refine ⟨6, by omega, ?_, ?_⟩
    · simp (disch := omega) only [↓reduceIte, ra_lit, ra_nf_ap, ra_st_lo, nI_add, nI_clamp, nI_ltI, nI_leI, nI_eq, Option.bind_some, if_true, if_false, not_false_eq_true, not_true_eq_false, ra_ltT, ra_ltF, ra_leT, ra_leF, ra_eqT, ra_eqF, or_false, false_or, or_true, true_or, and_true, true_and, and_false, false_and]
    · by_cases c0 : 12 < f
      · simp (disch := omega) only [↓reduceIte, ra_lit, ra_nf_ap, ra_st_lo, nI_add, nI_clamp, nI_ltI, nI_leI, nI_eq, Option.bind_some, if_true, if_false, not_false_eq_true, not_true_eq_false, ra_ltT, ra_ltF, ra_leT, ra_leF, ra_eqT, ra_eqF, or_false, false_or, or_true, true_or, and_true, true_and, and_false, false_and]
      · simp (disch := omega) only [↓reduceIte, ra_lit, ra_nf_ap, ra_st_lo, nI_add, nI_clamp, nI_ltI, nI_leI, nI_eq, Option.bind_some, if_true, if_false, not_false_eq_true, not_true_eq_false, ra_ltT, ra_ltF, ra_leT, ra_leF, ra_eqT, ra_eqF, or_false, false_or, or_true, true_or, and_true, true_and, and_false, false_and]
  rcases ra_price (nI pa) (nI pb) with ⟨a, b, qa, qb, e1, e2, e3⟩ | ⟨hn, e3⟩ | ⟨a, b, hc, qa, qb, e1, e2, e3⟩
  · have e1 := (nI_eq (by omega) (by omega)).mp e1
    have e2 := (nI_eq (by omega) (by omega)).mp e2
    subst e1 e2
    left
    refine ⟨f, t, pa, pb, by omega, by omega, qa, qb, rfl, rfl, rfl, rfl, ?_, ?_⟩
    · simp (disch := omega) only [↓reduceIte, ra_lit, ra_nf_ap, ra_st_lo, nI_add, nI_clamp, nI_ltI, nI_leI, nI_eq, Option.bind_some, if_true, if_false, not_false_eq_true, not_true_eq_false, ra_ltT, ra_ltF, ra_leT, ra_leF, ra_eqT, ra_eqF, or_false, false_or, or_true, true_or, and_true, true_and, and_false, false_and, e3]
    · simp (disch := omega) only [↓reduceIte, ra_lit, ra_nf_ap, ra_st_lo, nI_add, nI_clamp, nI_ltI, nI_leI, nI_eq, Option.bind_some, if_true, if_false, not_false_eq_true, not_true_eq_false, ra_ltT, ra_ltF, ra_leT, ra_leF, ra_eqT, ra_eqF, or_false, false_or, or_true, true_or, and_true, true_and, and_false, false_and]
  · rcases hn with z | z
    · exact absurd z h2
    · exact absurd z h3
  · have e1 := (nI_eq (by omega) (by omega)).mp e1
    have e2 := (nI_eq (by omega) (by omega)).mp e2
    subst e1 e2
    right
    refine ⟨6, by omega, ?_, ?_⟩
    · simp (disch := omega) only [↓reduceIte, ra_lit, ra_nf_ap, ra_st_lo, nI_add, nI_clamp, nI_ltI, nI_leI, nI_eq, Option.bind_some, if_true, if_false, not_false_eq_true, not_true_eq_false, ra_ltT, ra_ltF, ra_leT, ra_leF, ra_eqT, ra_eqF, or_false, false_or, or_true, true_or, and_true, true_and, and_false, false_and, e3]
    · by_cases c0 : 99 < pa
      · simp (disch := omega) only [↓reduceIte, ra_lit, ra_nf_ap, ra_st_lo, nI_add, nI_clamp, nI_ltI, nI_leI, nI_eq, Option.bind_some, if_true, if_false, not_false_eq_true, not_true_eq_false, ra_ltT, ra_ltF, ra_leT, ra_leF, ra_eqT, ra_eqF, or_false, false_or, or_true, true_or, and_true, true_and, and_false, false_and]
      · simp (disch := omega) only [↓reduceIte, ra_lit, ra_nf_ap, ra_st_lo, nI_add, nI_clamp, nI_ltI, nI_leI, nI_eq, Option.bind_some, if_true, if_false, not_false_eq_true, not_true_eq_false, ra_ltT, ra_ltF, ra_leT, ra_leF, ra_eqT, ra_eqF, or_false, false_or, or_true, true_or, and_true, true_and, and_false, false_and]
theorem ra_moLe {f t : Nat} (h : f ≤ t) (ht : t ≤ 12) : 2 ^ f ≤ 2 ^ t ∧ 2 ^ t - 2 ^ f ≤ 4095 ∧ 2 ^ t ≤ 4096 := by
  have h1 : 2 ^ f ≤ 2 ^ t := Nat.pow_le_pow_right (by decide) h
  have h2 := ra_p2 ht
  have h3 := Nat.two_pow_pos f
  omega
theorem rc_span {f t : Nat} (h : f ≤ t) (ht : t ≤ 12) : f_X2_monthSpan (nI f) (nI t) = some (nI (2 ^ t - 2 ^ f)) := by
  have := ra_moLe h ht
  unfold f_X2_monthSpan
  rw [ra_sh f (by omega), ra_sh t (by omega), pk_sub this.1]
theorem rr_span {f t : Nat} (h : f ≤ t) (ht : t ≤ 12) : f_X3_monthsOf (nI f) (nI t) = some (nI (2 ^ t - 2 ^ f)) := rc_span h ht
theorem ra_else : ∀ f, f < 13 → ∀ t, t < 13 → f ≤ t → (4095 : Int32) &&& (nI (2 ^ t - 2 ^ f) ^^^ (-1)) = nI (4095 - (2 ^ t - 2 ^ f)) := by decide
theorem tm_two {γ κ τ : Nat → Nat} (G M ρ φ : Nat → Nat) (ta tb tc th : Nat → Int32) {R : Nat} (hG : G 1 = R) (hM : M 2 = R) (hR : R ≤ 12) (hρ : ∀ j, ρ j ≤ 9) (h : ra_ok γ κ τ) (p1 p2 p3 p4 p5 : Int32) :
    ∃ r a b c th' x y φ', f_X2_two (ra_nf G) (ra_nf γ) (ra_nf κ) (ra_nf τ) ta tb tc (ra_nf ρ) th (ra_nf φ) p1 p2 p3 p4 p5 = some (r, a, b, c, th', ra_nf φ') ∧ f_X3_two (ra_nf M) (ra_st γ κ τ) (ra_nf ρ) (ra_nf φ) p1 p2 p3 p4 p5 = some (r, ra_nf (ra_un (ra_un M 4 x) 5 y), ra_nf φ') := by
  unfold f_X2_two f_X3_two
  rcases ra_span p1 p2 p3 p4 with ⟨f, t, pa, pb, hft, ht, ha, hb, rfl, rfl, rfl, rfl, e1, e2⟩ | ⟨c, hc, e1, e2⟩
  · rw [e1, e2, Option.bind_some, Option.bind_some, if_pos (show nI 0 = 0 from rfl), if_pos (show nI 0 = 0 from rfl)]
    have hmo := ra_moLe hft ht
    have hel := ra_else f (by omega) t (by omega) hft
    have hsub : (4095 : Int32) - nI (2 ^ t - 2 ^ f) = nI (4095 - (2 ^ t - 2 ^ f)) := pk_sub (a := 4095) hmo.2.1
    by_cases h5 : p5 < nI 0
    · refine ⟨-nI 2, ta, tb, tc, th, M 4, M 5, ra_rf φ 2, ?_, ?_⟩
      · simp (disch := omega) only [↓reduceIte, ra_lit, ra_nf_ap, ra_st_lo, nI_add, nI_clamp, nI_ltI, nI_leI, nI_eq, Option.bind_some, if_true, if_false, not_false_eq_true, not_true_eq_false, ra_ltT, ra_ltF, ra_leT, ra_leF, ra_eqT, ra_eqF, or_false, false_or, or_true, true_or, and_true, true_and, and_false, false_and, if_pos h5, rc_refuse]
      · rw [ra_unself, show f_X3_isIn p5 0 2 = some (nI 0) from rr_isInN (lo := 0) h5 (by decide), Option.bind_some, if_pos (show nI 0 = 0 from rfl)]
        simp (disch := omega) only [↓reduceIte, ra_lit, ra_nf_ap, ra_st_lo, nI_add, nI_clamp, nI_ltI, nI_leI, nI_eq, Option.bind_some, if_true, if_false, not_false_eq_true, not_true_eq_false, ra_ltT, ra_ltF, ra_leT, ra_leF, ra_eqT, ra_eqF, or_false, false_or, or_true, true_or, and_true, true_and, and_false, false_and, rr_no]
    obtain ⟨w, hw, rfl⟩ := nI_of (x := p5) h5
    have ein : f_X3_isIn (nI w) 0 2 = some (nI (if 0 ≤ w ∧ w ≤ 2 then 1 else 0)) := rr_isIn hw (lo := 0) (hi := 2) (by decide) (by decide)
    rw [ein, Option.bind_some]
    by_cases c2 : 2 < w
    · refine ⟨-nI 2, ta, tb, tc, th, M 4, M 5, ra_rf φ 2, ?_, ?_⟩
      · simp (disch := omega) only [↓reduceIte, ra_lit, ra_nf_ap, ra_st_lo, nI_add, nI_clamp, nI_ltI, nI_leI, nI_eq, Option.bind_some, if_true, if_false, not_false_eq_true, not_true_eq_false, ra_ltT, ra_ltF, ra_leT, ra_leF, ra_eqT, ra_eqF, or_false, false_or, or_true, true_or, and_true, true_and, and_false, false_and, rc_refuse]
      · rw [ra_unself, if_neg (show ¬ (0 ≤ w ∧ w ≤ 2) by omega), if_pos (show nI 0 = 0 from rfl)]
        simp (disch := omega) only [↓reduceIte, ra_lit, ra_nf_ap, ra_st_lo, nI_add, nI_clamp, nI_ltI, nI_leI, nI_eq, Option.bind_some, if_true, if_false, not_false_eq_true, not_true_eq_false, ra_ltT, ra_ltF, ra_leT, ra_leF, ra_eqT, ra_eqF, or_false, false_or, or_true, true_or, and_true, true_and, and_false, false_and, rr_no]
    rw [if_pos (show 0 ≤ w ∧ w ≤ 2 by omega), if_neg (show ¬ nI 1 = 0 by decide), if_pos (show nI 0 = 0 from rfl), rr_areHeats M ρ hM hR hρ, Option.bind_some]
    by_cases c12 : R = 12
    · obtain ⟨b, th', h1, h2⟩ := rc_measure ρ (ra_nf G) ta tb tc th h hρ
      have f1 := rc_bestSize (ra_nf G) th' h hρ h2 (mo := 2 ^ t - 2 ^ f) (pa := pa) (pb := pb) (by omega) ha hb
      have f2 := rc_bestSize (ra_nf G) th' h hρ h2 (mo := 4095 - (2 ^ t - 2 ^ f)) (pa := pa) (pb := pb) (by omega) ha hb
      have f3 := rc_leastCost (ra_nf G) th' h hρ h2 (mo := 2 ^ t - 2 ^ f) (pa := pa) (pb := pb) (by omega) ha hb
      have f4 := rc_leastCost (ra_nf G) th' h hρ h2 (mo := 4095 - (2 ^ t - 2 ^ f)) (pa := pa) (pb := pb) (by omega) ha hb
      have f5 := fun M' => rr_finds M' h hρ (mo := 2 ^ t - 2 ^ f) (pa := pa) (pb := pb) (by omega) ha hb
      have f6 := fun M' => rr_finds M' h hρ (mo := 4095 - (2 ^ t - 2 ^ f)) (pa := pa) (pb := pb) (by omega) ha hb
      rw [if_pos c12, if_neg (show ¬ nI 1 = 0 by decide), if_pos (show nI 0 = 0 from rfl), rr_span hft ht, rc_span hft ht, h1]
      simp only [Option.bind_some, f5, hel, f6, hsub, f1, f2]
      unfold f_X2_twoCost
      simp only [hsub, f3, f4, Option.bind_some]
      have w3 : w = 0 ∨ w = 1 ∨ w = 2 := by omega
      generalize ra_be γ κ τ ρ (2 ^ t - 2 ^ f) pa pb = B1
      generalize ra_be γ κ τ ρ (4095 - (2 ^ t - 2 ^ f)) pa pb = B2
      rcases w3 with rfl | rfl | rfl
      · refine ⟨nI B1.1, b, ra_nf κ, ra_nf τ, th', B1.1, B1.2, φ, ?_, ?_⟩
        · simp (disch := omega) only [↓reduceIte, ra_lit, ra_nf_ap, ra_st_lo, nI_add, nI_clamp, nI_ltI, nI_leI, nI_eq, Option.bind_some, if_true, if_false, not_false_eq_true, not_true_eq_false, ra_ltT, ra_ltF, ra_leT, ra_leF, ra_eqT, ra_eqF, or_false, false_or, or_true, true_or, and_true, true_and, and_false, false_and, hG]
        · simp (disch := omega) only [↓reduceIte, ra_lit, ra_nf_ap, ra_st_lo, nI_add, nI_clamp, nI_ltI, nI_leI, nI_eq, Option.bind_some, if_true, if_false, not_false_eq_true, not_true_eq_false, ra_ltT, ra_ltF, ra_leT, ra_leF, ra_eqT, ra_eqF, or_false, false_or, or_true, true_or, and_true, true_and, and_false, false_and]
          rfl
      · refine ⟨nI B2.1, b, ra_nf κ, ra_nf τ, th', B2.1, B2.2, φ, ?_, ?_⟩
        · simp (disch := omega) only [↓reduceIte, ra_lit, ra_nf_ap, ra_st_lo, nI_add, nI_clamp, nI_ltI, nI_leI, nI_eq, Option.bind_some, if_true, if_false, not_false_eq_true, not_true_eq_false, ra_ltT, ra_ltF, ra_leT, ra_leF, ra_eqT, ra_eqF, or_false, false_or, or_true, true_or, and_true, true_and, and_false, false_and, hG]
        · simp (disch := omega) only [↓reduceIte, ra_lit, ra_nf_ap, ra_st_lo, nI_add, nI_clamp, nI_ltI, nI_leI, nI_eq, Option.bind_some, if_true, if_false, not_false_eq_true, not_true_eq_false, ra_ltT, ra_ltF, ra_leT, ra_leF, ra_eqT, ra_eqF, or_false, false_or, or_true, true_or, and_true, true_and, and_false, false_and, ra_unu]
          rfl
      · refine ⟨nI (B1.2 + B2.2), b, ra_nf κ, ra_nf τ, th', B2.1, B2.2, φ, ?_, ?_⟩
        · simp (disch := omega) only [↓reduceIte, ra_lit, ra_nf_ap, ra_st_lo, nI_add, nI_clamp, nI_ltI, nI_leI, nI_eq, Option.bind_some, if_true, if_false, not_false_eq_true, not_true_eq_false, ra_ltT, ra_ltF, ra_leT, ra_leF, ra_eqT, ra_eqF, or_false, false_or, or_true, true_or, and_true, true_and, and_false, false_and, hG]
        · simp (disch := omega) only [↓reduceIte, ra_lit, ra_nf_ap, ra_st_lo, nI_add, nI_clamp, nI_ltI, nI_leI, nI_eq, Option.bind_some, if_true, if_false, not_false_eq_true, not_true_eq_false, ra_ltT, ra_ltF, ra_leT, ra_leF, ra_eqT, ra_eqF, or_false, false_or, or_true, true_or, and_true, true_and, and_false, false_and, ra_unu]
          rfl
    · refine ⟨-nI 3, ta, tb, tc, th, M 4, M 5, ra_rf φ 3, ?_, ?_⟩
      · simp (disch := omega) only [↓reduceIte, ra_lit, ra_nf_ap, ra_st_lo, nI_add, nI_clamp, nI_ltI, nI_leI, nI_eq, Option.bind_some, if_true, if_false, not_false_eq_true, not_true_eq_false, ra_ltT, ra_ltF, ra_leT, ra_leF, ra_eqT, ra_eqF, or_false, false_or, or_true, true_or, and_true, true_and, and_false, false_and, hG, rc_refuse]
      · rw [ra_unself, if_neg c12, if_pos (show nI 0 = 0 from rfl)]
        simp (disch := omega) only [↓reduceIte, ra_lit, ra_nf_ap, ra_st_lo, nI_add, nI_clamp, nI_ltI, nI_leI, nI_eq, Option.bind_some, if_true, if_false, not_false_eq_true, not_true_eq_false, ra_ltT, ra_ltF, ra_leT, ra_leF, ra_eqT, ra_eqF, or_false, false_or, or_true, true_or, and_true, true_and, and_false, false_and, rr_no]
  · have hz : ¬ -nI c = 0 := ra_nz3' (by omega)
    have : c < 7 := by omega
    refine ⟨-nI c, ta, tb, tc, th, M 4, M 5, ra_rf φ c, ?_, ?_⟩
    · rw [e1, Option.bind_some, if_neg hz, rc_refuse _ _ this]
      rfl
    · rw [ra_unself, e2, Option.bind_some, if_neg hz]
      simp only [if_neg hz, rr_no _ _ this, Option.bind_some]
theorem tm_worth {γ κ τ : Nat → Nat} (G M ρ φ : Nat → Nat) (ta tb tc th : Nat → Int32) {R : Nat} (hG : G 1 = R) (hM : M 2 = R) (hR : R ≤ 12) (hρ : ∀ j, ρ j ≤ 9) (h : ra_ok γ κ τ) (p1 p2 p3 p4 : Int32) :
    ∃ r a b c th' x y φ', f_X2_worth (ra_nf G) (ra_nf γ) (ra_nf κ) (ra_nf τ) ta tb tc (ra_nf ρ) th (ra_nf φ) p1 p2 p3 p4 = some (r, a, b, c, th', ra_nf φ') ∧ f_X3_worth (ra_nf M) (ra_st γ κ τ) (ra_nf ρ) (ra_nf φ) p1 p2 p3 p4 = some (r, ra_nf (ra_un (ra_un M 4 x) 5 y), ra_nf φ') := by
  unfold f_X2_worth f_X3_worth f_X3_far
  rcases ra_span p1 p2 p3 p4 with ⟨f, t, pa, pb, hft, ht, ha, hb, rfl, rfl, rfl, rfl, e1, e2⟩ | ⟨c, hc, e1, e2⟩
  · rw [e1, e2, Option.bind_some, Option.bind_some, if_pos (show nI 0 = 0 from rfl), if_pos (show nI 0 = 0 from rfl), rr_areHeats M ρ hM hR hρ, Option.bind_some]
    have hmo := ra_moLe hft ht
    have hel := ra_else f (by omega) t (by omega) hft
    have hsub : (4095 : Int32) - nI (2 ^ t - 2 ^ f) = nI (4095 - (2 ^ t - 2 ^ f)) := pk_sub (a := 4095) hmo.2.1
    by_cases c12 : R = 12
    · obtain ⟨b, th', h1, h2⟩ := rc_measure ρ (ra_nf G) ta tb tc th h hρ
      have f0 := rc_leastCost (ra_nf G) th' h hρ h2 (mo := 4095) (pa := pa) (pb := pb) (by omega) ha hb
      have f0 : f_X2_leastCost (ra_nf G) th' 4095 (nI pa) (nI pb) = _ := f0
      have f3 := rc_leastCost (ra_nf G) th' h hρ h2 (mo := 2 ^ t - 2 ^ f) (pa := pa) (pb := pb) (by omega) ha hb
      have f4 := rc_leastCost (ra_nf G) th' h hρ h2 (mo := 4095 - (2 ^ t - 2 ^ f)) (pa := pa) (pb := pb) (by omega) ha hb
      have f7 := fun M' => rr_finds M' h hρ (mo := 4095) (pa := pa) (pb := pb) (by omega) ha hb
      have f7 : ∀ M', f_X3_finds (ra_nf M') (ra_st γ κ τ) (ra_nf ρ) 4095 (nI pa) (nI pb) = _ := f7
      have f5 := fun M' => rr_finds M' h hρ (mo := 2 ^ t - 2 ^ f) (pa := pa) (pb := pb) (by omega) ha hb
      have f6 := fun M' => rr_finds M' h hρ (mo := 4095 - (2 ^ t - 2 ^ f)) (pa := pa) (pb := pb) (by omega) ha hb
      rw [if_pos c12, if_neg (show ¬ nI 1 = 0 by decide), if_pos (show nI 0 = 0 from rfl), rr_span hft ht, rc_span hft ht, h1]
      unfold f_X2_twoCost
      simp only [Option.bind_some, f7, f5, hel, f6, hsub, f0, f3, f4]
      generalize ra_be γ κ τ ρ (2 ^ t - 2 ^ f) pa pb = B1
      generalize ra_be γ κ τ ρ (4095 - (2 ^ t - 2 ^ f)) pa pb = B2
      generalize ra_be γ κ τ ρ 4095 pa pb = B0
      refine ⟨nI B0.2 - (nI B1.2 + nI B2.2), b, ra_nf κ, ra_nf τ, th', B2.1, B2.2, φ, ?_, ?_⟩
      · rw [ra_nf_ap, hG, c12, if_pos (show nI 12 = 12 from rfl)]
      · simp only [ra_unu]
        show some (nI B0.2 - nI B1.2 - nI B2.2, _, _) = _
        rw [Int32.sub_sub]
    · refine ⟨1000000000 - -nI 3, ta, tb, tc, th, M 4, M 5, ra_rf φ 3, ?_, ?_⟩
      · simp (disch := omega) only [↓reduceIte, ra_lit, ra_nf_ap, ra_st_lo, nI_add, nI_clamp, nI_ltI, nI_leI, nI_eq, Option.bind_some, if_true, if_false, not_false_eq_true, not_true_eq_false, ra_ltT, ra_ltF, ra_leT, ra_leF, ra_eqT, ra_eqF, or_false, false_or, or_true, true_or, and_true, true_and, and_false, false_and, hG, rc_refuse]
      · rw [ra_unself, if_neg c12, if_pos (show nI 0 = 0 from rfl)]
        simp (disch := omega) only [↓reduceIte, ra_lit, ra_nf_ap, ra_st_lo, nI_add, nI_clamp, nI_ltI, nI_leI, nI_eq, Option.bind_some, if_true, if_false, not_false_eq_true, not_true_eq_false, ra_ltT, ra_ltF, ra_leT, ra_leF, ra_eqT, ra_eqF, or_false, false_or, or_true, true_or, and_true, true_and, and_false, false_and, rr_no]
  · have hz : ¬ -nI c = 0 := ra_nz3' (by omega)
    have : c < 7 := by omega
    refine ⟨1000000000 - -nI c, ta, tb, tc, th, M 4, M 5, ra_rf φ c, ?_, ?_⟩
    · rw [e1, Option.bind_some, if_neg hz, rc_refuse _ _ this]
      rfl
    · rw [ra_unself, e2, Option.bind_some, if_neg hz]
      simp only [if_neg hz, rr_no _ _ this, Option.bind_some]
end RATwo
end
section
/-! went, feel -/
section RAFeel
theorem rr_gaL {γ κ τ : Nat → Nat} (M : Nat → Nat) (h : ra_ok γ κ τ) {k sw : Nat} (hk : k < 7) (hs : sw ≤ 30) : ∀ (d p m : Nat), p + d = γ 0 → d < m →
    f_X3_goesOverAll_L2 (ra_nf M) (ra_st γ κ τ) (nI k) (nI sw) m (nI p) = some (if ∀ q, q < γ 0 → p ≤ q → ra_pf κ τ sw (γ 5) (γ 7) q ≤ γ 1 + ra_al k (γ 2) then Sum.inr (nI (γ 0)) else Sum.inl (nI 0)) := by
  obtain ⟨h0, h1, h2, h3, h4, h5, h6, h7, h8, h9, h10, h11⟩ := id h
  have hal : f_X3_allows (ra_nf M) (ra_st γ κ τ) (nI k) = some (nI (ra_al k (γ 2))) := ra_alR (ra_nf M) (ra_jn γ κ τ) (by omega) h5
  have hall := ra_al_le k (γ 2)
  intro d
  induction d with
  | zero =>
    intro p m hp hm
    obtain ⟨m, rfl⟩ : ∃ q, m = q + 1 := ⟨m - 1, by omega⟩
    obtain rfl : p = γ 0 := by omega
    rw [f_X3_goesOverAll_L2, if_pos (fun q a b => by omega)]
    simp (disch := omega) only [↓reduceIte, ra_lit, ra_nf_ap, ra_st_lo, nI_add, nI_clamp, nI_ltI, nI_leI, nI_eq, Option.bind_some, if_true, if_false, not_false_eq_true, not_true_eq_false, ra_ltT, ra_ltF, ra_leT, ra_leF, ra_eqT, ra_eqF, or_false, false_or, or_true, true_or, and_true, true_and, and_false, false_and]
  | succ d ih =>
    intro p m hp hm
    obtain ⟨m, rfl⟩ : ∃ q, m = q + 1 := ⟨m - 1, by omega⟩
    have := h11 p
    have ht := ra_tk_le (k := κ p) (th := τ p) (sw := sw) (co := γ 5) (he := γ 7) (by omega) (by omega) (by omega)
    rw [f_X3_goesOverAll_L2]
    simp (disch := omega) only [↓reduceIte, ra_lit, ra_nf_ap, ra_st_lo, nI_add, nI_clamp, nI_ltI, nI_leI, nI_eq, Option.bind_some, if_true, if_false, not_false_eq_true, not_true_eq_false, ra_ltT, ra_ltF, ra_leT, ra_leF, ra_eqT, ra_eqF, or_false, false_or, or_true, true_or, and_true, true_and, and_false, false_and, rr_partBy h, hal]
    by_cases c : ra_tk (κ p) (τ p) sw (γ 5) (γ 7) ≤ γ 1 + ra_al k (γ 2)
    · rw [if_pos c, ih (p + 1) m (by omega) (by omega)]
      have e : (∀ q, q < γ 0 → p + 1 ≤ q → ra_pf κ τ sw (γ 5) (γ 7) q ≤ γ 1 + ra_al k (γ 2)) ↔ (∀ q, q < γ 0 → p ≤ q → ra_pf κ τ sw (γ 5) (γ 7) q ≤ γ 1 + ra_al k (γ 2)) := by
        constructor
        · intro z q a b
          by_cases e : q = p
          · subst e; exact c
          · exact z q a (by omega)
        · intro z q a b
          exact z q a (by omega)
      simp only [e]
    · rw [if_neg c, if_neg (fun z => c (z p (by omega) (Nat.le_refl _)))]
theorem rr_gaAll {γ κ τ : Nat → Nat} (M : Nat → Nat) (h : ra_ok γ κ τ) {k sw : Nat} (hk : k < 7) (hs : sw ≤ 30) :
    f_X3_goesOverAll (ra_nf M) (ra_st γ κ τ) (nI k) (nI sw) = some (nI (if ra_top (ra_pf κ τ sw (γ 5) (γ 7)) (γ 0) ≤ γ 1 + ra_al k (γ 2) + 1 then 1 else 0)) := by
  have h1 := rr_gaL M h hk hs (γ 0) 0 rf_fu (by omega) (by have := h.1; unfold rf_fu; omega)
  have e : (∀ q, q < γ 0 → 0 ≤ q → ra_pf κ τ sw (γ 5) (γ 7) q ≤ γ 1 + ra_al k (γ 2)) ↔ ra_top (ra_pf κ τ sw (γ 5) (γ 7)) (γ 0) ≤ γ 1 + ra_al k (γ 2) + 1 := by
    rw [ra_top_le]
    exact ⟨fun z p hp => by have := z p hp (Nat.zero_le _); omega, fun z q hq _ => by have := z q hq; omega⟩
  have h1 : f_X3_goesOverAll_L2 (ra_nf M) (ra_st γ κ τ) (nI k) (nI sw) rf_fu 0 = _ := h1
  unfold f_X3_goesOverAll
  by_cases c : ra_top (ra_pf κ τ sw (γ 5) (γ 7)) (γ 0) ≤ γ 1 + ra_al k (γ 2) + 1
  · rw [if_pos (e.mpr c)] at h1
    rw [h1, if_pos c]
    rfl
  · rw [if_neg (fun z => c (e.mp z))] at h1
    rw [h1, if_neg c]
    rfl
theorem ra_weL {γ κ τ : Nat → Nat} (G M : Nat → Nat) (n1 n2 n3 rc rr : Nat → Int32) (p2 : Int32) (h : ra_ok γ κ τ) {k : Nat} (hk : k < 7) : ∀ (d v m m' s : Nat) (x y : Int32), v + d = 31 → d < m → d < m' →
    ∃ r1 r2 z g z', f_X2_went_L41 (ra_nf G) n1 n2 n3 (nI k) p2 (ra_nf κ) (ra_nf τ) rc m x y (nI v) (ra_nf (ra_un γ 4 s)) = some (r1, r2, z, g) ∧ f_X3_went_L35 (ra_nf M) (ra_st γ κ τ) (nI k) p2 rr m' x y (nI v) = some (r1, r2, z') := by
  intro d
  induction d with
  | zero =>
    intro v m m' s x y hv hm hm'
    obtain ⟨m, rfl⟩ : ∃ q, m = q + 1 := ⟨m - 1, by omega⟩
    obtain ⟨m', rfl⟩ : ∃ q, m' = q + 1 := ⟨m' - 1, by omega⟩
    obtain rfl : v = 31 := by omega
    refine ⟨x, y, nI 31, ra_nf (ra_un γ 4 s), nI 31, ?_, ?_⟩
    · rw [f_X2_went_L41, if_pos (by decide)]
    · rw [f_X3_went_L35, if_pos (by decide)]
  | succ d ih =>
    intro v m m' s x y hv hm hm'
    obtain ⟨m, rfl⟩ : ∃ q, m = q + 1 := ⟨m - 1, by omega⟩
    obtain ⟨m', rfl⟩ : ∃ q, m' = q + 1 := ⟨m' - 1, by omega⟩
    obtain ⟨h0, h1, h2, h3, h4, h5, h6, h7, h8, h9, h10, h11⟩ := id h
    have hal := ra_al_le k (γ 2)
    have hok : ra_ok (ra_un γ 4 v) κ τ := ⟨h0, h1, h2, h3, h4, h5, by show v ≤ 30; omega, h7, h8, h9, h10, h11⟩
    have ht : f_X0_thickestNow (ra_nf (ra_un γ 4 v)) (ra_nf κ) (ra_nf τ) = some (ra_te (ra_top (ra_pf κ τ v (γ 5) (γ 7)) (γ 0))) := rc_thickest hok
    have hb := ra_top_bd (κ := κ) (τ := τ) (sw := v) (co := γ 5) (he := γ 7) (n := γ 0) h11 (by omega) (by omega)
    have c30 : ¬ (30 : Int32) < nI v := nI_nlt (a := 30) (by omega) (by decide)
    have e1 : ra_nf (ra_un γ 4 s) 2 = nI (γ 2) := rfl
    have e2 : ra_nf (ra_un γ 4 s) 1 = nI (γ 1) := rfl
    rw [f_X2_went_L41, f_X3_went_L35, if_neg c30, if_neg c30, ra_upd, ra_unun, ht, Option.bind_some, e1, e2, ra_alC (by omega) h5, Option.bind_some, rr_gaAll M h hk (by omega), Option.bind_some, nI_add, nI_1]
    by_cases c : ra_top (ra_pf κ τ v (γ 5) (γ 7)) (γ 0) ≤ γ 1 + ra_al k (γ 2) + 1
    · rw [if_neg (by rw [ra_lt_te (by omega) (by omega)]; omega), if_pos c]
      simp only [Option.bind_some]
      rw [if_neg (show ¬ nI 1 = 0 by decide)]
      exact ih (v + 1) m m' v (x + 1) (nI v) (by omega) (by omega) (by omega)
    · rw [if_pos (by rw [ra_lt_te (by omega) (by omega)]; omega), if_neg c]
      simp only [Option.bind_some]
      rw [if_pos (show nI 0 = 0 from rfl)]
      exact ih (v + 1) m m' v x y (by omega) (by omega) (by omega)
theorem tm_went {γ κ τ : Nat → Nat} (G M φ : Nat → Nat) (ta tb tc : Nat → Int32) (h : ra_ok γ κ τ) (p1 p2 : Int32) :
    ∃ r a b c φ', f_X2_went (ra_nf G) (ra_nf γ) (ra_nf κ) (ra_nf τ) ta tb tc (ra_nf φ) p1 p2 = some (r, a, b, c, ra_nf φ') ∧ f_X3_went (ra_nf M) (ra_st γ κ τ) (ra_nf φ) p1 p2 = some (r, ra_nf φ') := by
  unfold f_X2_went f_X3_went
  rcases ra_try p1 with ⟨k, hk, rfl, e1, e2⟩ | ⟨e1, e2⟩
  · rw [e1, e2]
    rcases ra_either p2 with ⟨h3, e3, e4⟩ | ⟨e3, e4⟩
    · rw [e3, e4]
      obtain ⟨r1, r2, z, g, z', e5, e6⟩ := ra_weL G M (ra_nf γ) (ra_nf κ) (ra_nf τ) (ra_nf φ) (ra_nf φ) p2 h hk 31 0 rf_fu rf_fu (γ 4) (nI 0) (-nI 9) rfl (by unfold rf_fu; omega) (by unfold rf_fu; omega)
      have e0 : ra_un γ 4 (γ 4) = γ := by
        funext j
        unfold ra_un
        split
        · rename_i e
          rw [e]
        · rfl
      rw [e0] at e5
      simp (disch := omega) only [↓reduceIte, ra_lit, ra_nf_ap, ra_st_lo, nI_add, nI_clamp, nI_ltI, nI_leI, nI_eq, Option.bind_some, if_true, if_false, not_false_eq_true, not_true_eq_false, ra_ltT, ra_ltF, ra_leT, ra_leF, ra_eqT, ra_eqF, or_false, false_or, or_true, true_or, and_true, true_and, and_false, false_and, rc_copy, e5, e6]
      rcases h3 with rfl | rfl
      · refine ⟨r1, g, ra_nf κ, ra_nf τ, φ, ?_, ?_⟩
        · simp (disch := omega) only [↓reduceIte, ra_lit, ra_nf_ap, ra_st_lo, nI_add, nI_clamp, nI_ltI, nI_leI, nI_eq, Option.bind_some, if_true, if_false, not_false_eq_true, not_true_eq_false, ra_ltT, ra_ltF, ra_leT, ra_leF, ra_eqT, ra_eqF, or_false, false_or, or_true, true_or, and_true, true_and, and_false, false_and]
        · simp (disch := omega) only [↓reduceIte, ra_lit, ra_nf_ap, ra_st_lo, nI_add, nI_clamp, nI_ltI, nI_leI, nI_eq, Option.bind_some, if_true, if_false, not_false_eq_true, not_true_eq_false, ra_ltT, ra_ltF, ra_leT, ra_leF, ra_eqT, ra_eqF, or_false, false_or, or_true, true_or, and_true, true_and, and_false, false_and]
      · refine ⟨r2, g, ra_nf κ, ra_nf τ, φ, ?_, ?_⟩
        · simp (disch := omega) only [↓reduceIte, ra_lit, ra_nf_ap, ra_st_lo, nI_add, nI_clamp, nI_ltI, nI_leI, nI_eq, Option.bind_some, if_true, if_false, not_false_eq_true, not_true_eq_false, ra_ltT, ra_ltF, ra_leT, ra_leF, ra_eqT, ra_eqF, or_false, false_or, or_true, true_or, and_true, true_and, and_false, false_and]
        · simp (disch := omega) only [↓reduceIte, ra_lit, ra_nf_ap, ra_st_lo, nI_add, nI_clamp, nI_ltI, nI_leI, nI_eq, Option.bind_some, if_true, if_false, not_false_eq_true, not_true_eq_false, ra_ltT, ra_ltF, ra_leT, ra_leF, ra_eqT, ra_eqF, or_false, false_or, or_true, true_or, and_true, true_and, and_false, false_and]
    · rw [e3, e4]
      refine ⟨-nI 2, ta, tb, tc, ra_rf φ 2, ?_, ?_⟩
      · simp (disch := omega) only [↓reduceIte, ra_lit, ra_nf_ap, ra_st_lo, nI_add, nI_clamp, nI_ltI, nI_leI, nI_eq, Option.bind_some, if_true, if_false, not_false_eq_true, not_true_eq_false, ra_ltT, ra_ltF, ra_leT, ra_leF, ra_eqT, ra_eqF, or_false, false_or, or_true, true_or, and_true, true_and, and_false, false_and, rc_refuse]
      · simp (disch := omega) only [↓reduceIte, ra_lit, ra_nf_ap, ra_st_lo, nI_add, nI_clamp, nI_ltI, nI_leI, nI_eq, Option.bind_some, if_true, if_false, not_false_eq_true, not_true_eq_false, ra_ltT, ra_ltF, ra_leT, ra_leF, ra_eqT, ra_eqF, or_false, false_or, or_true, true_or, and_true, true_and, and_false, false_and, rr_no]
  · rw [e1, e2]
    refine ⟨-nI 2, ta, tb, tc, ra_rf φ 2, ?_, ?_⟩
    · simp (disch := omega) only [↓reduceIte, ra_lit, ra_nf_ap, ra_st_lo, nI_add, nI_clamp, nI_ltI, nI_leI, nI_eq, Option.bind_some, if_true, if_false, not_false_eq_true, not_true_eq_false, ra_ltT, ra_ltF, ra_leT, ra_leF, ra_eqT, ra_eqF, or_false, false_or, or_true, true_or, and_true, true_and, and_false, false_and, rc_refuse]
    · simp (disch := omega) only [↓reduceIte, ra_lit, ra_nf_ap, ra_st_lo, nI_add, nI_clamp, nI_ltI, nI_leI, nI_eq, Option.bind_some, if_true, if_false, not_false_eq_true, not_true_eq_false, ra_ltT, ra_ltF, ra_leT, ra_leF, ra_eqT, ra_eqF, or_false, false_or, or_true, true_or, and_true, true_and, and_false, false_and, rr_no]
/-! feel -/
def ra_lim (j : Nat) : Nat := if j % 2 = 0 then 7 else 2
theorem rr_toL (M ρ : Nat → Nat) {R : Nat} (hM : M 2 = R) (hR : R ≤ 12) (hρ : ∀ j, ρ j ≤ 9) : ∀ (d i m : Nat), i + d = R → d < m →
    f_X3_areTold_L2 (ra_nf M) (ra_nf ρ) m (nI i) = some (if ∀ q, q < R → i ≤ q → ρ q < ra_lim q then Sum.inr (nI R) else Sum.inl (nI 0)) := by
  intro d
  induction d with
  | zero =>
    intro i m hi hm
    obtain ⟨m, rfl⟩ : ∃ q, m = q + 1 := ⟨m - 1, by omega⟩
    obtain rfl : i = R := by omega
    rw [f_X3_areTold_L2, if_pos (fun q a b => by omega)]
    simp (disch := omega) only [↓reduceIte, ra_lit, ra_nf_ap, ra_st_lo, nI_add, nI_clamp, nI_ltI, nI_leI, nI_eq, Option.bind_some, if_true, if_false, not_false_eq_true, not_true_eq_false, ra_ltT, ra_ltF, ra_leT, ra_leF, ra_eqT, ra_eqF, or_false, false_or, or_true, true_or, and_true, true_and, and_false, false_and, hM]
  | succ d ih =>
    intro i m hi hm
    obtain ⟨m, rfl⟩ : ∃ q, m = q + 1 := ⟨m - 1, by omega⟩
    have := hρ i
    have hrem : rf_rem (nI i) (nI 2) = nI (i % 2) := pk_rem (by omega) (by decide) (by decide)
    have ih := ih (i + 1) m (by omega) (by omega)
    have e : ρ i < ra_lim i → ((∀ q, q < R → i + 1 ≤ q → ρ q < ra_lim q) ↔ (∀ q, q < R → i ≤ q → ρ q < ra_lim q)) := by
      intro c
      constructor
      · intro z q a b
        by_cases e : q = i
        · subst e; exact c
        · exact z q a (by omega)
      · intro z q a b
        exact z q a (by omega)
    rw [f_X3_areTold_L2]
    by_cases par : i % 2 = 0
    · have el : ra_lim i = 7 := if_pos par
      simp (disch := omega) only [↓reduceIte, ra_lit, ra_nf_ap, ra_st_lo, nI_add, nI_clamp, nI_ltI, nI_leI, nI_eq, Option.bind_some, if_true, if_false, not_false_eq_true, not_true_eq_false, ra_ltT, ra_ltF, ra_leT, ra_leF, ra_eqT, ra_eqF, or_false, false_or, or_true, true_or, and_true, true_and, and_false, false_and, hM, hrem]
      by_cases c : ρ i < 7
      · rw [if_pos c, ih]
        simp only [e (by omega)]
      · rw [if_neg c, if_neg (fun z => c (by have := z i (by omega) (Nat.le_refl _); omega))]
    · have el : ra_lim i = 2 := if_neg par
      simp (disch := omega) only [↓reduceIte, ra_lit, ra_nf_ap, ra_st_lo, nI_add, nI_clamp, nI_ltI, nI_leI, nI_eq, Option.bind_some, if_true, if_false, not_false_eq_true, not_true_eq_false, ra_ltT, ra_ltF, ra_leT, ra_leF, ra_eqT, ra_eqF, or_false, false_or, or_true, true_or, and_true, true_and, and_false, false_and, hM, hrem]
      by_cases c : ρ i ≤ 1
      · rw [if_pos c, ih]
        simp only [e (by omega)]
      · rw [if_neg c, if_neg (fun z => c (by have := z i (by omega) (Nat.le_refl _); omega))]
def ra_told (ρ : Nat → Nat) (R : Nat) : Prop := R % 2 = 0 ∧ ∀ q, q < R → ρ q < ra_lim q
theorem rr_areTold (M ρ : Nat → Nat) {R : Nat} (hM : M 2 = R) (hR : R ≤ 12) (hρ : ∀ j, ρ j ≤ 9) :
    (ra_told ρ R ∧ f_X3_areTold (ra_nf M) (ra_nf ρ) = some (nI 1)) ∨ (¬ ra_told ρ R ∧ f_X3_areTold (ra_nf M) (ra_nf ρ) = some (nI 0)) := by
  have h1 := rr_toL M ρ hM hR hρ R 0 rf_fu (by omega) (by unfold rf_fu; omega)
  have h1 : f_X3_areTold_L2 (ra_nf M) (ra_nf ρ) rf_fu 0 = _ := h1
  have hrem : rf_rem (ra_nf M 2) 2 = nI (R % 2) := by
    rw [ra_nf_ap, hM]
    exact pk_rem (d := 2) (by omega) (by decide) (by decide)
  unfold f_X3_areTold
  by_cases c : ∀ q, q < R → 0 ≤ q → ρ q < ra_lim q
  · rw [if_pos c] at h1
    rw [h1, Option.bind_some]
    simp only [rf_sum, hrem, Option.bind_some]
    by_cases c2 : R % 2 = 0
    · left
      refine ⟨⟨c2, fun q hq => c q hq (Nat.zero_le _)⟩, ?_⟩
      rw [c2]
      rfl
    · right
      refine ⟨fun z => c2 z.1, ?_⟩
      rw [show R % 2 = 1 by omega]
      rfl
  · rw [if_neg c] at h1
    rw [h1]
    right
    exact ⟨fun z => c (fun q hq _ => z.2 q hq), rfl⟩
theorem rc_toL (G ρ : Nat → Nat) {R : Nat} (hG : G 1 = R) (hR : R ≤ 12) (hρ : ∀ j, ρ j ≤ 9) : ∀ (d i m : Nat), i + 2 * d = R → i % 2 = 0 → d < m →
    (((∀ q, q < R → i ≤ q → ρ q < ra_lim q) ∧ f_X2_numbersTellTries_L13 (ra_nf G) (ra_nf ρ) m (nI i) = some (Sum.inr (nI R))) ∨ (¬ (∀ q, q < R → i ≤ q → ρ q < ra_lim q) ∧ f_X2_numbersTellTries_L13 (ra_nf G) (ra_nf ρ) m (nI i) = some (Sum.inl (nI 0)))) := by
  intro d
  induction d with
  | zero =>
    intro i m hi hp hm
    obtain ⟨m, rfl⟩ : ∃ q, m = q + 1 := ⟨m - 1, by omega⟩
    obtain rfl : i = R := by omega
    left
    refine ⟨fun q a b => by omega, ?_⟩
    rw [f_X2_numbersTellTries_L13]
    simp (disch := omega) only [↓reduceIte, ra_lit, ra_nf_ap, ra_st_lo, nI_add, nI_clamp, nI_ltI, nI_leI, nI_eq, Option.bind_some, if_true, if_false, not_false_eq_true, not_true_eq_false, ra_ltT, ra_ltF, ra_leT, ra_leF, ra_eqT, ra_eqF, or_false, false_or, or_true, true_or, and_true, true_and, and_false, false_and, hG]
  | succ d ih =>
    intro i m hi hp hm
    obtain ⟨m, rfl⟩ : ∃ q, m = q + 1 := ⟨m - 1, by omega⟩
    have v1 := hρ i
    have v2 := hρ (i + 1)
    have l0 : ra_lim i = 7 := if_pos hp
    have l1 : ra_lim (i + 1) = 2 := if_neg (by omega)
    rw [f_X2_numbersTellTries_L13]
    simp (disch := omega) only [↓reduceIte, ra_lit, ra_nf_ap, ra_st_lo, nI_add, nI_clamp, nI_ltI, nI_leI, nI_eq, Option.bind_some, if_true, if_false, not_false_eq_true, not_true_eq_false, ra_ltT, ra_ltF, ra_leT, ra_leF, ra_eqT, ra_eqF, or_false, false_or, or_true, true_or, and_true, true_and, and_false, false_and, hG, ra_at, rc_isTry]
    by_cases c : ρ i < 7
    · simp (disch := omega) only [↓reduceIte, ra_lit, ra_nf_ap, ra_st_lo, nI_add, nI_clamp, nI_ltI, nI_leI, nI_eq, Option.bind_some, if_true, if_false, not_false_eq_true, not_true_eq_false, ra_ltT, ra_ltF, ra_leT, ra_leF, ra_eqT, ra_eqF, or_false, false_or, or_true, true_or, and_true, true_and, and_false, false_and, if_pos c]
      by_cases c1 : ρ (i + 1) ≤ 1
      · simp (disch := omega) only [↓reduceIte, ra_lit, ra_nf_ap, ra_st_lo, nI_add, nI_clamp, nI_ltI, nI_leI, nI_eq, Option.bind_some, if_true, if_false, not_false_eq_true, not_true_eq_false, ra_ltT, ra_ltF, ra_leT, ra_leF, ra_eqT, ra_eqF, or_false, false_or, or_true, true_or, and_true, true_and, and_false, false_and, if_pos c1]
        have e : (∀ q, q < R → i + 2 ≤ q → ρ q < ra_lim q) ↔ (∀ q, q < R → i ≤ q → ρ q < ra_lim q) := by
          constructor
          · intro z q a b
            by_cases e0 : q = i
            · subst e0; omega
            · by_cases e1 : q = i + 1
              · subst e1; omega
              · exact z q a (by omega)
          · intro z q a b
            exact z q a (by omega)
        have := ih (i + 2) m (by omega) (by omega) (by omega)
        rw [e] at this
        exact this
      · simp (disch := omega) only [↓reduceIte, ra_lit, ra_nf_ap, ra_st_lo, nI_add, nI_clamp, nI_ltI, nI_leI, nI_eq, Option.bind_some, if_true, if_false, not_false_eq_true, not_true_eq_false, ra_ltT, ra_ltF, ra_leT, ra_leF, ra_eqT, ra_eqF, or_false, false_or, or_true, true_or, and_true, true_and, and_false, false_and, if_neg c1]
        right
        exact fun z => c1 (by have := z (i + 1) (by omega) (by omega); omega)
    · simp (disch := omega) only [↓reduceIte, ra_lit, ra_nf_ap, ra_st_lo, nI_add, nI_clamp, nI_ltI, nI_leI, nI_eq, Option.bind_some, if_true, if_false, not_false_eq_true, not_true_eq_false, ra_ltT, ra_ltF, ra_leT, ra_leF, ra_eqT, ra_eqF, or_false, false_or, or_true, true_or, and_true, true_and, and_false, false_and, if_neg c]
      right
      exact fun z => c (by have := z i (by omega) (by omega); omega)
theorem rc_told (G ρ : Nat → Nat) {R : Nat} (hG : G 1 = R) (hR : R ≤ 12) (hρ : ∀ j, ρ j ≤ 9) :
    (ra_told ρ R ∧ f_X2_numbersTellTries (ra_nf G) (ra_nf ρ) = some (nI 1)) ∨ (¬ ra_told ρ R ∧ f_X2_numbersTellTries (ra_nf G) (ra_nf ρ) = some (nI 0)) := by
  have hrem : rf_rem (ra_nf G 1) 2 = nI (R % 2) := by
    rw [ra_nf_ap, hG]
    exact pk_rem (d := 2) (by omega) (by decide) (by decide)
  unfold f_X2_numbersTellTries
  rw [hrem, Option.bind_some]
  by_cases c : R % 2 = 0
  · rw [c, if_pos (show nI 0 = 0 from rfl)]
    rcases rc_toL G ρ hG hR hρ (R / 2) 0 rf_fu (by omega) rfl (by unfold rf_fu; omega) with ⟨h1, h2⟩ | ⟨h1, h2⟩
    · left
      have h2 : f_X2_numbersTellTries_L13 (ra_nf G) (ra_nf ρ) rf_fu 0 = _ := h2
      rw [h2]
      exact ⟨⟨c, fun q hq => h1 q hq (Nat.zero_le _)⟩, rfl⟩
    · right
      have h2 : f_X2_numbersTellTries_L13 (ra_nf G) (ra_nf ρ) rf_fu 0 = _ := h2
      rw [h2]
      exact ⟨fun z => h1 (fun q hq _ => z.2 q hq), rfl⟩
  · right
    rw [show R % 2 = 1 by omega, if_neg (show ¬ nI 1 = 0 by decide)]
    exact ⟨fun z => c z.1, rfl⟩
/-- a part of that thickness in front: would it go over -/
abbrev ra_ot (γ κ : Nat → Nat) (k t : Nat) : Prop := ra_tk (κ (γ 3)) t (γ 4) (ra_cd k (γ 5)) (γ 7) ≤ γ 1 + ra_al k (γ 2)
theorem ra_tk_mono {k a b sw co he : Nat} (h : a ≤ b) : ra_tk k a sw co he ≤ ra_tk k b sw co he := by
  unfold ra_tk
  repeat' split
  all_goals omega
theorem ra_ot_mono {γ κ : Nat → Nat} {k a b : Nat} (h : a ≤ b) (hb : ra_ot γ κ k b) : ra_ot γ κ k a := Nat.le_trans (ra_tk_mono h) hb
theorem ra_te_s (t : Nat) : ra_te (t + 1) = nI t := by
  unfold ra_te
  rw [pk_sub (by omega)]
  rfl
theorem ra_te_p (t : Nat) : nI t + (-1) = ra_te t := by
  unfold ra_te
  rw [Int32.sub_eq_add_neg]
  rfl
theorem rc_edL {γ κ τ : Nat → Nat} {k : Nat} (hk : k < 7) (h : ra_ok γ κ τ) (ho : γ 3 < γ 0) : ∀ (n m x0 : Nat), n < m → n ≤ 241 → x0 ≤ 240 →
    ∃ x, x ≤ 240 ∧ ((∃ e, e < n ∧ ra_ot γ κ k e ∧ (∀ t, e < t → t < n → ¬ ra_ot γ κ k t) ∧ f_X0_thickestThatGoes_L4 (ra_nf γ) (ra_nf κ) (nI k) m (ra_te n) (ra_nf (ra_un τ (γ 3) x0)) = some (Sum.inl (nI e, ra_nf (ra_un τ (γ 3) x)))) ∨
      ((∀ t, t < n → ¬ ra_ot γ κ k t) ∧ ∃ y, f_X0_thickestThatGoes_L4 (ra_nf γ) (ra_nf κ) (nI k) m (ra_te n) (ra_nf (ra_un τ (γ 3) x0)) = some (Sum.inr (y, ra_nf (ra_un τ (γ 3) x))))) := by
  intro n
  induction n with
  | zero =>
    intro m x0 hm _ hx0
    obtain ⟨m, rfl⟩ : ∃ q, m = q + 1 := ⟨m - 1, by omega⟩
    refine ⟨x0, hx0, Or.inr ⟨fun t ht => absurd ht (Nat.not_lt_zero _), ra_te 0, ?_⟩⟩
    rw [f_X0_thickestThatGoes_L4, if_pos (by decide)]
  | succ n ih =>
    intro m x0 hm hn hx0
    obtain ⟨m, rfl⟩ : ∃ q, m = q + 1 := ⟨m - 1, by omega⟩
    obtain ⟨h0, h1, h2, h3, h4, h5, h6, h7, h8, h9, h10, h11⟩ := id h
    have hok : ra_ok γ κ (ra_un τ (γ 3) n) := ⟨h0, h1, h2, h3, h4, h5, h6, h7, h8, h9, h10, fun j => by
      unfold ra_un
      split
      · omega
      · exact h11 j⟩
    have hov : ra_ov γ κ (ra_un τ (γ 3) n) k ↔ ra_ot γ κ k n := by
      unfold ra_ov ra_ot
      rw [ra_us]
    have e1 : f_X2_put 6 (ra_nf (ra_un τ (γ 3) x0)) (ra_nf γ 3) (nI n) = some (ra_nf (ra_un τ (γ 3) n)) := by
      rw [ra_nf_ap, ra_put _ _ (by omega) (by decide), ra_upd, ra_unun]
    have e2 := rc_over hok (k := k) (by omega)
    rw [f_X0_thickestThatGoes_L4, ra_te_s, if_neg (nI_pos (by omega)), e1, Option.bind_some, e2, Option.bind_some]
    by_cases c : ra_ot γ κ k n
    · rw [if_pos (show γ 3 < γ 0 ∧ ra_ov γ κ (ra_un τ (γ 3) n) k from ⟨ho, hov.mpr c⟩), if_neg (show ¬ nI 1 = 0 by decide)]
      exact ⟨n, by omega, Or.inl ⟨n, by omega, c, fun t a b => by omega, rfl⟩⟩
    · rw [if_neg (show ¬ (γ 3 < γ 0 ∧ ra_ov γ κ (ra_un τ (γ 3) n) k) from fun z => c (hov.mp z.2)), if_pos (show nI 0 = 0 from rfl), Option.bind_some, ra_te_p]
      obtain ⟨x, hx, hz⟩ := ih m n (by omega) (by omega) (by omega)
      refine ⟨x, hx, ?_⟩
      rcases hz with ⟨e, z1, z2, z3, z4⟩ | ⟨z1, y, z2⟩
      · exact Or.inl ⟨e, by omega, z2, fun t a b => by
          by_cases et : t = n
          · subst et; exact c
          · exact z3 t a (by omega), z4⟩
      · exact Or.inr ⟨fun t a => by
          by_cases et : t = n
          · subst et; exact c
          · exact z1 t (by omega), y, z2⟩
theorem rc_edge {γ κ τ : Nat → Nat} {k x0 : Nat} (hk : k < 7) (h : ra_ok γ κ τ) (ho : γ 3 < γ 0) (hx0 : x0 ≤ 240) :
    ∃ e x, e ≤ 241 ∧ x ≤ 240 ∧ f_X0_thickestThatGoes (ra_nf γ) (ra_nf κ) (ra_nf (ra_un τ (γ 3) x0)) (nI k) = some (ra_te e, ra_nf (ra_un τ (γ 3) x)) ∧ ∀ t, t ≤ 240 → (ra_ot γ κ k t ↔ t < e) := by
  obtain ⟨x, hx, hz⟩ := rc_edL hk h ho 241 rf_fu x0 (by unfold rf_fu; omega) (Nat.le_refl _) hx0
  unfold f_X0_thickestThatGoes
  rcases hz with ⟨e, z1, z2, z3, z4⟩ | ⟨z1, y, z2⟩
  · have z4 : f_X0_thickestThatGoes_L4 (ra_nf γ) (ra_nf κ) (nI k) rf_fu 240 (ra_nf (ra_un τ (γ 3) x0)) = _ := z4
    refine ⟨e + 1, x, by omega, hx, ?_, fun t ht => ?_⟩
    · rw [z4, ra_te_s]
      rfl
    · constructor
      · intro a
        by_cases b : t < e + 1
        · exact b
        · exact absurd a (z3 t (by omega) (by omega))
      · intro a
        exact ra_ot_mono (by omega) z2
  · have z2 : f_X0_thickestThatGoes_L4 (ra_nf γ) (ra_nf κ) (nI k) rf_fu 240 (ra_nf (ra_un τ (γ 3) x0)) = _ := z2
    refine ⟨0, x, by omega, hx, ?_, fun t ht => ?_⟩
    · rw [z2]
      rfl
    · exact ⟨fun a => absurd a (z1 t (by omega)), fun a => absurd a (Nat.not_lt_zero _)⟩
def ra_so (κ ρ : Nat → Nat) (t : Nat) : Nat → Nat → (Nat → Nat) → Prop
  | 0, _, _ => True
  | d + 1, i, γ => (ra_ot γ κ (ρ i) t ↔ ρ (i + 1) = 1) ∧ ra_so κ ρ t d (i + 2) (ra_wear γ (ρ i))
theorem ra_te_min {a b : Nat} (ha : a < 2 ^ 29) (hb : b < 2 ^ 29) : rf_min (ra_te a) (ra_te b) = ra_te (min a b) := by
  unfold rf_min
  apply Int32.toInt_inj.mp
  rw [ra_te_toInt (by omega)]
  by_cases c : ra_te b < ra_te a
  · rw [if_pos c, ra_te_toInt (by omega)]
    have c := Int32.lt_iff_toInt_lt.mp c
    rw [ra_te_toInt (by omega), ra_te_toInt (by omega)] at c
    omega
  · rw [if_neg c, ra_te_toInt (by omega)]
    have c : ¬ (ra_te b).toInt < (ra_te a).toInt := fun z => c (Int32.lt_iff_toInt_lt.mpr z)
    rw [ra_te_toInt (by omega), ra_te_toInt (by omega)] at c
    omega
theorem ra_te_1 (m : Nat) : ra_te m + 1 = nI m := by
  unfold ra_te
  show nI m - 1 + 1 = nI m
  rw [Int32.sub_add_cancel]
theorem rc_feL {κ τ : Nat → Nat} (G ρ : Nat → Nat) (n1 n2 n3 rc : Nat → Int32) (p1 : Int32) {R : Nat} (hG : G 1 = R) (hR : R ≤ 12) (hρ : ∀ j, ρ j ≤ 9) (hto : ∀ q, q < R → ρ q < ra_lim q) : ∀ (d i m lo hi x0 : Nat) (γ : Nat → Nat), i + 2 * d = R → i % 2 = 0 → d < m → ra_ok γ κ τ → γ 3 < γ 0 → x0 ≤ 240 → lo ≤ 241 → hi ≤ 241 →
    ∃ lo' hi' y g x, lo' ≤ 241 ∧ hi' ≤ 241 ∧ f_X2_feel_L58 (ra_nf G) n1 n2 n3 (ra_nf ρ) p1 (ra_nf κ) rc m (nI lo) (ra_te hi) (nI i) (ra_nf γ) (ra_nf (ra_un τ (γ 3) x0)) = some (nI lo', ra_te hi', y, g, x) ∧ ∀ t, t ≤ 240 → ((lo' ≤ t ∧ t < hi') ↔ ((lo ≤ t ∧ t < hi) ∧ ra_so κ ρ t d i γ)) := by
  intro d
  induction d with
  | zero =>
    intro i m lo hi x0 γ he hp hm h ho hx hlo hhi
    obtain ⟨m, rfl⟩ : ∃ q, m = q + 1 := ⟨m - 1, by omega⟩
    obtain rfl : i = R := by omega
    refine ⟨lo, hi, nI i, ra_nf γ, ra_nf (ra_un τ (γ 3) x0), hlo, hhi, ?_, fun t _ => ⟨fun z => ⟨z, trivial⟩, fun z => z.1⟩⟩
    rw [f_X2_feel_L58]
    simp (disch := omega) only [↓reduceIte, ra_lit, ra_nf_ap, ra_st_lo, nI_add, nI_clamp, nI_ltI, nI_leI, nI_eq, Option.bind_some, if_true, if_false, not_false_eq_true, not_true_eq_false, ra_ltT, ra_ltF, ra_leT, ra_leF, ra_eqT, ra_eqF, or_false, false_or, or_true, true_or, and_true, true_and, and_false, false_and, hG]
  | succ d ih =>
    intro i m lo hi x0 γ he hp hm h ho hx hlo hhi
    obtain ⟨m, rfl⟩ : ∃ q, m = q + 1 := ⟨m - 1, by omega⟩
    obtain ⟨h0, h1, h2, h3, h4, h5, h6, h7, h8, h9, h10, h11⟩ := id h
    have v1 : ρ i < 7 := by
      have := hto i (by omega)
      unfold ra_lim at this
      rw [if_pos hp] at this
      exact this
    have v2 : ρ (i + 1) < 2 := by
      have := hto (i + 1) (by omega)
      unfold ra_lim at this
      rw [if_neg (by omega)] at this
      exact this
    obtain ⟨e, x, he1, hx1, e1, e2⟩ := rc_edge (x0 := x0) v1 h ho hx
    rw [f_X2_feel_L58]
    simp (disch := omega) only [↓reduceIte, ra_lit, ra_nf_ap, ra_st_lo, nI_add, nI_clamp, nI_ltI, nI_leI, nI_eq, Option.bind_some, if_true, if_false, not_false_eq_true, not_true_eq_false, ra_ltT, ra_ltF, ra_leT, ra_leF, ra_eqT, ra_eqF, or_false, false_or, or_true, true_or, and_true, true_and, and_false, false_and, hG, ra_at, e1, rc_strain]
    by_cases c : ρ (i + 1) = 1
    · simp (disch := omega) only [↓reduceIte, ra_lit, ra_nf_ap, ra_st_lo, nI_add, nI_clamp, nI_ltI, nI_leI, nI_eq, Option.bind_some, if_true, if_false, not_false_eq_true, not_true_eq_false, ra_ltT, ra_ltF, ra_leT, ra_leF, ra_eqT, ra_eqF, or_false, false_or, or_true, true_or, and_true, true_and, and_false, false_and, if_pos c, ra_te_min]
      obtain ⟨lo', hi', y, g, x', b1, b2, b3, b4⟩ := ih (i + 2) m lo (min hi e) x (ra_wear γ (ρ i)) (by omega) (by omega) (by omega) (ra_wear_ok h) ho hx1 hlo (by omega)
      refine ⟨lo', hi', y, g, x', b1, b2, b3, fun t ht => ?_⟩
      rw [b4 t ht]
      have e2 := e2 t ht
      constructor
      · intro z
        exact ⟨⟨z.1.1, by omega⟩, ⟨⟨fun _ => c, fun _ => e2.mpr (by omega)⟩, z.2⟩⟩
      · intro z
        have := e2.mp (z.2.1.mpr c)
        exact ⟨⟨z.1.1, by omega⟩, z.2.2⟩
    · simp (disch := omega) only [↓reduceIte, ra_lit, ra_nf_ap, ra_st_lo, nI_add, nI_clamp, nI_ltI, nI_leI, nI_eq, Option.bind_some, if_true, if_false, not_false_eq_true, not_true_eq_false, ra_ltT, ra_ltF, ra_leT, ra_leF, ra_eqT, ra_eqF, or_false, false_or, or_true, true_or, and_true, true_and, and_false, false_and, if_neg c, ra_te_1, ra_mxn]
      have e3 : ra_te e + nI 1 = nI e := ra_te_1 e
      rw [e3, ra_mxn (by omega) (by omega)]
      obtain ⟨lo', hi', y, g, x', b1, b2, b3, b4⟩ := ih (i + 2) m (max lo e) hi x (ra_wear γ (ρ i)) (by omega) (by omega) (by omega) (ra_wear_ok h) ho hx1 (by omega) hhi
      refine ⟨lo', hi', y, g, x', b1, b2, b3, fun t ht => ?_⟩
      rw [b4 t ht]
      have e2 := e2 t ht
      constructor
      · intro z
        exact ⟨⟨by omega, z.1.2⟩, ⟨⟨fun a => absurd (e2.mp a) (by omega), fun a => absurd a c⟩, z.2⟩⟩
      · intro z
        have : ¬ t < e := fun a => c (z.2.1.mp (e2.mpr a))
        exact ⟨⟨by omega, z.1.2⟩, z.2.2⟩
theorem rr_soL {γ0 κ τ : Nat → Nat} (M ρ : Nat → Nat) {R : Nat} (hM : M 2 = R) (hR : R ≤ 12) (hρ : ∀ j, ρ j ≤ 9) (hto : ∀ q, q < R → ρ q < ra_lim q) (h : ra_ok γ0 κ τ) (ho : γ0 3 < γ0 0) {t : Nat} (ht : t ≤ 240) : ∀ (d i m : Nat) (γ : Nat → Nat), i + 2 * d = R → i % 2 = 0 → d < m → γ 4 ≤ 30 → γ 5 ≤ 20 → γ 1 = γ0 1 → γ 2 = γ0 2 → γ 3 = γ0 3 → γ 7 = γ0 7 →
    ((ra_so κ ρ t d i γ ∧ ∃ y, f_X3_isSo_L17 (ra_nf M) (ra_st γ0 κ τ) (ra_nf ρ) (nI t) m (nI (γ 4)) (nI (γ 5)) (nI i) = some (Sum.inr y)) ∨ (¬ ra_so κ ρ t d i γ ∧ f_X3_isSo_L17 (ra_nf M) (ra_st γ0 κ τ) (ra_nf ρ) (nI t) m (nI (γ 4)) (nI (γ 5)) (nI i) = some (Sum.inl (nI 0)))) := by
  obtain ⟨h0, h1, h2, h3, h4, h5, h6, h7, h8, h9, h10, h11⟩ := id h
  intro d
  induction d with
  | zero =>
    intro i m γ hi hp hm g4 g5 g1 g2 g3 g7
    obtain ⟨m, rfl⟩ : ∃ q, m = q + 1 := ⟨m - 1, by omega⟩
    obtain rfl : i = R := by omega
    left
    refine ⟨trivial, (nI (γ 4), nI (γ 5), nI i), ?_⟩
    rw [f_X3_isSo_L17]
    simp (disch := omega) only [↓reduceIte, ra_lit, ra_nf_ap, ra_st_lo, nI_add, nI_clamp, nI_ltI, nI_leI, nI_eq, Option.bind_some, if_true, if_false, not_false_eq_true, not_true_eq_false, ra_ltT, ra_ltF, ra_leT, ra_leF, ra_eqT, ra_eqF, or_false, false_or, or_true, true_or, and_true, true_and, and_false, false_and, hM]
  | succ d ih =>
    intro i m γ hi hp hm g4 g5 g1 g2 g3 g7
    obtain ⟨m, rfl⟩ : ∃ q, m = q + 1 := ⟨m - 1, by omega⟩
    have v1 : ρ i < 7 := by
      have := hto i (by omega)
      unfold ra_lim at this
      rw [if_pos hp] at this
      exact this
    have v2 : ρ (i + 1) < 2 := by
      have := hto (i + 1) (by omega)
      unfold ra_lim at this
      rw [if_neg (by omega)] at this
      exact this
    have hk3 := h10 (γ0 3)
    have hal : f_X3_allows (ra_nf M) (ra_st γ0 κ τ) (nI (ρ i)) = some (nI (ra_al (ρ i) (γ0 2))) := ra_alR (ra_nf M) (ra_jn γ0 κ τ) (by omega) h5
    have hall := ra_al_le (ρ i) (γ0 2)
    have hcd := ra_cd_le (k := ρ i) g5
    have hsw := ra_sw_le (ρ i)
    have htk := ra_tk_le (k := κ (γ0 3)) (th := t) (sw := γ 4) (co := ra_cd (ρ i) (γ 5)) (he := γ0 7) (by omega) (by omega) (by omega)
    have ih := ih (i + 2) m (ra_wear γ (ρ i)) (by omega) (by omega) (by omega) (Nat.min_le_left _ _) hcd.1 g1 g2 g3 g7
    have hot : ra_ot γ κ (ρ i) t ↔ ¬ (γ0 1 + ra_al (ρ i) (γ0 2) < ra_tk (κ (γ0 3)) t (γ 4) (ra_cd (ρ i) (γ 5)) (γ0 7)) := by
      unfold ra_ot
      rw [g1, g2, g3, g7]
      omega
    have ih' : ((ra_so κ ρ t d (i + 2) (ra_wear γ (ρ i)) ∧ ∃ y, f_X3_isSo_L17 (ra_nf M) (ra_st γ0 κ τ) (ra_nf ρ) (nI t) m (nI (min 30 (γ 4 + ra_sw (ρ i)))) (nI (ra_cd (ρ i) (γ 5))) (nI (i + 2)) = some (Sum.inr y)) ∨ (¬ ra_so κ ρ t d (i + 2) (ra_wear γ (ρ i)) ∧ f_X3_isSo_L17 (ra_nf M) (ra_st γ0 κ τ) (ra_nf ρ) (nI t) m (nI (min 30 (γ 4 + ra_sw (ρ i)))) (nI (ra_cd (ρ i) (γ 5))) (nI (i + 2)) = some (Sum.inl (nI 0)))) := ih
    rw [f_X3_isSo_L17]
    simp (disch := omega) only [↓reduceIte, ra_lit, ra_nf_ap, ra_st_lo, nI_add, nI_clamp, nI_ltI, nI_leI, nI_eq, Option.bind_some, if_true, if_false, not_false_eq_true, not_true_eq_false, ra_ltT, ra_ltF, ra_leT, ra_leF, ra_eqT, ra_eqF, or_false, false_or, or_true, true_or, and_true, true_and, and_false, false_and, hM, ra_cdR, ra_st_k, ra_tkR, hal, ra_swR, ra_least, ra_mnn]
    show ((((ra_ot γ κ (ρ i) t ↔ ρ (i + 1) = 1) ∧ ra_so κ ρ t d (i + 2) (ra_wear γ (ρ i))) ∧ _) ∨ (¬ ((ra_ot γ κ (ρ i) t ↔ ρ (i + 1) = 1) ∧ ra_so κ ρ t d (i + 2) (ra_wear γ (ρ i))) ∧ _))
    rw [hot]
    by_cases c : γ0 1 + ra_al (ρ i) (γ0 2) < ra_tk (κ (γ0 3)) t (γ 4) (ra_cd (ρ i) (γ 5)) (γ0 7)
    · simp only [if_pos c]
      by_cases c1 : ρ (i + 1) = 1
      · simp only [if_pos c1]
        right
        exact ⟨fun z => (z.1.mpr c1) c, trivial⟩
      · simp only [if_neg c1]
        rcases ih' with ⟨a, y, b⟩ | ⟨a, b⟩
        · exact Or.inl ⟨⟨⟨fun z => absurd c z, fun z => absurd z c1⟩, a⟩, y, b⟩
        · exact Or.inr ⟨fun z => a z.2, b⟩
    · simp only [if_neg c]
      by_cases c1 : ρ (i + 1) = 1
      · simp only [if_pos c1]
        rcases ih' with ⟨a, y, b⟩ | ⟨a, b⟩
        · exact Or.inl ⟨⟨⟨fun _ => c1, fun _ => c⟩, a⟩, y, b⟩
        · exact Or.inr ⟨fun z => a z.2, b⟩
      · simp only [if_neg c1]
        right
        exact ⟨fun z => c1 (z.1.mp c), trivial⟩
theorem rr_isSo {γ κ τ : Nat → Nat} (M ρ : Nat → Nat) {R : Nat} (hM : M 2 = R) (hR : R ≤ 12) (hρ : ∀ j, ρ j ≤ 9) (hto : ra_told ρ R) (h : ra_ok γ κ τ) (ho : γ 3 < γ 0) {t : Nat} (ht : t ≤ 240) :
    (ra_so κ ρ t (R / 2) 0 γ ∧ f_X3_isSo (ra_nf M) (ra_st γ κ τ) (ra_nf ρ) (nI t) = some (nI 1)) ∨ (¬ ra_so κ ρ t (R / 2) 0 γ ∧ f_X3_isSo (ra_nf M) (ra_st γ κ τ) (ra_nf ρ) (nI t) = some (nI 0)) := by
  obtain ⟨h0, h1, h2, h3, h4, h5, h6, h7, h8, h9, h10, h11⟩ := id h
  have hpar := hto.1
  unfold f_X3_isSo
  rw [ra_st_lo _ _ _ (by decide), ra_st_lo _ _ _ (by decide), Option.bind_some, Option.bind_some]
  rcases rr_soL M ρ hM hR hρ hto.2 h ho ht (R / 2) 0 rf_fu γ (by omega) rfl (by unfold rf_fu; omega) h6 h7 rfl rfl rfl rfl with ⟨a, y, b⟩ | ⟨a, b⟩
  · have b : f_X3_isSo_L17 (ra_nf M) (ra_st γ κ τ) (ra_nf ρ) (nI t) rf_fu (nI (γ 4)) (nI (γ 5)) 0 = _ := b
    rw [b]
    exact Or.inl ⟨a, rfl⟩
  · have b : f_X3_isSo_L17 (ra_nf M) (ra_st γ κ τ) (ra_nf ρ) (nI t) rf_fu (nI (γ 4)) (nI (γ 5)) 0 = _ := b
    rw [b]
    exact Or.inr ⟨a, rfl⟩
def ra_F (lo hi t : Nat) : Int32 := if lo < min t hi then nI (min t hi - 1) else -nI 9
theorem rr_fe1 {γ κ τ : Nat → Nat} (M ρ : Nat → Nat) (rr : Nat → Int32) {R lo hi : Nat} (hM : M 2 = R) (hR : R ≤ 12) (hρ : ∀ j, ρ j ≤ 9) (hto : ra_told ρ R) (h : ra_ok γ κ τ) (ho : γ 3 < γ 0) (hhi : hi ≤ 241) (hs : ∀ t, t ≤ 240 → ((lo ≤ t ∧ t < hi) ↔ ra_so κ ρ t (R / 2) 0 γ)) : ∀ (d t m : Nat), t + d = 241 → d < m →
    ∃ y, f_X3_feel_L42 (ra_nf M) (ra_st γ κ τ) (ra_nf ρ) (nI 1) rr m (ra_F lo hi t) (nI t) = some (ra_F lo hi 241, y) := by
  intro d
  induction d with
  | zero =>
    intro t m ht hm
    obtain ⟨m, rfl⟩ : ∃ q, m = q + 1 := ⟨m - 1, by omega⟩
    obtain rfl : t = 241 := by omega
    exact ⟨nI 241, by rw [f_X3_feel_L42, if_pos (by decide)]⟩
  | succ d ih =>
    intro t m ht hm
    obtain ⟨m, rfl⟩ : ∃ q, m = q + 1 := ⟨m - 1, by omega⟩
    have ih := ih (t + 1) m (by omega) (by omega)
    have c240 : ¬ (240 : Int32) < nI t := nI_nlt (a := 240) (by omega) (by decide)
    have hst := hs t (by omega)
    rw [f_X3_feel_L42, if_neg c240, if_pos (show nI 1 = 1 from rfl)]
    rcases rr_isSo M ρ hM hR hρ hto h ho (t := t) (by omega) with ⟨a, b⟩ | ⟨a, b⟩
    · rw [b, Option.bind_some, if_neg (show ¬ nI 1 = 0 by decide), Option.bind_some, nI_1]
      have := hst.mpr a
      have e : ra_F lo hi (t + 1) = nI t := by
        unfold ra_F
        rw [if_pos (by omega), show min (t + 1) hi - 1 = t by omega]
      rw [e] at ih
      exact ih
    · rw [b, Option.bind_some, if_pos (show nI 0 = 0 from rfl), Option.bind_some, nI_1]
      have : ¬ (lo ≤ t ∧ t < hi) := fun z => a (hst.mp z)
      have e : ra_F lo hi (t + 1) = ra_F lo hi t := by
        unfold ra_F
        by_cases c : hi ≤ t
        · rw [show min (t + 1) hi = min t hi by omega]
        · rw [if_neg (by omega), if_neg (by omega)]
      rw [e] at ih
      exact ih
theorem rr_fe0 {γ κ τ : Nat → Nat} (M ρ : Nat → Nat) (rr : Nat → Int32) {R lo hi : Nat} (hM : M 2 = R) (hR : R ≤ 12) (hρ : ∀ j, ρ j ≤ 9) (hto : ra_told ρ R) (h : ra_ok γ κ τ) (ho : γ 3 < γ 0) (hhi : hi ≤ 241) (hs : ∀ t, t ≤ 240 → ((lo ≤ t ∧ t < hi) ↔ ra_so κ ρ t (R / 2) 0 γ)) : ∀ (d t m : Nat), t + d = 241 → d + 1 < m → (t ≤ lo ∨ hi ≤ lo) →
    ∃ y, f_X3_feel_L42 (ra_nf M) (ra_st γ κ τ) (ra_nf ρ) (nI 0) rr m (-nI 9) (nI t) = some (if lo < hi then nI lo else -nI 9, y) := by
  intro d
  induction d with
  | zero =>
    intro t m ht hm hl
    obtain ⟨m, rfl⟩ : ∃ q, m = q + 1 := ⟨m - 1, by omega⟩
    obtain rfl : t = 241 := by omega
    refine ⟨nI 241, ?_⟩
    rw [f_X3_feel_L42, if_pos (by decide), if_neg (by omega)]
  | succ d ih =>
    intro t m ht hm hl
    obtain ⟨m, rfl⟩ : ∃ q, m = q + 1 := ⟨m - 1, by omega⟩
    have c240 : ¬ (240 : Int32) < nI t := nI_nlt (a := 240) (by omega) (by decide)
    have hst := hs t (by omega)
    rw [f_X3_feel_L42, if_neg c240, if_neg (show ¬ nI 0 = 1 by decide), if_neg (show ¬ (0 : Int32) ≤ -nI 9 by decide)]
    rcases rr_isSo M ρ hM hR hρ hto h ho (t := t) (by omega) with ⟨a, b⟩ | ⟨a, b⟩
    · rw [b, Option.bind_some, if_neg (show ¬ nI 1 = 0 by decide), Option.bind_some, nI_1]
      have h5 := hst.mpr a
      obtain ⟨m, rfl⟩ : ∃ q, m = q + 1 := ⟨m - 1, by omega⟩
      have e : t = lo := by omega
      rw [f_X3_feel_L42, if_pos (show lo < hi by omega), ← e]
      by_cases c : (240 : Int32) < nI (t + 1)
      · rw [if_pos c]
        exact ⟨_, rfl⟩
      · rw [if_neg c, if_neg (show ¬ nI 0 = 1 by decide), if_pos (nI_pos' (by omega))]
        exact ⟨_, rfl⟩
    · rw [b, Option.bind_some, if_pos (show nI 0 = 0 from rfl), Option.bind_some, nI_1]
      have : ¬ (lo ≤ t ∧ t < hi) := fun z => a (hst.mp z)
      exact ih (t + 1) m (by omega) (by omega) (by omega)
theorem tm_feel {γ κ τ : Nat → Nat} (G M ρ φ : Nat → Nat) (ta tb tc : Nat → Int32) {R : Nat} (hG : G 1 = R) (hM : M 2 = R) (hR : R ≤ 12) (hρ : ∀ j, ρ j ≤ 9) (h : ra_ok γ κ τ) (p : Int32) :
    ∃ r a b c φ', f_X2_feel (ra_nf G) (ra_nf γ) (ra_nf κ) (ra_nf τ) ta tb tc (ra_nf ρ) (ra_nf φ) p = some (r, a, b, c, ra_nf φ') ∧ f_X3_feel (ra_nf M) (ra_st γ κ τ) (ra_nf ρ) (ra_nf φ) p = some (r, ra_nf φ') := by
  obtain ⟨h0, h1, h2, h3, h4, h5, h6, h7, h8, h9, h10, h11⟩ := id h
  unfold f_X2_feel f_X3_feel
  rcases ra_either p with ⟨hp, e1, e2⟩ | ⟨e1, e2⟩
  · rw [e1, e2, rc_isOff γ (by omega) (by omega), rr_isOff M γ κ τ (by omega) (by omega)]
    by_cases ho : γ 3 < γ 0
    · rcases rc_told G ρ hG hR hρ with ⟨ht, e3⟩ | ⟨ht, e3⟩
      · rcases rr_areTold M ρ hM hR hρ with ⟨ht', e4⟩ | ⟨ht', e4⟩
        · rw [e3, e4]
          have et : ra_nf τ = ra_nf (ra_un τ (γ 3) (τ (γ 3))) := by
            congr 1
            funext j
            unfold ra_un
            split
            · rename_i e
              rw [e]
            · rfl
          obtain ⟨lo, hi, y, g, x, b1, b2, b3, b4⟩ := rc_feL G ρ (ra_nf γ) (ra_nf κ) (ra_nf τ) (ra_nf φ) p hG hR hρ ht.2 (R / 2) 0 rf_fu 0 241 (τ (γ 3)) γ (by have := ht.1; omega) rfl (by unfold rf_fu; omega) h ho (h11 _) (by omega) (by omega)
          rw [← et] at b3
          have b3 : f_X2_feel_L58 (ra_nf G) (ra_nf γ) (ra_nf κ) (ra_nf τ) (ra_nf ρ) p (ra_nf κ) (ra_nf φ) rf_fu (nI 0) (nI 240) (nI 0) (ra_nf γ) (ra_nf τ) = some (nI lo, ra_te hi, y, g, x) := b3
          have hs : ∀ t, t ≤ 240 → ((lo ≤ t ∧ t < hi) ↔ ra_so κ ρ t (R / 2) 0 γ) := fun t ht => by
            rw [b4 t ht]
            exact ⟨fun z => z.2, fun z => ⟨⟨Nat.zero_le _, by omega⟩, z⟩⟩
          simp (disch := omega) only [↓reduceIte, ra_lit, ra_nf_ap, ra_st_lo, nI_add, nI_clamp, nI_ltI, nI_leI, nI_eq, Option.bind_some, if_true, if_false, not_false_eq_true, not_true_eq_false, ra_ltT, ra_ltF, ra_leT, ra_leF, ra_eqT, ra_eqF, or_false, false_or, or_true, true_or, and_true, true_and, and_false, false_and, rc_copy, if_pos ho, b3, ra_le_te]
          rcases hp with rfl | rfl
          · obtain ⟨y', e5⟩ := rr_fe0 M ρ (ra_nf φ) hM hR hρ ht h ho b2 hs 241 0 rf_fu rfl (by unfold rf_fu; omega) (Or.inl (Nat.zero_le _))
            rw [e5]
            by_cases c : lo < hi
            · rw [if_pos (show lo + 1 ≤ hi from c), if_pos c]
              exact ⟨_, _, _, _, _, rfl, rfl⟩
            · rw [if_neg (show ¬ lo + 1 ≤ hi from c), if_neg c]
              exact ⟨_, _, _, _, _, rfl, rfl⟩
          · obtain ⟨y', e5⟩ := rr_fe1 M ρ (ra_nf φ) hM hR hρ ht h ho b2 hs 241 0 rf_fu rfl (by unfold rf_fu; omega)
            have eF : ra_F lo hi 0 = -nI 9 := by
              unfold ra_F
              rw [if_neg (by omega)]
            rw [eF] at e5
            rw [e5]
            by_cases c : lo < hi
            · rw [if_pos (show lo + 1 ≤ hi from c)]
              have e6 : ra_F lo hi 241 = ra_te hi := by
                unfold ra_F
                rw [if_pos (by omega), show min 241 hi - 1 = hi - 1 by omega]
                obtain ⟨w, rfl⟩ : ∃ w, hi = w + 1 := ⟨hi - 1, by omega⟩
                rw [ra_te_s]
                rfl
              rw [e6]
              exact ⟨_, _, _, _, _, rfl, rfl⟩
            · rw [if_neg (show ¬ lo + 1 ≤ hi from c)]
              have e6 : ra_F lo hi 241 = -nI 9 := by
                unfold ra_F
                rw [if_neg (by omega)]
              rw [e6]
              exact ⟨_, _, _, _, _, rfl, rfl⟩
        · exact absurd ht ht'
      · rcases rr_areTold M ρ hM hR hρ with ⟨ht', e4⟩ | ⟨ht', e4⟩
        · exact absurd ht' ht
        · rw [e3, e4]
          refine ⟨-nI 3, ta, tb, tc, ra_rf φ 3, ?_, ?_⟩
          · simp (disch := omega) only [↓reduceIte, ra_lit, ra_nf_ap, ra_st_lo, nI_add, nI_clamp, nI_ltI, nI_leI, nI_eq, Option.bind_some, if_true, if_false, not_false_eq_true, not_true_eq_false, ra_ltT, ra_ltF, ra_leT, ra_leF, ra_eqT, ra_eqF, or_false, false_or, or_true, true_or, and_true, true_and, and_false, false_and, if_pos ho, rc_refuse]
          · simp (disch := omega) only [↓reduceIte, ra_lit, ra_nf_ap, ra_st_lo, nI_add, nI_clamp, nI_ltI, nI_leI, nI_eq, Option.bind_some, if_true, if_false, not_false_eq_true, not_true_eq_false, ra_ltT, ra_ltF, ra_leT, ra_leF, ra_eqT, ra_eqF, or_false, false_or, or_true, true_or, and_true, true_and, and_false, false_and, if_pos ho, rr_no]
    · refine ⟨-nI 3, ta, tb, tc, ra_rf φ 3, ?_, ?_⟩
      · simp (disch := omega) only [↓reduceIte, ra_lit, ra_nf_ap, ra_st_lo, nI_add, nI_clamp, nI_ltI, nI_leI, nI_eq, Option.bind_some, if_true, if_false, not_false_eq_true, not_true_eq_false, ra_ltT, ra_ltF, ra_leT, ra_leF, ra_eqT, ra_eqF, or_false, false_or, or_true, true_or, and_true, true_and, and_false, false_and, if_neg ho, rc_refuse]
      · simp (disch := omega) only [↓reduceIte, ra_lit, ra_nf_ap, ra_st_lo, nI_add, nI_clamp, nI_ltI, nI_leI, nI_eq, Option.bind_some, if_true, if_false, not_false_eq_true, not_true_eq_false, ra_ltT, ra_ltF, ra_leT, ra_leF, ra_eqT, ra_eqF, or_false, false_or, or_true, true_or, and_true, true_and, and_false, false_and, if_neg ho, rr_no]
  · rw [e1, e2]
    refine ⟨-nI 2, ta, tb, tc, ra_rf φ 2, ?_, ?_⟩
    · simp (disch := omega) only [↓reduceIte, ra_lit, ra_nf_ap, ra_st_lo, nI_add, nI_clamp, nI_ltI, nI_leI, nI_eq, Option.bind_some, if_true, if_false, not_false_eq_true, not_true_eq_false, ra_ltT, ra_ltF, ra_leT, ra_leF, ra_eqT, ra_eqF, or_false, false_or, or_true, true_or, and_true, true_and, and_false, false_and, rc_refuse]
    · simp (disch := omega) only [↓reduceIte, ra_lit, ra_nf_ap, ra_st_lo, nI_add, nI_clamp, nI_ltI, nI_leI, nI_eq, Option.bind_some, if_true, if_false, not_false_eq_true, not_true_eq_false, ra_ltT, ra_ltF, ra_leT, ra_leF, ra_eqT, ra_eqF, or_false, false_or, or_true, true_or, and_true, true_and, and_false, false_and, rr_no]
end RAFeel
end
section
/-! a hand told in letters: its form -/
section RARead
def ra_cd0 (L : Nat) (lt : Nat → Nat) (p : Nat) : Nat := if p < L then lt p else 0
def ra_la (L : Nat) (lt : Nat → Nat) (p : Nat) : Int32 := if p < L then nI (lt p) else -nI 1
def ra_kd (c : Nat) : Nat := if c = 106 then 4 else if c = 107 then 1 else if c = 112 then 0 else if c = 114 then 3 else if c = 115 then 2 else if c = 116 then 5 else 6
def ra_sl (c : Nat) : Nat := if c = 99 then 4 else if c = 104 then 3 else if c = 112 then 6 else if c = 114 then 6 else if c = 115 then 4 else if c = 116 then 3 else if c = 119 then 4 else 0
theorem ra_sl_le (c : Nat) : ra_sl c = 0 ∨ (3 ≤ ra_sl c ∧ ra_sl c ≤ 6) := by
  unfold ra_sl
  repeat' split
  all_goals omega
def ra_dgt (L : Nat) (lt : Nat → Nat) (p i : Nat) : Bool := decide (48 ≤ ra_cd0 L lt (p + i) ∧ ra_cd0 L lt (p + i) ≤ 57)
def ra_ft (L : Nat) (lt : Nat → Nat) (st i : Nat) : Bool :=
  if i + 1 = ra_sl (ra_cd0 L lt st) then decide (ra_cd0 L lt (st + i) = 59) else if ra_cd0 L lt st = 112 ∧ i = 1 then decide (ra_kd (ra_cd0 L lt (st + i)) < 6) else ra_dgt L lt st i
def ra_ff (f : Nat → Bool) : Nat → Nat → Nat
  | 0, i => i
  | d + 1, i => if f i then ra_ff f d (i + 1) else i
theorem ra_ff_le (f : Nat → Bool) : ∀ d i, i ≤ ra_ff f d i ∧ ra_ff f d i ≤ i + d := by
  intro d
  induction d with
  | zero => intro i; exact ⟨Nat.le_refl _, Nat.le_refl _⟩
  | succ d ih =>
    intro i
    unfold ra_ff
    have := ih (i + 1)
    split <;> omega
theorem ra_ff_app (f : Nat → Bool) (b : Nat) : ∀ a i, ra_ff f (a + b) i = if ra_ff f a i < i + a then ra_ff f a i else ra_ff f b (i + a) := by
  intro a
  induction a with
  | zero =>
    intro i
    rw [Nat.zero_add]
    show _ = if i < i + 0 then _ else _
    rw [if_neg (by omega)]
    rfl
  | succ a ih =>
    intro i
    rw [show a + 1 + b = (a + b) + 1 by omega]
    rw [show ra_ff f (a + b + 1) i = (if f i then ra_ff f (a + b) (i + 1) else i) from rfl, show ra_ff f (a + 1) i = (if f i then ra_ff f a (i + 1) else i) from rfl]
    by_cases c : f i = true
    · simp only [if_pos c]
      have h := ih (i + 1)
      rw [show i + 1 + a = i + (a + 1) by omega] at h
      exact h
    · simp only [if_neg c]
      rw [if_pos (by omega)]
theorem ra_ff_sh {f g : Nat → Bool} : ∀ d i k, (∀ j, j < d → f (i + j) = g (k + j)) → ra_ff f d i + k = ra_ff g d k + i := by
  intro d
  induction d with
  | zero => intro i k _; exact Nat.add_comm _ _
  | succ d ih =>
    intro i k h
    have h0 := h 0 (by omega)
    rw [Nat.add_zero, Nat.add_zero] at h0
    have := ih (i + 1) (k + 1) (fun j hj => by
      have := h (j + 1) (by omega)
      rw [show i + 1 + j = i + (j + 1) by omega, show k + 1 + j = k + (j + 1) by omega]
      exact this)
    unfold ra_ff
    rw [h0]
    split
    · omega
    · omega
theorem ra_ff_all {f : Nat → Bool} : ∀ d i, ra_ff f d i = i + d → ∀ j, i ≤ j → j < i + d → f j = true := by
  intro d
  induction d with
  | zero => intro i _ j h1 h2; omega
  | succ d ih =>
    intro i h j h1 h2
    unfold ra_ff at h
    split at h
    · rename_i c
      by_cases e : j = i
      · subst e; exact c
      · exact ih (i + 1) (by omega) j (by omega) (by omega)
    · omega
section
variable {L : Nat} {lt : Nat → Nat}
theorem ra_laC (hlt : ∀ j, lt j ≤ 255) (p : Nat) : (ra_la L lt p = nI (ra_cd0 L lt p) ∧ ra_cd0 L lt p ≤ 255) ∨ (ra_la L lt p = -nI 1 ∧ ra_cd0 L lt p = 0) := by
  unfold ra_la ra_cd0
  by_cases c : p < L
  · left
    rw [if_pos c, if_pos c]
    exact ⟨rfl, hlt p⟩
  · right
    rw [if_neg c, if_neg c]
    exact ⟨rfl, rfl⟩
theorem ra_la_eq (hlt : ∀ j, lt j ≤ 255) {p v : Nat} (h0 : 0 < v) (hv : v < 256) : (ra_la L lt p = nI v) = (ra_cd0 L lt p = v) := by
  apply propext
  rcases ra_laC (L := L) hlt p with ⟨e, h⟩ | ⟨e, h⟩
  · rw [e, nI_eq (by omega) (by omega)]
  · rw [e, h]
    constructor
    · intro z
      have z := congrArg Int32.toInt z
      rw [nI_toInt (by omega), show (-nI 1).toInt = -1 by decide] at z
      omega
    · intro z
      omega
theorem ra_la_lt (hlt : ∀ j, lt j ≤ 255) {p v : Nat} (h0 : 0 < v) (hv : v < 256) : (ra_la L lt p < nI v) = (ra_cd0 L lt p < v) := by
  apply propext
  rcases ra_laC (L := L) hlt p with ⟨e, h⟩ | ⟨e, h⟩
  · rw [e, nI_ltI (by omega) (by omega)]
  · rw [e, h, Int32.lt_iff_toInt_lt, nI_toInt (by omega), show (-nI 1).toInt = -1 by decide]
    omega
theorem ra_lt_la (hlt : ∀ j, lt j ≤ 255) {p v : Nat} (h0 : 0 < v) (hv : v < 256) : (nI v < ra_la L lt p) = (v < ra_cd0 L lt p) := by
  apply propext
  rcases ra_laC (L := L) hlt p with ⟨e, h⟩ | ⟨e, h⟩
  · rw [e, nI_ltI (by omega) (by omega)]
  · rw [e, h, Int32.lt_iff_toInt_lt, nI_toInt (by omega), show (-nI 1).toInt = -1 by decide]
    omega
theorem rc_letterAt (G : Nat → Nat) (hG : G 0 = L) (hL : L ≤ 96) {p : Nat} (hp : p < 1000) : f_X2_letterAt (ra_nf G) (ra_nf lt) (nI p) = some (ra_la L lt p) := by
  unfold f_X2_letterAt ra_la
  by_cases c : p < L
  · simp (disch := omega) only [↓reduceIte, ra_lit, ra_nf_ap, ra_st_lo, nI_add, nI_clamp, nI_ltI, nI_leI, nI_eq, Option.bind_some, if_true, if_false, not_false_eq_true, not_true_eq_false, ra_ltT, ra_ltF, ra_leT, ra_leF, ra_eqT, ra_eqF, or_false, false_or, or_true, true_or, and_true, true_and, and_false, false_and, hG, ra_at]
  · simp (disch := omega) only [↓reduceIte, ra_lit, ra_nf_ap, ra_st_lo, nI_add, nI_clamp, nI_ltI, nI_leI, nI_eq, Option.bind_some, if_true, if_false, not_false_eq_true, not_true_eq_false, ra_ltT, ra_ltF, ra_leT, ra_leF, ra_eqT, ra_eqF, or_false, false_or, or_true, true_or, and_true, true_and, and_false, false_and, hG]
theorem rr_here (M : Nat → Nat) (hM : M 1 = L) (hL : L ≤ 96) {p : Nat} (h3 : M 3 = p) (hp : p < 1000) : f_X3_here (ra_nf M) (ra_nf lt) = some (ra_la L lt p) := by
  unfold f_X3_here ra_la
  by_cases c : p < L
  · simp (disch := omega) only [↓reduceIte, ra_lit, ra_nf_ap, ra_st_lo, nI_add, nI_clamp, nI_ltI, nI_leI, nI_eq, Option.bind_some, if_true, if_false, not_false_eq_true, not_true_eq_false, ra_ltT, ra_ltF, ra_leT, ra_leF, ra_eqT, ra_eqF, or_false, false_or, or_true, true_or, and_true, true_and, and_false, false_and, hM, h3]
  · simp (disch := omega) only [↓reduceIte, ra_lit, ra_nf_ap, ra_st_lo, nI_add, nI_clamp, nI_ltI, nI_leI, nI_eq, Option.bind_some, if_true, if_false, not_false_eq_true, not_true_eq_false, ra_ltT, ra_ltF, ra_leT, ra_leF, ra_eqT, ra_eqF, or_false, false_or, or_true, true_or, and_true, true_and, and_false, false_and, hM, h3]
theorem rc_kindOf (hlt : ∀ j, lt j ≤ 255) (p : Nat) : f_X2_kindOf (ra_la L lt p) = some (if ra_kd (ra_cd0 L lt p) < 6 then nI (ra_kd (ra_cd0 L lt p)) else -nI 1) := by
  unfold f_X2_kindOf ra_kd
  simp (disch := omega) only [ra_lit, ra_la_eq hlt]
  repeat' split
  all_goals first | rfl | omega
theorem rr_kindOf (hlt : ∀ j, lt j ≤ 255) (p : Nat) : f_X3_kindOf (ra_la L lt p) = some (if ra_kd (ra_cd0 L lt p) < 6 then nI (ra_kd (ra_cd0 L lt p)) else -nI 9) := by
  unfold f_X3_kindOf ra_kd
  simp (disch := omega) only [ra_lit, ra_la_eq hlt]
  repeat' split
  all_goals first | rfl | omega
theorem rc_sl (hlt : ∀ j, lt j ≤ 255) (p : Nat) : f_X2_statementLength (ra_la L lt p) = some (nI (ra_sl (ra_cd0 L lt p))) := by
  unfold f_X2_statementLength ra_sl
  simp (disch := omega) only [ra_lit, ra_la_eq hlt]
  repeat' split
  all_goals first | rfl | omega
theorem rc_fits (hlt : ∀ j, lt j ≤ 255) {st i : Nat} (hi : 1 ≤ i) (hi2 : i < ra_sl (ra_cd0 L lt st)) : f_X2_fits (ra_la L lt st) (nI i) (nI (ra_sl (ra_cd0 L lt st))) (ra_la L lt (st + i)) = some (nI (if ra_ft L lt st i then 1 else 0)) := by
  have hs := ra_sl_le (ra_cd0 L lt st)
  unfold f_X2_fits ra_ft ra_dgt
  rw [rc_kindOf hlt]
  generalize ra_sl (ra_cd0 L lt st) = len at hi2 hs
  simp (disch := omega) only [ra_lit, ra_la_eq hlt, ra_la_lt hlt, ra_lt_la hlt, pk_sub, nI_eq, Option.bind_some]
  have e1 : (i = len - 1) = (i + 1 = len) := propext (by omega)
  simp only [e1]
  by_cases c1 : i + 1 = len
  · simp only [if_pos c1]
    by_cases c2 : ra_cd0 L lt (st + i) = 59
    · simp only [c2, decide_true, if_true]
    · simp only [c2, decide_false, if_false]
      rfl
  · simp only [if_neg c1]
    have hdg : (if ra_cd0 L lt (st + i) < 48 then some (nI 0) else if 57 < ra_cd0 L lt (st + i) then some (nI 0) else some (nI 1)) = some (nI (if decide (48 ≤ ra_cd0 L lt (st + i) ∧ ra_cd0 L lt (st + i) ≤ 57) = true then 1 else 0)) := by
      by_cases d : 48 ≤ ra_cd0 L lt (st + i) ∧ ra_cd0 L lt (st + i) ≤ 57
      · rw [if_neg (by omega), if_neg (by omega), decide_eq_true d]
        rfl
      · rw [decide_eq_false d]
        by_cases d1 : ra_cd0 L lt (st + i) < 48
        · rw [if_pos d1]
          rfl
        · rw [if_neg d1, if_pos (by omega)]
          rfl
    by_cases c2 : ra_cd0 L lt st = 112
    · simp only [if_pos c2]
      by_cases c3 : i = 1
      · simp only [if_pos c3, if_pos (show ra_cd0 L lt st = 112 ∧ i = 1 from ⟨c2, c3⟩)]
        by_cases c4 : ra_kd (ra_cd0 L lt (st + i)) < 6
        · simp only [if_pos c4, decide_eq_true c4, if_true]
          rw [if_neg (nI_nlt (by omega) (by omega))]
        · simp only [if_neg c4, decide_eq_false c4]
          rw [if_pos (by decide)]
          rfl
      · simp only [if_neg c3, if_neg (show ¬ (ra_cd0 L lt st = 112 ∧ i = 1) from fun z => c3 z.2)]
        exact hdg
    · simp only [if_neg c2, if_neg (show ¬ (ra_cd0 L lt st = 112 ∧ i = 1) from fun z => c2 z.1)]
      exact hdg
theorem rc_L49 (G : Nat → Nat) (hG : G 0 = L) (hL : L ≤ 96) (hlt : ∀ j, lt j ≤ 255) (x2 : Int32) {st : Nat} (hst : st < 900) : ∀ (d i m : Nat), i + d = ra_sl (ra_cd0 L lt st) → 1 ≤ i → d < m →
    f_X2_formFault_L49 (ra_nf G) (ra_nf lt) (nI st) x2 (ra_la L lt st) (nI (ra_sl (ra_cd0 L lt st))) m (nI i) = some (if ra_ff (ra_ft L lt st) d i < ra_sl (ra_cd0 L lt st) then Sum.inl (nI (st + ra_ff (ra_ft L lt st) d i)) else Sum.inr (nI (ra_sl (ra_cd0 L lt st)))) := by
  have hs := ra_sl_le (ra_cd0 L lt st)
  intro d
  induction d with
  | zero =>
    intro i m hi h1 hm
    obtain ⟨m, rfl⟩ : ∃ q, m = q + 1 := ⟨m - 1, by omega⟩
    have hi : i = ra_sl (ra_cd0 L lt st) := by omega
    rw [f_X2_formFault_L49, ← hi]
    rw [if_pos (nI_le (Nat.le_refl _) (by omega))]
    show _ = some (if i < i then _ else _)
    rw [if_neg (by omega)]
  | succ d ih =>
    intro i m hi h1 hm
    obtain ⟨m, rfl⟩ : ∃ q, m = q + 1 := ⟨m - 1, by omega⟩
    have hle := ra_ff_le (ra_ft L lt st) d (i + 1)
    rw [f_X2_formFault_L49, if_neg (nI_ge (by omega) (by omega)), nI_add, rc_letterAt G hG hL (by omega), Option.bind_some, rc_fits hlt h1 (by omega), Option.bind_some, nI_1, Option.bind_some, ih (i + 1) m (by omega) (by omega) (by omega), show ra_ff (ra_ft L lt st) (d + 1) i = (if ra_ft L lt st i then ra_ff (ra_ft L lt st) d (i + 1) else i) from rfl]
    by_cases c : ra_ft L lt st i = true
    · simp only [if_pos c]
      rw [if_neg (show ¬ nI 1 = 0 by decide)]
    · simp only [if_neg c]
      rw [if_pos (show nI 0 = 0 from rfl), if_pos (by omega)]
def ra_nu (L : Nat) (lt : Nat → Nat) (p : Nat) : Nat → Nat
  | 0 => 0
  | d + 1 => 10 * ra_nu L lt p d + ra_cd0 L lt (p + d) - 48
theorem ra_unun' (f : Nat → Nat) (a b : Nat) : ra_un (ra_un f 3 a) 3 b = ra_un f 3 b := ra_unun f 3 a b
theorem rr_rnL (hL : L ≤ 96) (hlt : ∀ j, lt j ≤ 255) {k dg p : Nat} (hk : k < 2) (hdg : dg ≤ 3) (hp : p < 500) : ∀ (d n m : Nat) (M : Nat → Nat) (nums : Nat → Int32), n + d = dg → d < m → M 1 = L → M 3 = p + n → nums k = nI (ra_nu L lt p n) →
    ∃ nums' : Nat → Int32, (∀ j, j ≠ k → nums' j = nums j) ∧ ((ra_ff (ra_dgt L lt p) d n < dg ∧ f_X3_readsNumber_L9 (ra_nf lt) (nI k) (nI dg) m (nI n) (ra_nf M) nums = some (Sum.inl (nI 0, ra_nf (ra_un M 3 (p + ra_ff (ra_dgt L lt p) d n)), nums'))) ∨
      (ra_ff (ra_dgt L lt p) d n = dg ∧ nums' k = nI (ra_nu L lt p dg) ∧ f_X3_readsNumber_L9 (ra_nf lt) (nI k) (nI dg) m (nI n) (ra_nf M) nums = some (Sum.inr (nI dg, ra_nf (ra_un M 3 (p + dg)), nums')))) := by
  have hself : ∀ (M : Nat → Nat) (v : Nat), M 3 = v → ra_un M 3 v = M := fun M v h => by
    funext j
    unfold ra_un
    split
    · rename_i e
      rw [e, h]
    · rfl
  intro d
  induction d with
  | zero =>
    intro n m M nums hn hm hM h3 hk0
    obtain ⟨m, rfl⟩ : ∃ q, m = q + 1 := ⟨m - 1, by omega⟩
    obtain rfl : n = dg := by omega
    refine ⟨nums, fun j _ => rfl, Or.inr ⟨rfl, hk0, ?_⟩⟩
    rw [f_X3_readsNumber_L9, if_pos (nI_le (Nat.le_refl _) (by omega)), hself M _ h3]
  | succ d ih =>
    intro n m M nums hn hm hM h3 hk0
    obtain ⟨m, rfl⟩ : ∃ q, m = q + 1 := ⟨m - 1, by omega⟩
    rw [f_X3_readsNumber_L9, if_neg (nI_ge (by omega) (by omega)), rr_here M hM hL h3 (by omega)]
    unfold f_X3_isIn ra_ff ra_dgt
    simp (disch := omega) only [Option.bind_some, ra_lit, ra_la_lt hlt, ra_lt_la hlt]
    by_cases c : 48 ≤ ra_cd0 L lt (p + n) ∧ ra_cd0 L lt (p + n) ≤ 57
    · rw [if_neg (show ¬ ra_cd0 L lt (p + n) < 48 by omega), if_neg (show ¬ 57 < ra_cd0 L lt (p + n) by omega), Option.bind_some, if_neg (show ¬ nI 1 = nI 0 by decide), decide_eq_true c]
      have hla : ra_la L lt (p + n) = nI (ra_cd0 L lt (p + n)) := by
        rcases ra_laC (L := L) hlt (p + n) with ⟨e, h⟩ | ⟨e, h⟩
        · exact e
        · omega
      obtain ⟨nums', a1, a2⟩ := ih (n + 1) m (ra_un M 3 (p + n + 1)) (upd nums k (nI (ra_nu L lt p (n + 1)))) (by omega) (by omega) hM rfl pk_us
      refine ⟨nums', fun j hj => by rw [a1 j hj, pk_un hj], ?_⟩
      rw [ra_unun'] at a2
      rw [ra_unun'] at a2
      have hv : nI 10 * nums k + ra_la L lt (p + n) - nI 48 = nI (ra_nu L lt p (n + 1)) := by
        rw [hk0, hla, pk_mul, nI_add, pk_sub (by omega)]
        rfl
      have hin : ¬ (nI k < nI 0 ∨ 2 ≤ (nI k).toNatClampNeg) := nI_in hk (by decide)
      rw [if_pos hin, if_pos hin, nI_clamp (by omega), hv, ra_nf_ap, h3, nI_add, nI_add, ra_upd, if_pos rfl]
      exact a2
    · rw [decide_eq_false c, if_neg (show ¬ (false = true) by decide)]
      refine ⟨nums, fun j _ => rfl, Or.inl ⟨by omega, ?_⟩⟩
      rw [hself M _ h3]
      by_cases c1 : ra_cd0 L lt (p + n) < 48
      · rw [if_pos c1, Option.bind_some, if_pos rfl]
      · rw [if_neg c1, if_pos (show 57 < ra_cd0 L lt (p + n) by omega), Option.bind_some, if_pos rfl]
theorem rr_rn (hL : L ≤ 96) (hlt : ∀ j, lt j ≤ 255) {k dg p : Nat} (hk : k < 2) (hdg : dg ≤ 3) (hp : p < 500) (M : Nat → Nat) (nums : Nat → Int32) (hM : M 1 = L) (h3 : M 3 = p) :
    ∃ nums' : Nat → Int32, (∀ j, j ≠ k → nums' j = nums j) ∧ ((ra_ff (ra_dgt L lt p) dg 0 < dg ∧ f_X3_readsNumber (ra_nf M) (ra_nf lt) nums (nI k) (nI dg) = some (nI 0, ra_nf (ra_un M 3 (p + ra_ff (ra_dgt L lt p) dg 0)), nums')) ∨
      (ra_ff (ra_dgt L lt p) dg 0 = dg ∧ nums' k = nI (ra_nu L lt p dg) ∧ f_X3_readsNumber (ra_nf M) (ra_nf lt) nums (nI k) (nI dg) = some (nI 1, ra_nf (ra_un M 3 (p + dg)), nums'))) := by
  obtain ⟨nums', a1, a2⟩ := rr_rnL hL hlt hk hdg hp dg 0 rf_fu M (upd nums k 0) (by omega) (by unfold rf_fu; omega) hM h3 pk_us
  refine ⟨nums', fun j hj => by rw [a1 j hj, pk_un hj], ?_⟩
  have hin : ¬ (nI k < 0 ∨ 2 ≤ (nI k).toNatClampNeg) := nI_in hk (by decide)
  unfold f_X3_readsNumber
  rw [if_pos hin, nI_clamp (by omega)]
  rcases a2 with ⟨b1, b2⟩ | ⟨b1, b2, b3⟩
  · have b2 : f_X3_readsNumber_L9 (ra_nf lt) (nI k) (nI dg) rf_fu 0 (ra_nf M) (upd nums k 0) = _ := b2
    rw [b2]
    exact Or.inl ⟨b1, rfl⟩
  · have b3 : f_X3_readsNumber_L9 (ra_nf lt) (nI k) (nI dg) rf_fu 0 (ra_nf M) (upd nums k 0) = _ := b3
    rw [b3]
    exact Or.inr ⟨b1, b2, rfl⟩
/-- the numbers that a statement tells -/
def ra_ns (L : Nat) (lt : Nat → Nat) (st : Nat) (nums : Nat → Int32) : Prop :=
  if ra_cd0 L lt st = 112 then nums 1 = nI (ra_kd (ra_cd0 L lt (st + 1))) ∧ nums 0 = nI (ra_nu L lt (st + 2) 3)
  else if ra_cd0 L lt st = 114 then nums 0 = nI (ra_nu L lt (st + 1) 3) ∧ nums 1 = nI (ra_nu L lt (st + 4) 1)
  else nums 0 = nI (ra_nu L lt (st + 1) (ra_sl (ra_cd0 L lt st) - 2))
def ra_R (L : Nat) (lt : Nat → Nat) (st : Nat) : Nat := ra_ff (ra_ft L lt st) (ra_sl (ra_cd0 L lt st) - 1) 1
theorem ra_R1 {st dg : Nat} (hs : ra_sl (ra_cd0 L lt st) = dg + 2) (hc : ra_cd0 L lt st ≠ 112) :
    ra_R L lt st = if ra_ff (ra_dgt L lt (st + 1)) dg 0 < dg then 1 + ra_ff (ra_dgt L lt (st + 1)) dg 0 else if ra_cd0 L lt (st + 1 + dg) = 59 then dg + 2 else dg + 1 := by
  have h1 : ra_ff (ra_ft L lt st) dg 1 + 0 = ra_ff (ra_dgt L lt (st + 1)) dg 0 + 1 := ra_ff_sh dg 1 0 (fun j hj => by
    unfold ra_ft
    rw [if_neg (by omega), if_neg (fun z => hc z.1)]
    unfold ra_dgt
    rw [show st + (1 + j) = st + 1 + (0 + j) by omega])
  unfold ra_R
  rw [hs, show dg + 2 - 1 = dg + 1 by omega, ra_ff_app, show ra_ff (ra_ft L lt st) dg 1 = ra_ff (ra_dgt L lt (st + 1)) dg 0 + 1 by omega]
  by_cases c : ra_ff (ra_dgt L lt (st + 1)) dg 0 < dg
  · rw [if_pos (by omega), if_pos c, Nat.add_comm]
  · rw [if_neg (by omega), if_neg c]
    unfold ra_ff ra_ft
    rw [if_pos (show 1 + dg + 1 = ra_sl (ra_cd0 L lt st) by omega), show st + (1 + dg) = st + 1 + dg by omega]
    by_cases c2 : ra_cd0 L lt (st + 1 + dg) = 59
    · rw [decide_eq_true c2, if_pos rfl, if_pos c2]
      unfold ra_ff
      omega
    · rw [decide_eq_false c2, if_neg (by decide), if_neg c2]
      omega
/-- what reading a statement answers -/
def ra_rd (L : Nat) (lt : Nat → Nat) (st : Nat) (M : Nat → Nat) (E : Option (Int32 × (Nat → Int32) × (Nat → Int32))) : Prop :=
  (ra_R L lt st < ra_sl (ra_cd0 L lt st) ∧ ∃ nums', E = some (nI 0, ra_nf (ra_un M 3 (st + ra_R L lt st)), nums')) ∨
  (ra_R L lt st = ra_sl (ra_cd0 L lt st) ∧ ∃ nums', E = some (nI 1, ra_nf (ra_un M 3 (st + ra_sl (ra_cd0 L lt st))), nums') ∧ ra_ns L lt st nums')
theorem rr_num (hL : L ≤ 96) (hlt : ∀ j, lt j ≤ 255) {st dg : Nat} (hst : st < 400) (hdg : dg ≤ 3) (M : Nat → Nat) (nums : Nat → Int32) (hM : M 1 = L) (h3 : M 3 = st) (hs : ra_sl (ra_cd0 L lt st) = dg + 2) (hc : ra_cd0 L lt st ≠ 112) (hc4 : ra_cd0 L lt st ≠ 114) :
    ra_rd L lt st M ((f_X3_readsNumber (ra_nf (ra_un M 3 (st + 1))) (ra_nf lt) nums (nI 0) (nI dg)).bind fun (q4 : Int32 × (Nat → Int32) × (Nat → Int32)) => if q4.1 = nI 0 then (some (nI 0, q4.2.1, q4.2.2)) else ((f_X3_here q4.2.1 (ra_nf lt)).bind fun (q6 : Int32) => if q6 = nI 59 then ((some ((q4.2.1 3) + nI 1)).bind fun (v8 : Int32) => some (nI 1, (upd q4.2.1 3 v8), q4.2.2)) else (some (nI 0, q4.2.1, q4.2.2)))) := by
  have hR := ra_R1 hs hc
  obtain ⟨nums', a1, a2⟩ := rr_rn hL hlt (k := 0) (dg := dg) (p := st + 1) (by decide) hdg (by omega) (ra_un M 3 (st + 1)) nums hM rfl
  rw [ra_unun', ra_unun'] at a2
  unfold ra_rd
  rw [hs]
  rcases a2 with ⟨b1, b2⟩ | ⟨b1, b2, b3⟩
  · left
    rw [if_pos b1] at hR
    refine ⟨by omega, nums', ?_⟩
    rw [b2, hR]
    simp only [Option.bind_some, if_true]
    rw [show st + 1 + ra_ff (ra_dgt L lt (st + 1)) dg 0 = st + (1 + ra_ff (ra_dgt L lt (st + 1)) dg 0) by omega]
  · rw [if_neg (by omega)] at hR
    rw [b3]
    simp only [Option.bind_some]
    rw [if_neg (show ¬ nI 1 = nI 0 by decide), rr_here (ra_un M 3 (st + 1 + dg)) hM hL (p := st + 1 + dg) rfl (by omega)]
    simp (disch := omega) only [Option.bind_some, ra_la_eq hlt]
    by_cases c : ra_cd0 L lt (st + 1 + dg) = 59
    · right
      rw [if_pos c] at hR
      refine ⟨hR, nums', ?_, ?_⟩
      · rw [if_pos c, ra_nf_ap, ra_us, nI_add, ra_upd, ra_unun', show st + 1 + dg + 1 = st + (dg + 2) by omega]
      · unfold ra_ns
        rw [if_neg hc, if_neg hc4, hs]
        exact b2
    · left
      rw [if_neg c] at hR
      refine ⟨by omega, nums', ?_⟩
      rw [if_neg c, hR, show st + 1 + dg = st + (dg + 1) by omega]
end
end RARead
end
section
/-! a hand told in letters: its statements, all of it -/
section RAHand
section
variable {L : Nat} {lt : Nat → Nat}
theorem ra_laI (hlt : ∀ j, lt j ≤ 255) {p v : Nat} (h0 : 0 < v) (hv : v < 256) : ra_la L lt p = nI v ↔ ra_cd0 L lt p = v := by
  rw [ra_la_eq hlt h0 hv]
theorem rr_stmt (hL : L ≤ 96) (hlt : ∀ j, lt j ≤ 255) {st : Nat} (hst : st < 400) (M : Nat → Nat) (nums : Nat → Int32) (hM : M 1 = L) (h3 : M 3 = st) :
    (ra_sl (ra_cd0 L lt st) = 0 ∧ ∃ nums', f_X3_readsStatement (ra_nf M) (ra_nf lt) nums = some (nI 0, ra_nf (ra_un M 3 st), nums')) ∨ (0 < ra_sl (ra_cd0 L lt st) ∧ ra_rd L lt st M (f_X3_readsStatement (ra_nf M) (ra_nf lt) nums)) := by
  have hh := rr_here (lt := lt) M hM hL h3 (by omega)
  have hlit : (some (ra_nf M 3 + 1)) = some (nI (st + 1)) := by rw [ra_nf_ap, h3, nI_1]
  unfold f_X3_readsStatement
  rw [hh, Option.bind_some, hlit, Option.bind_some]
  by_cases c99 : ra_cd0 L lt st = 99
  · right
    have hs : ra_sl (ra_cd0 L lt st) = 2 + 2 := by rw [c99]; rfl
    rw [if_pos (show ra_la L lt st = 99 from (ra_laI (v := 99) hlt (by decide) (by decide)).mpr c99), ra_upd]
    exact ⟨by omega, rr_num hL hlt hst (by decide) M nums hM h3 hs (by omega) (by omega)⟩
  rw [if_neg (show ¬ ra_la L lt st = 99 from fun z => c99 ((ra_laI (v := 99) hlt (by decide) (by decide)).mp z))]
  by_cases c104 : ra_cd0 L lt st = 104
  · right
    have hs : ra_sl (ra_cd0 L lt st) = 1 + 2 := by rw [c104]; rfl
    rw [if_pos (show ra_la L lt st = 104 from (ra_laI (v := 104) hlt (by decide) (by decide)).mpr c104), ra_upd]
    exact ⟨by omega, rr_num hL hlt hst (by decide) M nums hM h3 hs (by omega) (by omega)⟩
  rw [if_neg (show ¬ ra_la L lt st = 104 from fun z => c104 ((ra_laI (v := 104) hlt (by decide) (by decide)).mp z))]
  by_cases c112 : ra_cd0 L lt st = 112
  · right
    have hs : ra_sl (ra_cd0 L lt st) = 6 := by rw [c112]; rfl
    refine ⟨by omega, ?_⟩
    rw [if_pos (show ra_la L lt st = 112 from (ra_laI (v := 112) hlt (by decide) (by decide)).mpr c112), ra_upd, rr_here (ra_un M 3 (st + 1)) hM hL (p := st + 1) rfl (by omega), Option.bind_some, rr_kindOf hlt, Option.bind_some]
    have f1 : ra_ft L lt st 1 = decide (ra_kd (ra_cd0 L lt (st + 1)) < 6) := by
      unfold ra_ft
      rw [if_neg (by omega), if_pos ⟨c112, rfl⟩]
    by_cases ck : ra_kd (ra_cd0 L lt (st + 1)) < 6
    · have hR : ra_R L lt st = if ra_ff (ra_dgt L lt (st + 2)) 3 0 < 3 then 2 + ra_ff (ra_dgt L lt (st + 2)) 3 0 else if ra_cd0 L lt (st + 5) = 59 then 6 else 5 := by
        have h1 : ra_ff (ra_ft L lt st) 3 2 + 0 = ra_ff (ra_dgt L lt (st + 2)) 3 0 + 2 := ra_ff_sh 3 2 0 (fun j hj => by
          unfold ra_ft
          rw [if_neg (by omega), if_neg (fun z => by omega)]
          unfold ra_dgt
          rw [show st + (2 + j) = st + 2 + (0 + j) by omega])
        unfold ra_R
        rw [hs, show (6 - 1 : Nat) = 1 + (3 + 1) from rfl, ra_ff_app]
        have h2 : ra_ff (ra_ft L lt st) 1 1 = 2 := by
          show (if ra_ft L lt st 1 then 2 else 1) = 2
          rw [f1, decide_eq_true ck, if_pos rfl]
        rw [h2, if_neg (by omega), ra_ff_app, show ra_ff (ra_ft L lt st) 3 (1 + 1) = ra_ff (ra_dgt L lt (st + 2)) 3 0 + 2 from h1]
        by_cases c : ra_ff (ra_dgt L lt (st + 2)) 3 0 < 3
        · rw [if_pos (by omega), if_pos c, Nat.add_comm]
        · rw [if_neg (by omega), if_neg c]
          show (if ra_ft L lt st 5 then 6 else 5) = _
          unfold ra_ft
          rw [if_pos (show 5 + 1 = ra_sl (ra_cd0 L lt st) by omega)]
          by_cases c2 : ra_cd0 L lt (st + 5) = 59
          · rw [decide_eq_true c2, if_pos rfl, if_pos c2]
          · rw [decide_eq_false c2, if_neg (by decide), if_neg c2]
      obtain ⟨nums', a1, a2⟩ := rr_rn hL hlt (k := 0) (dg := 3) (p := st + 2) (by decide) (by decide) (by omega) (ra_un M 3 (st + 2)) (upd nums 1 (nI (ra_kd (ra_cd0 L lt (st + 1))))) hM rfl
      rw [ra_unun', ra_unun'] at a2
      rw [if_pos ck, if_pos (nI_pos' (by omega)), nI_1, Option.bind_some, ra_upd, ra_unun']
      unfold ra_rd
      rw [hs]
      rcases a2 with ⟨b1, b2⟩ | ⟨b1, b2, b3⟩
      · left
        rw [if_pos b1] at hR
        refine ⟨by omega, nums', ?_⟩
        have b2 : f_X3_readsNumber (ra_nf (ra_un M 3 (st + 2))) (ra_nf lt) (upd nums 1 (nI (ra_kd (ra_cd0 L lt (st + 1))))) 0 3 = _ := b2
        rw [b2, hR, Option.bind_some, if_pos (show nI 0 = 0 from rfl)]
        show some (nI 0, ra_nf (ra_un M 3 (st + 2 + ra_ff (ra_dgt L lt (st + 2)) 3 0)), nums') = _
        rw [show st + 2 + ra_ff (ra_dgt L lt (st + 2)) 3 0 = st + (2 + ra_ff (ra_dgt L lt (st + 2)) 3 0) by omega]
      · rw [if_neg (by omega)] at hR
        have b3 : f_X3_readsNumber (ra_nf (ra_un M 3 (st + 2))) (ra_nf lt) (upd nums 1 (nI (ra_kd (ra_cd0 L lt (st + 1))))) 0 3 = _ := b3
        rw [b3, Option.bind_some, if_neg (show ¬ nI 1 = 0 by decide), rr_here (ra_un M 3 (st + 2 + 3)) hM hL (p := st + 5) rfl (by omega), Option.bind_some]
        by_cases c : ra_cd0 L lt (st + 5) = 59
        · right
          rw [if_pos c] at hR
          refine ⟨hR, nums', ?_, ?_⟩
          · rw [if_pos (show ra_la L lt (st + 5) = 59 from (ra_laI (v := 59) hlt (by decide) (by decide)).mpr c)]
            show (some (ra_nf (ra_un M 3 (st + 2 + 3)) 3 + 1)).bind (fun v24 => some ((1 : Int32), upd (ra_nf (ra_un M 3 (st + 2 + 3))) 3 v24, nums')) = _
            rw [ra_nf_ap, ra_us, nI_1, Option.bind_some, ra_upd, ra_unun']
            rfl
          · unfold ra_ns
            rw [if_pos c112]
            exact ⟨by rw [a1 1 (by decide), pk_us], b2⟩
        · left
          rw [if_neg c] at hR
          refine ⟨by omega, nums', ?_⟩
          rw [if_neg (show ¬ ra_la L lt (st + 5) = 59 from fun z => c ((ra_laI (v := 59) hlt (by decide) (by decide)).mp z)), hR]
          rfl
    · have hR : ra_R L lt st = 1 := by
        unfold ra_R
        rw [hs, show (6 - 1 : Nat) = 1 + 4 from rfl, ra_ff_app]
        have h2 : ra_ff (ra_ft L lt st) 1 1 = 1 := by
          show (if ra_ft L lt st 1 then 2 else 1) = 1
          rw [f1, decide_eq_false ck, if_neg (by decide)]
        rw [h2, if_pos (by omega)]
      rw [if_neg ck, if_neg (show ¬ (0 : Int32) ≤ -nI 9 by decide)]
      unfold ra_rd
      rw [hs, hR]
      exact Or.inl ⟨by omega, _, rfl⟩
  rw [if_neg (show ¬ ra_la L lt st = 112 from fun z => c112 ((ra_laI (v := 112) hlt (by decide) (by decide)).mp z))]
  by_cases c114 : ra_cd0 L lt st = 114
  · right
    have hs : ra_sl (ra_cd0 L lt st) = 6 := by rw [c114]; rfl
    refine ⟨by omega, ?_⟩
    rw [if_pos (show ra_la L lt st = 114 from (ra_laI (v := 114) hlt (by decide) (by decide)).mpr c114), ra_upd]
    have hR := ra_R1 (L := L) (lt := lt) (st := st) (dg := 4) hs (by omega)
    have hsp : ra_ff (ra_dgt L lt (st + 1)) 4 0 = if ra_ff (ra_dgt L lt (st + 1)) 3 0 < 3 then ra_ff (ra_dgt L lt (st + 1)) 3 0 else 3 + ra_ff (ra_dgt L lt (st + 4)) 1 0 := by
      have h0 : ra_ff (ra_dgt L lt (st + 1)) 4 0 = if ra_ff (ra_dgt L lt (st + 1)) 3 0 < 0 + 3 then ra_ff (ra_dgt L lt (st + 1)) 3 0 else ra_ff (ra_dgt L lt (st + 1)) 1 (0 + 3) := ra_ff_app (ra_dgt L lt (st + 1)) 1 3 0
      rw [h0]
      have h1 : ra_ff (ra_dgt L lt (st + 1)) 1 3 + 0 = ra_ff (ra_dgt L lt (st + 4)) 1 0 + 3 := ra_ff_sh 1 3 0 (fun j hj => by
        unfold ra_dgt
        rw [show st + 1 + (3 + j) = st + 4 + (0 + j) by omega])
      by_cases c : ra_ff (ra_dgt L lt (st + 1)) 3 0 < 3
      · rw [if_pos (by omega), if_pos c]
      · rw [if_neg (by omega), if_neg c]
        show ra_ff (ra_dgt L lt (st + 1)) 1 3 = _
        omega
    obtain ⟨nums', a1, a2⟩ := rr_rn hL hlt (k := 0) (dg := 3) (p := st + 1) (by decide) (by decide) (by omega) (ra_un M 3 (st + 1)) nums hM rfl
    rw [ra_unun', ra_unun'] at a2
    have hle1 := ra_ff_le (ra_dgt L lt (st + 4)) 1 0
    unfold ra_rd
    rw [hs]
    rcases a2 with ⟨b1, b2⟩ | ⟨b1, b2, b3⟩
    · left
      rw [if_pos b1] at hsp
      rw [if_pos (by omega), hsp] at hR
      refine ⟨by omega, nums', ?_⟩
      have b2 : f_X3_readsNumber (ra_nf (ra_un M 3 (st + 1))) (ra_nf lt) nums 0 3 = _ := b2
      rw [b2, hR, Option.bind_some, if_pos (show nI 0 = 0 from rfl)]
      show some (nI 0, ra_nf (ra_un M 3 (st + 1 + ra_ff (ra_dgt L lt (st + 1)) 3 0)), nums') = _
      rw [show st + 1 + ra_ff (ra_dgt L lt (st + 1)) 3 0 = st + (1 + ra_ff (ra_dgt L lt (st + 1)) 3 0) by omega]
    · rw [if_neg (by omega)] at hsp
      have b3 : f_X3_readsNumber (ra_nf (ra_un M 3 (st + 1))) (ra_nf lt) nums 0 3 = _ := b3
      rw [b3, Option.bind_some, if_neg (show ¬ nI 1 = 0 by decide)]
      obtain ⟨nums2, d1, d2⟩ := rr_rn hL hlt (k := 1) (dg := 1) (p := st + 4) (by decide) (by decide) (by omega) (ra_un M 3 (st + 1 + 3)) nums' hM rfl
      rw [ra_unun', ra_unun'] at d2
      rcases d2 with ⟨e1, e2⟩ | ⟨e1, e2, e3⟩
      · left
        rw [if_pos (by omega), hsp] at hR
        refine ⟨by omega, nums2, ?_⟩
        have e2 : f_X3_readsNumber (ra_nf (ra_un M 3 (st + 1 + 3))) (ra_nf lt) nums' 1 1 = _ := e2
        rw [e2, hR, Option.bind_some, if_pos (show nI 0 = 0 from rfl)]
        show some (nI 0, ra_nf (ra_un M 3 (st + 4 + ra_ff (ra_dgt L lt (st + 4)) 1 0)), nums2) = _
        rw [show st + 4 + ra_ff (ra_dgt L lt (st + 4)) 1 0 = st + (1 + (3 + ra_ff (ra_dgt L lt (st + 4)) 1 0)) by omega]
      · rw [if_neg (by omega)] at hR
        have e3 : f_X3_readsNumber (ra_nf (ra_un M 3 (st + 1 + 3))) (ra_nf lt) nums' 1 1 = _ := e3
        rw [e3, Option.bind_some, if_neg (show ¬ nI 1 = 0 by decide), rr_here (ra_un M 3 (st + 4 + 1)) hM hL (p := st + 5) rfl (by omega), Option.bind_some]
        rw [show st + 1 + 4 = st + 5 by omega] at hR
        by_cases c : ra_cd0 L lt (st + 5) = 59
        · right
          rw [if_pos c] at hR
          refine ⟨hR, nums2, ?_, ?_⟩
          · rw [if_pos (show ra_la L lt (st + 5) = 59 from (ra_laI (v := 59) hlt (by decide) (by decide)).mpr c)]
            show (some (ra_nf (ra_un M 3 (st + 4 + 1)) 3 + 1)).bind (fun v24 => some ((1 : Int32), upd (ra_nf (ra_un M 3 (st + 4 + 1))) 3 v24, nums2)) = _
            rw [ra_nf_ap, ra_us, nI_1, Option.bind_some, ra_upd, ra_unun']
            rfl
          · unfold ra_ns
            rw [if_neg c112, if_pos c114]
            exact ⟨by rw [d1 0 (by decide)]; exact b2, e2⟩
        · left
          rw [if_neg c] at hR
          refine ⟨by omega, nums2, ?_⟩
          rw [if_neg (show ¬ ra_la L lt (st + 5) = 59 from fun z => c ((ra_laI (v := 59) hlt (by decide) (by decide)).mp z)), hR]
          rfl
  rw [if_neg (show ¬ ra_la L lt st = 114 from fun z => c114 ((ra_laI (v := 114) hlt (by decide) (by decide)).mp z))]
  by_cases c115 : ra_cd0 L lt st = 115
  · right
    have hs : ra_sl (ra_cd0 L lt st) = 2 + 2 := by rw [c115]; rfl
    rw [if_pos (show ra_la L lt st = 115 from (ra_laI (v := 115) hlt (by decide) (by decide)).mpr c115), ra_upd]
    exact ⟨by omega, rr_num hL hlt hst (by decide) M nums hM h3 hs (by omega) (by omega)⟩
  rw [if_neg (show ¬ ra_la L lt st = 115 from fun z => c115 ((ra_laI (v := 115) hlt (by decide) (by decide)).mp z))]
  by_cases c116 : ra_cd0 L lt st = 116
  · right
    have hs : ra_sl (ra_cd0 L lt st) = 1 + 2 := by rw [c116]; rfl
    rw [if_pos (show ra_la L lt st = 116 from (ra_laI (v := 116) hlt (by decide) (by decide)).mpr c116), ra_upd]
    exact ⟨by omega, rr_num hL hlt hst (by decide) M nums hM h3 hs (by omega) (by omega)⟩
  rw [if_neg (show ¬ ra_la L lt st = 116 from fun z => c116 ((ra_laI (v := 116) hlt (by decide) (by decide)).mp z))]
  by_cases c119 : ra_cd0 L lt st = 119
  · right
    have hs : ra_sl (ra_cd0 L lt st) = 2 + 2 := by rw [c119]; rfl
    rw [if_pos (show ra_la L lt st = 119 from (ra_laI (v := 119) hlt (by decide) (by decide)).mpr c119), ra_upd]
    exact ⟨by omega, rr_num hL hlt hst (by decide) M nums hM h3 hs (by omega) (by omega)⟩
  rw [if_neg (show ¬ ra_la L lt st = 119 from fun z => c119 ((ra_laI (v := 119) hlt (by decide) (by decide)).mp z))]
  left
  refine ⟨?_, nums, ?_⟩
  · unfold ra_sl
    rw [if_neg c99, if_neg c104, if_neg c112, if_neg c114, if_neg c115, if_neg c116, if_neg c119]
  · rw [show nI (st + 1) - 1 = nI st from nI_pred st, Option.bind_some, ra_upd, ra_upd, ra_unun']
    rfl
/-! the form of all of it -/
def ra_ok1 (L : Nat) (lt : Nat → Nat) (st : Nat) : Prop := 0 < ra_sl (ra_cd0 L lt st) ∧ ra_R L lt st = ra_sl (ra_cd0 L lt st)
def ra_ch (L : Nat) (lt : Nat → Nat) : Nat → Nat → Prop
  | 0, st => L ≤ st
  | d + 1, st => L ≤ st ∨ (ra_ok1 L lt st ∧ ra_ch L lt d (st + ra_sl (ra_cd0 L lt st)))
def ra_nc (L : Nat) (lt : Nat → Nat) : Nat → Nat → Nat
  | 0, _ => 0
  | d + 1, st => if L ≤ st then 0 else 1 + ra_nc L lt d (st + ra_sl (ra_cd0 L lt st))
theorem ra_ok1_lt (hlt : ∀ j, lt j ≤ 255) {st : Nat} (hst : st < L) (h : ra_ok1 L lt st) : st + ra_sl (ra_cd0 L lt st) ≤ L := by
  obtain ⟨h1, h2⟩ := h
  have hs := ra_sl_le (ra_cd0 L lt st)
  have h3 := ra_ff_all (f := ra_ft L lt st) (ra_sl (ra_cd0 L lt st) - 1) 1 (by unfold ra_R at h2; omega) (ra_sl (ra_cd0 L lt st) - 1) (by omega) (by omega)
  unfold ra_ft at h3
  rw [if_pos (by omega)] at h3
  have h3 := of_decide_eq_true h3
  by_cases c : st + (ra_sl (ra_cd0 L lt st) - 1) < L
  · omega
  · unfold ra_cd0 at h3
    rw [if_neg (by unfold ra_cd0 at c; exact c)] at h3
    omega
set_option maxRecDepth 100000 in
theorem ra_f9 : ∀ p, p < 200 → ¬ (-1000 : Int32) - nI p = -9 := by decide
theorem ra_P1 (G : Nat → Nat) (hG : G 0 = L) (hL : L ≤ 96) (hlt : ∀ j, lt j ≤ 255) (s rd : Nat → Int32) : ∀ (d st n m m' : Nat) (x1 : Int32) (M : Nat → Nat) (nums : Nat → Int32), st < L → L - st ≤ d → n ≤ st → d < m → d < m' → M 1 = L → M 3 = st →
    (∃ p y M' nums', p < 200 ∧ M' 0 = M 0 ∧ M' 1 = M 1 ∧ M' 2 = M 2 ∧ M' 6 = M 6 ∧ f_X2_formFault_L13 (ra_nf G) (ra_nf lt) m (nI st) (nI n) = some (Sum.inl (nI p)) ∧ f_X3_hand_L10 (ra_nf lt) s rd m' x1 (-9) (ra_nf M) nums = some (y, (-1000) - nI p, ra_nf M', nums')) ∨
    (∃ y M' nums', M' 0 = M 0 ∧ M' 1 = M 1 ∧ M' 2 = M 2 ∧ M' 6 = M 6 ∧ ra_ch L lt d st ∧ f_X2_formFault_L13 (ra_nf G) (ra_nf lt) m (nI st) (nI n) = some (Sum.inr y) ∧ f_X3_hand_L10 (ra_nf lt) s rd m' x1 (-9) (ra_nf M) nums = some (x1 + nI (ra_nc L lt d st), -9, ra_nf M', nums')) := by
  intro d
  induction d with
  | zero => intro st n m m' x1 M nums h1 h2; omega
  | succ d ih =>
    intro st n m m' x1 M nums h1 h2 h3 hm hm' hM hM3
    obtain ⟨m, rfl⟩ : ∃ q, m = q + 1 := ⟨m - 1, by omega⟩
    obtain ⟨m', rfl⟩ : ∃ q, m' = q + 1 := ⟨m' - 1, by omega⟩
    have hs := ra_sl_le (ra_cd0 L lt st)
    have k1 : ¬ (96 : Int32) ≤ nI n := nI_ge (b := 96) (by omega) (by decide)
    have k2 : ¬ ra_nf G 0 ≤ nI st := by
      rw [ra_nf_ap, hG]
      exact nI_ge h1 (by omega)
    have hL49 := rc_L49 G hG hL hlt (nI n) (st := st) (by omega) (ra_sl (ra_cd0 L lt st) - 1) 1 rf_fu
    have hfault : ∀ (p : Nat) (M' : Nat → Nat) (nums' : Nat → Int32), p < 200 → M' 3 = p → f_X3_readsStatement (ra_nf M) (ra_nf lt) nums = some (nI 0, ra_nf M', nums') → f_X3_hand_L10 (ra_nf lt) s rd (m' + 1) x1 (-9) (ra_nf M) nums = some (x1 + 1, (-1000) - nI p, ra_nf M', nums') := by
      intro p M' nums' hp hp3 e
      have e3 : (-1000 : Int32) - ra_nf M' 3 = (-1000) - nI p := by rw [ra_nf_ap, hp3]
      have e9 : ¬ (-1000 : Int32) - ra_nf M' 3 = -9 := by
        rw [e3]
        exact ra_f9 p hp
      rw [f_X3_hand_L10, e, Option.bind_some, if_pos (show nI 0 = 0 from rfl), Option.bind_some, Option.bind_some, if_neg e9, e3]
    rcases rr_stmt hL hlt (st := st) (by omega) M nums hM hM3 with ⟨z, nums', e⟩ | ⟨z, hz⟩
    · left
      refine ⟨st, x1 + 1, ra_un M 3 st, nums', by omega, rfl, rfl, rfl, rfl, ?_, hfault st _ _ (by omega) rfl e⟩
      rw [f_X2_formFault_L13, if_neg k1, if_neg k2, rc_letterAt G hG hL (by omega), Option.bind_some, rc_sl hlt, Option.bind_some, z, if_pos (show nI 0 = 0 from rfl)]
    · have hz0 : ¬ nI (ra_sl (ra_cd0 L lt st)) = 0 := nI_ne0 z (by omega)
      have hL49 := hL49 (by omega) (by omega) (by unfold rf_fu; omega)
      have hL49 : f_X2_formFault_L49 (ra_nf G) (ra_nf lt) (nI st) (nI n) (ra_la L lt st) (nI (ra_sl (ra_cd0 L lt st))) rf_fu 1 = some (if ra_R L lt st < ra_sl (ra_cd0 L lt st) then Sum.inl (nI (st + ra_R L lt st)) else Sum.inr (nI (ra_sl (ra_cd0 L lt st)))) := hL49
      rw [f_X2_formFault_L13, if_neg k1, if_neg k2, rc_letterAt G hG hL (by omega), Option.bind_some, rc_sl hlt, Option.bind_some, if_neg hz0, hL49, Option.bind_some]
      rcases hz with ⟨z1, nums', e⟩ | ⟨z1, nums', e, hns⟩
      · left
        refine ⟨st + ra_R L lt st, x1 + 1, ra_un M 3 (st + ra_R L lt st), nums', by omega, rfl, rfl, rfl, rfl, ?_, hfault _ _ _ (by omega) rfl e⟩
        rw [if_pos z1]
        rfl
      · have hok : ra_ok1 L lt st := ⟨z, z1⟩
        have hle := ra_ok1_lt hlt h1 hok
        rw [if_neg (show ¬ ra_R L lt st < ra_sl (ra_cd0 L lt st) by omega)]
        have eM : f_X3_hand_L10 (ra_nf lt) s rd (m' + 1) x1 (-9) (ra_nf M) nums = (if (ra_nf (ra_un M 3 (st + ra_sl (ra_cd0 L lt st))) 3) < (ra_nf (ra_un M 3 (st + ra_sl (ra_cd0 L lt st))) 1) then f_X3_hand_L10 (ra_nf lt) s rd m' (x1 + 1) (-9) (ra_nf (ra_un M 3 (st + ra_sl (ra_cd0 L lt st)))) nums' else some (x1 + 1, -9, ra_nf (ra_un M 3 (st + ra_sl (ra_cd0 L lt st))), nums')) := by
          rw [f_X3_hand_L10, e, Option.bind_some, if_neg (show ¬ nI 1 = 0 by decide), Option.bind_some, if_pos rfl]
        rw [eM, ra_nf_ap, ra_nf_ap, ra_us, show ra_un M 3 (st + ra_sl (ra_cd0 L lt st)) 1 = L from hM]
        simp only [rf_sum, Option.bind_some]
        rw [nI_add, nI_1]
        by_cases cL : st + ra_sl (ra_cd0 L lt st) < L
        · rw [if_pos (nI_lt cL (by omega))]
          have hnc : ra_nc L lt (d + 1) st = 1 + ra_nc L lt d (st + ra_sl (ra_cd0 L lt st)) := by
            rw [ra_nc, if_neg (by omega)]
          rcases ih (st + ra_sl (ra_cd0 L lt st)) (n + 1) m m' (x1 + 1) (ra_un M 3 (st + ra_sl (ra_cd0 L lt st))) nums' cL (by omega) (by omega) (by omega) (by omega) hM rfl with ⟨p, y, M', nums2, q1, q2, q3, q4, q5, q6, q7⟩ | ⟨y, M', nums2, q2, q3, q4, q5, q6, q7, q8⟩
          · exact Or.inl ⟨p, y, M', nums2, q1, q2, q3, q4, q5, q6, q7⟩
          · right
            refine ⟨y, M', nums2, q2, q3, q4, q5, Or.inr ⟨hok, q6⟩, q7, ?_⟩
            rw [q8, hnc]
            congr 2
            rw [← nI_add, ← Int32.add_assoc]
            rfl
        · right
          rw [if_neg (nI_nlt (by omega) (by omega))]
          have hnc : ra_nc L lt (d + 1) st = 1 := by
            rw [ra_nc, if_neg (by omega)]
            have : ra_nc L lt d (st + ra_sl (ra_cd0 L lt st)) = 0 := by
              cases d with
              | zero => rfl
              | succ d => rw [ra_nc, if_pos (by omega)]
            omega
          have hch : ra_ch L lt d (st + ra_sl (ra_cd0 L lt st)) := by
            cases d with
            | zero => exact (by omega : L ≤ st + ra_sl (ra_cd0 L lt st))
            | succ d => exact Or.inl (by omega)
          obtain ⟨m, rfl⟩ : ∃ q, m = q + 1 := ⟨m - 1, by omega⟩
          refine ⟨(nI (st + ra_sl (ra_cd0 L lt st)), nI (n + 1)), ra_un M 3 (st + ra_sl (ra_cd0 L lt st)), nums', rfl, rfl, rfl, rfl, Or.inr ⟨hok, hch⟩, ?_, ?_⟩
          · rw [f_X2_formFault_L13]
            by_cases c96 : (96 : Int32) ≤ nI (n + 1)
            · rw [if_pos c96]
            · rw [if_neg c96, ra_nf_ap, hG, if_pos (nI_le (by omega) (by omega))]
          · rw [hnc]
            rfl
end
end RAHand
end
section
/-! a hand: its statements come; all of it -/
section RAHand2
theorem ra_st_utE (γ κ τ : Nat → Nat) {j v : Nat} : upd (ra_st γ κ τ) (16 + j) (nI v) = ra_st γ κ (ra_un τ j v) := by
  unfold ra_st
  rw [ra_upd]
  congr 1
  funext i
  unfold ra_un ra_jn
  by_cases e : i = 16 + j
  · subst e
    simp [show ¬ 16 + j < 10 by omega, show ¬ 16 + j < 16 by omega]
  · simp only [if_neg e]
    by_cases e1 : i < 10
    · simp only [if_pos e1]
    · simp only [if_neg e1]
      by_cases e2 : i < 16
      · simp only [if_pos e2]
      · simp only [if_neg e2]
        rw [if_neg (by omega)]
section
variable {L : Nat} {lt : Nat → Nat}
theorem ra_okd {st i : Nat} (h : ra_ok1 L lt st) (h1 : 1 ≤ i) (h2 : i + 1 < ra_sl (ra_cd0 L lt st)) (hc : ¬ (ra_cd0 L lt st = 112 ∧ i = 1)) : 48 ≤ ra_cd0 L lt (st + i) ∧ ra_cd0 L lt (st + i) ≤ 57 := by
  obtain ⟨k1, k2⟩ := h
  have h3 := ra_ff_all (f := ra_ft L lt st) (ra_sl (ra_cd0 L lt st) - 1) 1 (by unfold ra_R at k2; omega) i h1 (by omega)
  unfold ra_ft at h3
  rw [if_neg (by omega), if_neg hc] at h3
  exact of_decide_eq_true h3
theorem ra_okk {st : Nat} (h : ra_ok1 L lt st) (hc : ra_cd0 L lt st = 112) : ra_kd (ra_cd0 L lt (st + 1)) < 6 := by
  obtain ⟨k1, k2⟩ := h
  have hs : ra_sl (ra_cd0 L lt st) = 6 := by rw [hc]; rfl
  have h3 := ra_ff_all (f := ra_ft L lt st) (ra_sl (ra_cd0 L lt st) - 1) 1 (by unfold ra_R at k2; omega) 1 (by omega) (by omega)
  unfold ra_ft at h3
  rw [if_neg (by omega), if_pos ⟨hc, rfl⟩] at h3
  exact of_decide_eq_true h3
theorem rc_nuL (G : Nat → Nat) (hG : G 0 = L) (hL : L ≤ 96) (hlt : ∀ j, lt j ≤ 255) {p dg : Nat} (hp : p < 500) (hdg : dg ≤ 3) (hd : ∀ i, i < dg → 48 ≤ ra_cd0 L lt (p + i) ∧ ra_cd0 L lt (p + i) ≤ 57) : ∀ (d i m : Nat), i + d = dg → d < m →
    f_X2_numberAt_L5 (ra_nf G) (ra_nf lt) (nI p) (nI dg) m (nI (ra_nu L lt p i)) (nI i) = some (nI (ra_nu L lt p dg), nI dg) := by
  intro d
  induction d with
  | zero =>
    intro i m hi hm
    obtain ⟨m, rfl⟩ : ∃ q, m = q + 1 := ⟨m - 1, by omega⟩
    obtain rfl : i = dg := by omega
    rw [f_X2_numberAt_L5, if_pos (nI_le (Nat.le_refl _) (by omega))]
  | succ d ih =>
    intro i m hi hm
    obtain ⟨m, rfl⟩ : ∃ q, m = q + 1 := ⟨m - 1, by omega⟩
    have hv := hd i (by omega)
    have hla : ra_la L lt (p + i) = nI (ra_cd0 L lt (p + i)) := by
      rcases ra_laC (L := L) hlt (p + i) with ⟨e, h⟩ | ⟨e, h⟩
      · exact e
      · omega
    have e : nI (ra_nu L lt p i) * 10 + nI (ra_cd0 L lt (p + i)) - 48 = nI (ra_nu L lt p (i + 1)) := by
      have e1 : ra_nu L lt p (i + 1) = ra_nu L lt p i * 10 + ra_cd0 L lt (p + i) - 48 := by
        rw [Nat.mul_comm]
        rfl
      rw [e1, show (10 : Int32) = nI 10 from rfl, show (48 : Int32) = nI 48 from rfl, pk_mul, nI_add, pk_sub (by omega)]
    rw [f_X2_numberAt_L5, if_neg (nI_ge (by omega) (by omega)), nI_add, rc_letterAt G hG hL (by omega), Option.bind_some, hla, e, Option.bind_some, nI_1, Option.bind_some]
    exact ih (i + 1) m (by omega) (by omega)
theorem rc_num (G : Nat → Nat) (hG : G 0 = L) (hL : L ≤ 96) (hlt : ∀ j, lt j ≤ 255) {p dg : Nat} (hp : p < 500) (hdg : dg ≤ 3) (hd : ∀ i, i < dg → 48 ≤ ra_cd0 L lt (p + i) ∧ ra_cd0 L lt (p + i) ≤ 57) :
    f_X2_numberAt (ra_nf G) (ra_nf lt) (nI p) (nI dg) = some (nI (ra_nu L lt p dg)) := by
  have h1 := rc_nuL G hG hL hlt hp hdg hd dg 0 rf_fu (by omega) (by unfold rf_fu; omega)
  have h1 : f_X2_numberAt_L5 (ra_nf G) (ra_nf lt) (nI p) (nI dg) rf_fu 0 0 = _ := h1
  unfold f_X2_numberAt
  rw [h1]
  rfl
theorem ra_nu1 {p : Nat} (h0 : 48 ≤ ra_cd0 L lt p ∧ ra_cd0 L lt p ≤ 57) : ra_nu L lt p 1 ≤ 9 := by
  show 10 * 0 + ra_cd0 L lt (p + 0) - 48 ≤ 9
  rw [Nat.add_zero]
  omega
theorem ra_nu2 {p : Nat} (h0 : 48 ≤ ra_cd0 L lt p ∧ ra_cd0 L lt p ≤ 57) (h1 : 48 ≤ ra_cd0 L lt (p + 1) ∧ ra_cd0 L lt (p + 1) ≤ 57) : ra_nu L lt p 2 ≤ 99 := by
  have := ra_nu1 h0
  show 10 * ra_nu L lt p 1 + ra_cd0 L lt (p + 1) - 48 ≤ 99
  omega
theorem ra_nu3 {p : Nat} (h0 : 48 ≤ ra_cd0 L lt p ∧ ra_cd0 L lt p ≤ 57) (h1 : 48 ≤ ra_cd0 L lt (p + 1) ∧ ra_cd0 L lt (p + 1) ≤ 57) (h2 : 48 ≤ ra_cd0 L lt (p + 2) ∧ ra_cd0 L lt (p + 2) ≤ 57) : ra_nu L lt p 3 ≤ 999 := by
  have := ra_nu2 h0 h1
  show 10 * ra_nu L lt p 2 + ra_cd0 L lt (p + 2) - 48 ≤ 999
  omega
theorem rc_ts0 {γ : Nat → Nat} {v : Nat} (hv : v < 1000) : f_X0_takeSetting (ra_nf γ) 0 (nI v) = if 100 ≤ v ∧ v ≤ 250 then some (nI 1, ra_nf (ra_un γ 1 v)) else some (nI 0, ra_nf γ) := by
  unfold f_X0_takeSetting f_X0_change
  by_cases c1 : v < 100
  · rw [if_neg (show ¬ (100 ≤ v ∧ v ≤ 250) by omega)]
    simp (disch := omega) only [↓reduceIte, ra_lit, ra_nf_ap, ra_st_lo, nI_add, nI_clamp, nI_ltI, nI_leI, nI_eq, Option.bind_some, if_true, if_false, not_false_eq_true, not_true_eq_false, ra_ltT, ra_ltF, ra_leT, ra_leF, ra_eqT, ra_eqF, or_false, false_or, or_true, true_or, and_true, true_and, and_false, false_and, ra_at, ra_a00]
  · by_cases c2 : 250 < v
    · rw [if_neg (show ¬ (100 ≤ v ∧ v ≤ 250) by omega)]
      simp (disch := omega) only [↓reduceIte, ra_lit, ra_nf_ap, ra_st_lo, nI_add, nI_clamp, nI_ltI, nI_leI, nI_eq, Option.bind_some, if_true, if_false, not_false_eq_true, not_true_eq_false, ra_ltT, ra_ltF, ra_leT, ra_leF, ra_eqT, ra_eqF, or_false, false_or, or_true, true_or, and_true, true_and, and_false, false_and, ra_at, ra_a00, ra_a10]
    · rw [if_pos (show 100 ≤ v ∧ v ≤ 250 by omega)]
      simp (disch := omega) only [↓reduceIte, ra_lit, ra_nf_ap, ra_st_lo, nI_add, nI_clamp, nI_ltI, nI_leI, nI_eq, Option.bind_some, if_true, if_false, not_false_eq_true, not_true_eq_false, ra_ltT, ra_ltF, ra_leT, ra_leF, ra_eqT, ra_eqF, or_false, false_or, or_true, true_or, and_true, true_and, and_false, false_and, ra_at, ra_a00, ra_a10, ra_upd]
theorem rc_ts1 {γ : Nat → Nat} {v : Nat} (hv : v < 1000) : f_X0_takeSetting (ra_nf γ) 1 (nI v) = if 1 ≤ v ∧ v ≤ 9 then some (nI 1, ra_nf (ra_un γ 2 v)) else some (nI 0, ra_nf γ) := by
  unfold f_X0_takeSetting f_X0_change
  by_cases c1 : v < 1
  · rw [if_neg (show ¬ (1 ≤ v ∧ v ≤ 9) by omega)]
    simp (disch := omega) only [↓reduceIte, ra_lit, ra_nf_ap, ra_st_lo, nI_add, nI_clamp, nI_ltI, nI_leI, nI_eq, Option.bind_some, if_true, if_false, not_false_eq_true, not_true_eq_false, ra_ltT, ra_ltF, ra_leT, ra_leF, ra_eqT, ra_eqF, or_false, false_or, or_true, true_or, and_true, true_and, and_false, false_and, ra_at, ra_a01]
  · by_cases c2 : 9 < v
    · rw [if_neg (show ¬ (1 ≤ v ∧ v ≤ 9) by omega)]
      simp (disch := omega) only [↓reduceIte, ra_lit, ra_nf_ap, ra_st_lo, nI_add, nI_clamp, nI_ltI, nI_leI, nI_eq, Option.bind_some, if_true, if_false, not_false_eq_true, not_true_eq_false, ra_ltT, ra_ltF, ra_leT, ra_leF, ra_eqT, ra_eqF, or_false, false_or, or_true, true_or, and_true, true_and, and_false, false_and, ra_at, ra_a01, ra_a11]
    · rw [if_pos (show 1 ≤ v ∧ v ≤ 9 by omega)]
      simp (disch := omega) only [↓reduceIte, ra_lit, ra_nf_ap, ra_st_lo, nI_add, nI_clamp, nI_ltI, nI_leI, nI_eq, Option.bind_some, if_true, if_false, not_false_eq_true, not_true_eq_false, ra_ltT, ra_ltF, ra_leT, ra_leF, ra_eqT, ra_eqF, or_false, false_or, or_true, true_or, and_true, true_and, and_false, false_and, ra_at, ra_a01, ra_a11, ra_upd]
theorem rc_ts2 {γ : Nat → Nat} {v : Nat} (hv : v < 1000) : f_X0_takeSetting (ra_nf γ) 2 (nI v) = if v ≤ 30 then some (nI 1, ra_nf (ra_un γ 4 v)) else some (nI 0, ra_nf γ) := by
  unfold f_X0_takeSetting f_X0_change
  by_cases c2 : 30 < v
  · rw [if_neg (show ¬ v ≤ 30 by omega)]
    simp (disch := omega) only [↓reduceIte, ra_lit, ra_nf_ap, ra_st_lo, nI_add, nI_clamp, nI_ltI, nI_leI, nI_eq, Option.bind_some, if_true, if_false, not_false_eq_true, not_true_eq_false, ra_ltT, ra_ltF, ra_leT, ra_leF, ra_eqT, ra_eqF, or_false, false_or, or_true, true_or, and_true, true_and, and_false, false_and, ra_at, ra_a02, ra_a12]
  · rw [if_pos (show v ≤ 30 by omega)]
    simp (disch := omega) only [↓reduceIte, ra_lit, ra_nf_ap, ra_st_lo, nI_add, nI_clamp, nI_ltI, nI_leI, nI_eq, Option.bind_some, if_true, if_false, not_false_eq_true, not_true_eq_false, ra_ltT, ra_ltF, ra_leT, ra_leF, ra_eqT, ra_eqF, or_false, false_or, or_true, true_or, and_true, true_and, and_false, false_and, ra_at, ra_a02, ra_a12, ra_upd]
theorem rc_ts3 {γ : Nat → Nat} {v : Nat} (hv : v < 1000) : f_X0_takeSetting (ra_nf γ) 3 (nI v) = if v ≤ 20 then some (nI 1, ra_nf (ra_un γ 5 v)) else some (nI 0, ra_nf γ) := by
  unfold f_X0_takeSetting f_X0_change
  by_cases c2 : 20 < v
  · rw [if_neg (show ¬ v ≤ 20 by omega)]
    simp (disch := omega) only [↓reduceIte, ra_lit, ra_nf_ap, ra_st_lo, nI_add, nI_clamp, nI_ltI, nI_leI, nI_eq, Option.bind_some, if_true, if_false, not_false_eq_true, not_true_eq_false, ra_ltT, ra_ltF, ra_leT, ra_leF, ra_eqT, ra_eqF, or_false, false_or, or_true, true_or, and_true, true_and, and_false, false_and, ra_at, ra_a03, ra_a13]
  · rw [if_pos (show v ≤ 20 by omega)]
    simp (disch := omega) only [↓reduceIte, ra_lit, ra_nf_ap, ra_st_lo, nI_add, nI_clamp, nI_ltI, nI_leI, nI_eq, Option.bind_some, if_true, if_false, not_false_eq_true, not_true_eq_false, ra_ltT, ra_ltF, ra_leT, ra_leF, ra_eqT, ra_eqF, or_false, false_or, or_true, true_or, and_true, true_and, and_false, false_and, ra_at, ra_a03, ra_a13, ra_upd]
theorem rc_ts4 {γ : Nat → Nat} {v : Nat} (hv : v ≤ 9) : f_X0_takeSetting (ra_nf γ) 4 (nI v) = some (nI 1, ra_nf (ra_un γ 7 v)) := by
  unfold f_X0_takeSetting f_X0_change
  simp (disch := omega) only [↓reduceIte, ra_lit, ra_nf_ap, ra_st_lo, nI_add, nI_clamp, nI_ltI, nI_leI, nI_eq, Option.bind_some, if_true, if_false, not_false_eq_true, not_true_eq_false, ra_ltT, ra_ltF, ra_leT, ra_leF, ra_eqT, ra_eqF, or_false, false_or, or_true, true_or, and_true, true_and, and_false, false_and, ra_at, ra_a04, ra_a14, ra_upd]
theorem ra_bb1 : nI 1 &&& 1 = nI 1 := by decide
theorem ra_bb0 : nI 0 &&& 1 = nI 0 := by decide
theorem ra_fin1 (g a b : Nat → Int32) : ((some ((1 : Int32), g)).bind fun (q : Int32 × (Nat → Int32)) => if q.1 &&& 1 = q.1 then some (q.1, q.2, a, b) else none) = some (nI 1, g, a, b) := by
  rw [Option.bind_some]
  exact if_pos ra_bb1
theorem ra_fin0 (g a b : Nat → Int32) : ((some ((0 : Int32), g)).bind fun (q : Int32 × (Nat → Int32)) => if q.1 &&& 1 = q.1 then some (q.1, q.2, a, b) else none) = some (nI 0, g, a, b) := by
  rw [Option.bind_some]
  exact if_pos ra_bb0
/-- a statement comes, both sides -/
def ra_tks (G M' : Nat → Nat) (lt γ κ τ : Nat → Nat) (st : Nat) (c : Int32) (nums : Nat → Int32) : Prop :=
  (∃ γ' κ' τ', f_X2_takeStatement (ra_nf G) (ra_nf γ) (ra_nf κ) (ra_nf τ) (ra_nf lt) (nI st) = some (nI 1, ra_nf γ', ra_nf κ', ra_nf τ') ∧ f_X3_comes (ra_nf M') (ra_st γ κ τ) nums c = some (nI 1, ra_st γ' κ' τ') ∧ ra_ok γ' κ' τ' ∧ γ' 8 ≤ 999) ∨
  (∃ a b c' s', f_X2_takeStatement (ra_nf G) (ra_nf γ) (ra_nf κ) (ra_nf τ) (ra_nf lt) (nI st) = some (nI 0, a, b, c') ∧ f_X3_comes (ra_nf M') (ra_st γ κ τ) nums c = some (nI 0, s'))
theorem ra_take {γ κ τ : Nat → Nat} (G M' : Nat → Nat) (hG : G 0 = L) (hL : L ≤ 96) (hlt : ∀ j, lt j ≤ 255) {st : Nat} (hst : st < 400) (h : ra_ok γ κ τ) (h8' : γ 8 ≤ 999) (hok : ra_ok1 L lt st) (nums : Nat → Int32) (hn : ra_ns L lt st nums) :
    ra_tks G M' lt γ κ τ st (ra_la L lt st) nums := by
  obtain ⟨h0, h1, h2, h3, h4, h5, h6, h7, h8, h9, h10, h11⟩ := id h
  have hla := rc_letterAt (lt := lt) G hG hL (p := st) (by omega)
  unfold ra_tks f_X2_takeStatement f_X3_comes
  rw [hla, Option.bind_some, Option.bind_some, Option.bind_some]
  by_cases c99 : ra_cd0 L lt st = 99
  · have hs : ra_sl (ra_cd0 L lt st) = 4 := by rw [c99]; rfl
    have e : ra_la L lt st = 99 := (ra_laI (v := 99) hlt (by decide) (by decide)).mpr c99
    have d1 := ra_okd hok (i := 1) (by omega) (by omega) (by omega)
    have d2 := ra_okd hok (i := 2) (by omega) (by omega) (by omega)
    have hv := ra_nu2 d1 d2
    have hnum : f_X2_numberAt (ra_nf G) (ra_nf lt) (nI st + 1) 2 = some (nI (ra_nu L lt (st + 1) 2)) := by
      rw [show nI st + 1 = nI (st + 1) from nI_add st 1, show (2 : Int32) = nI 2 from rfl]
      exact rc_num G hG hL hlt (p := st + 1) (dg := 2) (by omega) (by decide) (fun i hi => by
        have : i = 0 ∨ i = 1 := by omega
        rcases this with rfl | rfl
        · exact d1
        · exact d2)
    unfold ra_ns at hn
    rw [if_neg (by omega), if_neg (by omega), hs] at hn
    have hn : nums 0 = nI (ra_nu L lt (st + 1) 2) := hn
    generalize ra_nu L lt (st + 1) 2 = v at hn hv hnum
    rw [e, if_pos rfl, if_pos rfl, hnum, Option.bind_some, rc_ts3 (by omega), hn]
    by_cases c : v ≤ 20
    · left
      refine ⟨ra_un γ 5 v, κ, τ, ?_, ?_, ⟨h0, h1, h2, h3, h4, h5, h6, c, h8, h9, h10, h11⟩, h8'⟩
      · rw [if_pos c, Option.bind_some, if_pos ra_bb1]
      · rw [if_neg (show ¬ (20 : Int32) < nI v from nI_nlt (a := 20) (b := v) c (by decide)), ra_st_u _ _ _ (by decide)]
        rfl
    · right
      refine ⟨ra_nf γ, ra_nf κ, ra_nf τ, upd (ra_st γ κ τ) 5 (nI v), ?_, ?_⟩
      · rw [if_neg c, Option.bind_some, if_pos ra_bb0]
      · rw [if_pos (show (20 : Int32) < nI v from nI_lt (a := 20) (b := v) (by omega) (by omega))]
        rfl
  rw [if_neg (show ¬ ra_la L lt st = 99 from fun z => c99 ((ra_laI (v := 99) hlt (by decide) (by decide)).mp z)), if_neg (show ¬ ra_la L lt st = 99 from fun z => c99 ((ra_laI (v := 99) hlt (by decide) (by decide)).mp z))]
  by_cases c104 : ra_cd0 L lt st = 104
  · have hs : ra_sl (ra_cd0 L lt st) = 3 := by rw [c104]; rfl
    have e : ra_la L lt st = 104 := (ra_laI (v := 104) hlt (by decide) (by decide)).mpr c104
    have d1 := ra_okd hok (i := 1) (by omega) (by omega) (by omega)
    have hv := ra_nu1 d1
    have hnum : f_X2_numberAt (ra_nf G) (ra_nf lt) (nI st + 1) 1 = some (nI (ra_nu L lt (st + 1) 1)) := by
      rw [show nI st + 1 = nI (st + 1) from nI_add st 1, show (1 : Int32) = nI 1 from rfl]
      exact rc_num G hG hL hlt (p := st + 1) (dg := 1) (by omega) (by decide) (fun i hi => by
        have : i = 0 := by omega
        rcases this with rfl
        exact d1)
    unfold ra_ns at hn
    rw [if_neg (by omega), if_neg (by omega), hs] at hn
    have hn : nums 0 = nI (ra_nu L lt (st + 1) 1) := hn
    generalize ra_nu L lt (st + 1) 1 = v at hn hv hnum
    rw [e, if_pos rfl, if_pos rfl, hnum, Option.bind_some, rc_ts4 hv, hn]
    left
    refine ⟨ra_un γ 7 v, κ, τ, ?_, ?_, ⟨h0, h1, h2, h3, h4, h5, h6, h7, h8, hv, h10, h11⟩, h8'⟩
    · rw [Option.bind_some, if_pos ra_bb1]
    · rw [ra_st_u _ _ _ (by decide)]
      rfl
  rw [if_neg (show ¬ ra_la L lt st = 104 from fun z => c104 ((ra_laI (v := 104) hlt (by decide) (by decide)).mp z)), if_neg (show ¬ ra_la L lt st = 104 from fun z => c104 ((ra_laI (v := 104) hlt (by decide) (by decide)).mp z))]
  by_cases c112 : ra_cd0 L lt st = 112
  · have hs : ra_sl (ra_cd0 L lt st) = 6 := by rw [c112]; rfl
    have e : ra_la L lt st = 112 := (ra_laI (v := 112) hlt (by decide) (by decide)).mpr c112
    have hk := ra_okk hok c112
    have d2 := ra_okd hok (i := 2) (by omega) (by omega) (by omega)
    have d3 := ra_okd hok (i := 3) (by omega) (by omega) (by omega)
    have d4 := ra_okd hok (i := 4) (by omega) (by omega) (by omega)
    have hv := ra_nu3 d2 d3 d4
    have hnum : f_X2_numberAt (ra_nf G) (ra_nf lt) (nI st + 2) 3 = some (nI (ra_nu L lt (st + 2) 3)) := by
      rw [show nI st + 2 = nI (st + 2) from nI_add st 2, show (3 : Int32) = nI 3 from rfl]
      exact rc_num G hG hL hlt (p := st + 2) (dg := 3) (by omega) (by decide) (fun i hi => by
        have : i = 0 ∨ i = 1 ∨ i = 2 := by omega
        rcases this with rfl | rfl | rfl
        · exact d2
        · exact d3
        · exact d4)
    have hla1 := rc_letterAt (lt := lt) G hG hL (p := st + 1) (by omega)
    unfold ra_ns at hn
    rw [if_pos c112] at hn
    obtain ⟨hn1, hn0⟩ := hn
    rw [e, if_pos rfl, if_pos rfl, nI_1, hla1, Option.bind_some, rc_kindOf hlt, if_pos hk, Option.bind_some, hnum, Option.bind_some, hn1, hn0]
    generalize ra_nu L lt (st + 2) 3 = v at hv
    generalize ra_kd (ra_cd0 L lt (st + 1)) = k at hk
    by_cases c : v ≤ 240 ∧ γ 0 < 6 ∧ (γ 0 = 0 ∨ γ 3 < γ 0)
    · obtain ⟨cv, c6, co⟩ := c
      left
      have hok' : ra_ok (ra_un γ 0 (γ 0 + 1)) (ra_un κ (γ 0) k) (ra_un τ (γ 0) v) := ⟨c6, Nat.le_succ_of_le h1, h2, h3, h4, h5, h6, h7, h8, h9, fun j => by
          unfold ra_un
          split
          · omega
          · exact h10 j, fun j => by
          unfold ra_un
          split
          · exact cv
          · exact h11 j⟩
      refine ⟨ra_un γ 0 (γ 0 + 1), ra_un κ (γ 0) k, ra_un τ (γ 0) v, ?_, ?_, hok', h8'⟩
      · unfold f_X0_takePart
        by_cases z : γ 0 = 0
        · simp (disch := omega) only [↓reduceIte, ra_lit, ra_nf_ap, ra_st_lo, nI_add, nI_clamp, nI_ltI, nI_leI, nI_eq, Option.bind_some, if_true, if_false, not_false_eq_true, not_true_eq_false, ra_ltT, ra_ltF, ra_leT, ra_leF, ra_eqT, ra_eqF, or_false, false_or, or_true, true_or, and_true, true_and, and_false, false_and, ra_put, ra_upd]
          rfl
        · have ho : γ 3 < γ 0 := by omega
          rw [rc_isOff γ (by omega) (by omega), if_pos ho]
          simp (disch := omega) only [↓reduceIte, ra_lit, ra_nf_ap, ra_st_lo, nI_add, nI_clamp, nI_ltI, nI_leI, nI_eq, Option.bind_some, if_true, if_false, not_false_eq_true, not_true_eq_false, ra_ltT, ra_ltF, ra_leT, ra_leF, ra_eqT, ra_eqF, or_false, false_or, or_true, true_or, and_true, true_and, and_false, false_and, ra_put, ra_upd]
          rfl
      · have e16 : ∀ x : Nat, upd (ra_st γ κ τ) (10 + γ 0) (nI k) 0 = nI (γ 0) := fun _ => by
          rw [ra_st_uk _ _ _ c6, ra_st_lo _ _ _ (by decide)]
        have fin : (some ((upd (upd (ra_st γ κ τ) (10 + γ 0) (nI k)) (16 + γ 0) (nI v)) 0 + 1)).bind (fun v12 => some ((1 : Int32), upd (upd (upd (ra_st γ κ τ) (10 + γ 0) (nI k)) (16 + γ 0) (nI v)) 0 v12)) = some (nI 1, ra_st (ra_un γ 0 (γ 0 + 1)) (ra_un κ (γ 0) k) (ra_un τ (γ 0) v)) := by
          rw [ra_st_uk _ _ _ c6, ra_st_utE, ra_st_lo _ _ _ (by decide), nI_1, Option.bind_some, ra_st_u _ _ _ (by decide)]
          rfl
        have x10 : (10 + ra_st γ κ τ 0).toNatClampNeg = 10 + γ 0 := by
          rw [ra_st_lo _ _ _ (by decide)]
          show (nI 10 + nI (γ 0)).toNatClampNeg = _
          rw [nI_add, nI_clamp (by omega)]
        have i10 : ¬ (10 + ra_st γ κ τ 0 < 0 ∨ 22 ≤ (10 + ra_st γ κ τ 0).toNatClampNeg) := by
          rw [ra_st_lo _ _ _ (by decide)]
          show ¬ (nI 10 + nI (γ 0) < 0 ∨ 22 ≤ (nI 10 + nI (γ 0)).toNatClampNeg)
          rw [nI_add]
          exact nI_in (by omega) (by decide)
        have x16 : (16 + nI (γ 0)).toNatClampNeg = 16 + γ 0 := by
          show (nI 16 + nI (γ 0)).toNatClampNeg = _
          rw [nI_add, nI_clamp (by omega)]
        have i16 : ¬ (16 + nI (γ 0) < 0 ∨ 22 ≤ (16 + nI (γ 0)).toNatClampNeg) := by
          show ¬ (nI 16 + nI (γ 0) < 0 ∨ 22 ≤ (nI 16 + nI (γ 0)).toNatClampNeg)
          rw [nI_add]
          exact nI_in (by omega) (by decide)
        have body : (if ¬ (10 + ra_st γ κ τ 0 < 0 ∨ 22 ≤ (10 + ra_st γ κ τ 0).toNatClampNeg) then if ¬ ((16 + ((upd (ra_st γ κ τ) ((10 + ra_st γ κ τ 0).toNatClampNeg) (nI k)) 0)) < 0 ∨ 22 ≤ (16 + ((upd (ra_st γ κ τ) ((10 + ra_st γ κ τ 0).toNatClampNeg) (nI k)) 0)).toNatClampNeg) then (some (((upd (upd (ra_st γ κ τ) ((10 + ra_st γ κ τ 0).toNatClampNeg) (nI k)) ((16 + ((upd (ra_st γ κ τ) ((10 + ra_st γ κ τ 0).toNatClampNeg) (nI k)) 0)).toNatClampNeg) (nI v)) 0) + 1)).bind (fun (v12 : Int32) => some ((1 : Int32), (upd (upd (upd (ra_st γ κ τ) ((10 + ra_st γ κ τ 0).toNatClampNeg) (nI k)) ((16 + ((upd (ra_st γ κ τ) ((10 + ra_st γ κ τ 0).toNatClampNeg) (nI k)) 0)).toNatClampNeg) (nI v)) 0 v12))) else none else none) = some (nI 1, ra_st (ra_un γ 0 (γ 0 + 1)) (ra_un κ (γ 0) k) (ra_un τ (γ 0) v)) := by
          rw [if_pos i10, x10, e16 0, if_pos i16, x16]
          exact fin
        rw [if_neg (show ¬ (240 : Int32) < nI v from nI_nlt (a := 240) (b := v) cv (by decide))]
        have n6 : ¬ ra_st γ κ τ 0 = 6 := by
          rw [ra_st_lo _ _ _ (by decide)]
          exact fun z => by
            have := (nI_eq (b := 6) (by omega) (by decide)).mp z
            omega
        rw [if_neg n6]
        by_cases z : γ 0 = 0
        · rw [if_pos (show ra_st γ κ τ 0 ≤ 0 by rw [ra_st_lo _ _ _ (by decide)]; exact nI_le (b := 0) (by omega) (by decide))]
          exact body
        · rw [if_neg (show ¬ ra_st γ κ τ 0 ≤ 0 by rw [ra_st_lo _ _ _ (by decide)]; exact nI_nle (by omega) (by omega)), rr_isOff M' γ κ τ (by omega) (by omega), if_pos (show γ 3 < γ 0 by omega), Option.bind_some, if_pos (show nI 0 = 0 from rfl)]
          exact body
    · right
      refine ⟨ra_nf γ, ra_nf κ, ra_nf τ, ra_st γ κ τ, ?_, ?_⟩
      · unfold f_X0_takePart
        rw [rc_isOff γ (by omega) (by omega)]
        by_cases z : γ 0 = 0
        · simp (disch := omega) only [↓reduceIte, ra_lit, ra_nf_ap, ra_st_lo, nI_add, nI_clamp, nI_ltI, nI_leI, nI_eq, Option.bind_some, if_true, if_false, not_false_eq_true, not_true_eq_false, ra_ltT, ra_ltF, ra_leT, ra_leF, ra_eqT, ra_eqF, or_false, false_or, or_true, true_or, and_true, true_and, and_false, false_and]
          rfl
        · by_cases ho : γ 3 < γ 0
          · by_cases cv : 240 < v
            · simp (disch := omega) only [↓reduceIte, ra_lit, ra_nf_ap, ra_st_lo, nI_add, nI_clamp, nI_ltI, nI_leI, nI_eq, Option.bind_some, if_true, if_false, not_false_eq_true, not_true_eq_false, ra_ltT, ra_ltF, ra_leT, ra_leF, ra_eqT, ra_eqF, or_false, false_or, or_true, true_or, and_true, true_and, and_false, false_and, if_pos ho]
              rfl
            · simp (disch := omega) only [↓reduceIte, ra_lit, ra_nf_ap, ra_st_lo, nI_add, nI_clamp, nI_ltI, nI_leI, nI_eq, Option.bind_some, if_true, if_false, not_false_eq_true, not_true_eq_false, ra_ltT, ra_ltF, ra_leT, ra_leF, ra_eqT, ra_eqF, or_false, false_or, or_true, true_or, and_true, true_and, and_false, false_and, if_pos ho]
              rfl
          · by_cases cv : 240 < v
            · simp (disch := omega) only [↓reduceIte, ra_lit, ra_nf_ap, ra_st_lo, nI_add, nI_clamp, nI_ltI, nI_leI, nI_eq, Option.bind_some, if_true, if_false, not_false_eq_true, not_true_eq_false, ra_ltT, ra_ltF, ra_leT, ra_leF, ra_eqT, ra_eqF, or_false, false_or, or_true, true_or, and_true, true_and, and_false, false_and, if_neg ho]
              rfl
            · simp (disch := omega) only [↓reduceIte, ra_lit, ra_nf_ap, ra_st_lo, nI_add, nI_clamp, nI_ltI, nI_leI, nI_eq, Option.bind_some, if_true, if_false, not_false_eq_true, not_true_eq_false, ra_ltT, ra_ltF, ra_leT, ra_leF, ra_eqT, ra_eqF, or_false, false_or, or_true, true_or, and_true, true_and, and_false, false_and, if_neg ho]
              rfl
      · by_cases cv : 240 < v
        · rw [if_pos (show (240 : Int32) < nI v from nI_lt (a := 240) (b := v) cv (by omega))]
          rfl
        · rw [if_neg (show ¬ (240 : Int32) < nI v from nI_nlt (a := 240) (b := v) (by omega) (by decide))]
          by_cases c6 : γ 0 = 6
          · rw [if_pos (show ra_st γ κ τ 0 = 6 by rw [ra_st_lo _ _ _ (by decide), c6]; rfl)]
            rfl
          · rw [if_neg (show ¬ ra_st γ κ τ 0 = 6 by
              rw [ra_st_lo _ _ _ (by decide)]
              exact fun z => by
                have := (nI_eq (b := 6) (by omega) (by decide)).mp z
                omega)]
            rw [if_neg (show ¬ ra_st γ κ τ 0 ≤ 0 by rw [ra_st_lo _ _ _ (by decide)]; exact nI_nle (by omega) (by omega)), rr_isOff M' γ κ τ (by omega) (by omega), if_neg (show ¬ γ 3 < γ 0 by omega), Option.bind_some, if_neg (show ¬ nI 1 = 0 by decide)]
            rfl
  rw [if_neg (show ¬ ra_la L lt st = 112 from fun z => c112 ((ra_laI (v := 112) hlt (by decide) (by decide)).mp z)), if_neg (show ¬ ra_la L lt st = 112 from fun z => c112 ((ra_laI (v := 112) hlt (by decide) (by decide)).mp z))]
  by_cases c114 : ra_cd0 L lt st = 114
  · have hs : ra_sl (ra_cd0 L lt st) = 6 := by rw [c114]; rfl
    have e : ra_la L lt st = 114 := (ra_laI (v := 114) hlt (by decide) (by decide)).mpr c114
    have d1 := ra_okd hok (i := 1) (by omega) (by omega) (by omega)
    have d2 := ra_okd hok (i := 2) (by omega) (by omega) (by omega)
    have d3 := ra_okd hok (i := 3) (by omega) (by omega) (by omega)
    have d4 := ra_okd hok (i := 4) (by omega) (by omega) (by omega)
    have hv := ra_nu3 d1 d2 d3
    have hw := ra_nu1 d4
    have hnum : f_X2_numberAt (ra_nf G) (ra_nf lt) (nI st + 1) 3 = some (nI (ra_nu L lt (st + 1) 3)) := by
      rw [show nI st + 1 = nI (st + 1) from nI_add st 1, show (3 : Int32) = nI 3 from rfl]
      exact rc_num G hG hL hlt (p := st + 1) (dg := 3) (by omega) (by decide) (fun i hi => by
        have : i = 0 ∨ i = 1 ∨ i = 2 := by omega
        rcases this with rfl | rfl | rfl
        · exact d1
        · exact d2
        · exact d3)
    have hnum2 : f_X2_numberAt (ra_nf G) (ra_nf lt) (nI st + 4) 1 = some (nI (ra_nu L lt (st + 4) 1)) := by
      rw [show nI st + 4 = nI (st + 4) from nI_add st 4, show (1 : Int32) = nI 1 from rfl]
      exact rc_num G hG hL hlt (p := st + 4) (dg := 1) (by omega) (by decide) (fun i hi => by
        have : i = 0 := by omega
        rcases this with rfl
        exact d4)
    unfold ra_ns at hn
    rw [if_neg (by omega), if_pos c114] at hn
    obtain ⟨hn0, hn1⟩ := hn
    generalize ra_nu L lt (st + 1) 3 = v at hn0 hv hnum
    generalize ra_nu L lt (st + 4) 1 = w at hn1 hw hnum2
    rw [e, if_pos rfl, if_pos rfl, hnum, Option.bind_some, rc_ts0 (by omega), hn0, hn1]
    have hin : f_X3_isIn (nI v) 100 250 = some (nI (if 100 ≤ v ∧ v ≤ 250 then 1 else 0)) := rr_isIn (by omega) (lo := 100) (hi := 250) (by decide) (by decide)
    rw [hin, Option.bind_some]
    by_cases c : 100 ≤ v ∧ v ≤ 250
    · rw [if_pos c, if_pos c, Option.bind_some, if_neg (show ¬ nI 1 = 0 by decide), if_neg (show ¬ nI 1 = 0 by decide), hnum2, Option.bind_some, rc_ts1 (by omega)]
      by_cases c1 : 1 ≤ w ∧ w ≤ 9
      · left
        refine ⟨ra_un (ra_un γ 1 v) 2 w, κ, τ, ?_, ?_, ⟨h0, h1, c.1, c.2, c1.1, c1.2, h6, h7, h8, h9, h10, h11⟩, h8'⟩
        · rw [if_pos c1, Option.bind_some, if_neg (show ¬ nI 1 = 0 by decide)]
          rfl
        · rw [if_neg (nI_nle (by omega) (by omega)), ra_st_u _ _ _ (by decide), ra_st_u _ _ _ (by decide)]
          rfl
      · right
        refine ⟨ra_nf (ra_un γ 1 v), ra_nf κ, ra_nf τ, upd (upd (ra_st γ κ τ) 1 (nI v)) 2 (nI w), ?_, ?_⟩
        · rw [if_neg c1, Option.bind_some, if_pos (show nI 0 = 0 from rfl)]
          rfl
        · rw [if_pos (show nI w ≤ (0 : Int32) from nI_le (a := w) (b := 0) (by omega) (by decide))]
          rfl
    · rw [if_neg c, if_neg c, Option.bind_some, if_pos (show nI 0 = 0 from rfl), if_pos (show nI 0 = 0 from rfl)]
      right
      exact ⟨_, _, _, _, rfl, rfl⟩
  rw [if_neg (show ¬ ra_la L lt st = 114 from fun z => c114 ((ra_laI (v := 114) hlt (by decide) (by decide)).mp z)), if_neg (show ¬ ra_la L lt st = 114 from fun z => c114 ((ra_laI (v := 114) hlt (by decide) (by decide)).mp z))]
  by_cases c115 : ra_cd0 L lt st = 115
  · have hs : ra_sl (ra_cd0 L lt st) = 4 := by rw [c115]; rfl
    have e : ra_la L lt st = 115 := (ra_laI (v := 115) hlt (by decide) (by decide)).mpr c115
    have d1 := ra_okd hok (i := 1) (by omega) (by omega) (by omega)
    have d2 := ra_okd hok (i := 2) (by omega) (by omega) (by omega)
    have hv := ra_nu2 d1 d2
    have hnum : f_X2_numberAt (ra_nf G) (ra_nf lt) (nI st + 1) 2 = some (nI (ra_nu L lt (st + 1) 2)) := by
      rw [show nI st + 1 = nI (st + 1) from nI_add st 1, show (2 : Int32) = nI 2 from rfl]
      exact rc_num G hG hL hlt (p := st + 1) (dg := 2) (by omega) (by decide) (fun i hi => by
        have : i = 0 ∨ i = 1 := by omega
        rcases this with rfl | rfl
        · exact d1
        · exact d2)
    unfold ra_ns at hn
    rw [if_neg (by omega), if_neg (by omega), hs] at hn
    have hn : nums 0 = nI (ra_nu L lt (st + 1) 2) := hn
    generalize ra_nu L lt (st + 1) 2 = v at hn hv hnum
    rw [e, if_pos rfl, if_pos rfl, hnum, Option.bind_some, rc_ts2 (by omega), hn]
    by_cases c : v ≤ 30
    · left
      refine ⟨ra_un γ 4 v, κ, τ, ?_, ?_, ⟨h0, h1, h2, h3, h4, h5, c, h7, h8, h9, h10, h11⟩, h8'⟩
      · rw [if_pos c, Option.bind_some, if_pos ra_bb1]
      · rw [if_neg (show ¬ (30 : Int32) < nI v from nI_nlt (a := 30) (b := v) c (by decide)), ra_st_u _ _ _ (by decide)]
        rfl
    · right
      refine ⟨ra_nf γ, ra_nf κ, ra_nf τ, upd (ra_st γ κ τ) 4 (nI v), ?_, ?_⟩
      · rw [if_neg c, Option.bind_some, if_pos ra_bb0]
      · rw [if_pos (show (30 : Int32) < nI v from nI_lt (a := 30) (b := v) (by omega) (by omega))]
        rfl
  rw [if_neg (show ¬ ra_la L lt st = 115 from fun z => c115 ((ra_laI (v := 115) hlt (by decide) (by decide)).mp z)), if_neg (show ¬ ra_la L lt st = 115 from fun z => c115 ((ra_laI (v := 115) hlt (by decide) (by decide)).mp z))]
  by_cases c116 : ra_cd0 L lt st = 116
  · have hs : ra_sl (ra_cd0 L lt st) = 3 := by rw [c116]; rfl
    have e : ra_la L lt st = 116 := (ra_laI (v := 116) hlt (by decide) (by decide)).mpr c116
    have d1 := ra_okd hok (i := 1) (by omega) (by omega) (by omega)
    have hv := ra_nu1 d1
    have hnum : f_X2_numberAt (ra_nf G) (ra_nf lt) (nI st + 1) 1 = some (nI (ra_nu L lt (st + 1) 1)) := by
      rw [show nI st + 1 = nI (st + 1) from nI_add st 1, show (1 : Int32) = nI 1 from rfl]
      exact rc_num G hG hL hlt (p := st + 1) (dg := 1) (by omega) (by decide) (fun i hi => by
        have : i = 0 := by omega
        rcases this with rfl
        exact d1)
    unfold ra_ns at hn
    rw [if_neg (by omega), if_neg (by omega), hs] at hn
    have hn : nums 0 = nI (ra_nu L lt (st + 1) 1) := hn
    generalize ra_nu L lt (st + 1) 1 = v at hn hv hnum
    have hmi := ra_mi_le v
    rw [e, if_pos rfl, if_pos rfl, hnum, Option.bind_some, hn]
    unfold f_X0_takeTry
    rw [rc_isTry (by omega), rc_isOff γ (by omega) (by omega), rr_isOff M' γ κ τ (by omega) (by omega)]
    by_cases c7 : v < 7
    · rw [if_pos c7, Option.bind_some, if_neg (show ¬ nI 1 = 0 by decide), if_neg (show ¬ (7 : Int32) ≤ nI v from nI_ge (b := 7) (a := v) c7 (by decide))]
      by_cases ho : γ 3 < γ 0
      · rw [if_pos ho, Option.bind_some, Option.bind_some, if_pos (show nI 0 = 0 from rfl), if_pos (show nI 0 = 0 from rfl), ra_at _ (by omega) (by decide), Option.bind_some, ra_a2 v c7, rc_hasMin γ (by omega) (by omega), Option.bind_some, ra_miR (by omega), Option.bind_some, ra_st_lo _ _ _ (by decide), nI_add]
        by_cases cm : γ 8 + ra_mi v ≤ 999
        · rw [if_pos cm, if_neg (show ¬ nI 1 = 0 by decide), rc_attempt h c7 ho, Option.bind_some, if_pos (show nI (γ 8 + ra_mi v) ≤ (999 : Int32) from nI_le (a := γ 8 + ra_mi v) (b := 999) cm (by decide)), rr_tried h c7 ho]
          left
          refine ⟨ra_tr γ κ τ v, κ, τ, ra_fin1 _ _ _, rfl, ra_tr_ok h ho, ?_⟩
          unfold ra_tr
          split
          · exact cm
          · exact cm
        · rw [if_neg cm, if_pos (show nI 0 = 0 from rfl), if_neg (show ¬ nI (γ 8 + ra_mi v) ≤ (999 : Int32) from nI_ge (b := γ 8 + ra_mi v) (a := 999) (by omega) (by omega))]
          right
          exact ⟨_, _, _, _, ra_fin0 _ _ _, rfl⟩
      · rw [if_neg ho, Option.bind_some, Option.bind_some, if_neg (show ¬ nI 1 = 0 by decide), if_neg (show ¬ nI 1 = 0 by decide)]
        right
        exact ⟨_, _, _, _, ra_fin0 _ _ _, rfl⟩
    · rw [if_neg c7, Option.bind_some, if_pos (show nI 0 = 0 from rfl), if_pos (show (7 : Int32) ≤ nI v from nI_le (a := 7) (b := v) (by omega) (by omega))]
      right
      exact ⟨_, _, _, _, ra_fin0 _ _ _, rfl⟩
  rw [if_neg (show ¬ ra_la L lt st = 116 from fun z => c116 ((ra_laI (v := 116) hlt (by decide) (by decide)).mp z)), if_neg (show ¬ ra_la L lt st = 116 from fun z => c116 ((ra_laI (v := 116) hlt (by decide) (by decide)).mp z))]
  have c119 : ra_cd0 L lt st = 119 := by
    have hp := hok.1
    unfold ra_sl at hp
    rw [if_neg c99, if_neg c104, if_neg c112, if_neg c114, if_neg c115, if_neg c116] at hp
    by_cases c : ra_cd0 L lt st = 119
    · exact c
    · rw [if_neg c] at hp
      omega
  have hs : ra_sl (ra_cd0 L lt st) = 4 := by rw [c119]; rfl
  have e : ra_la L lt st = 119 := (ra_laI (v := 119) hlt (by decide) (by decide)).mpr c119
  have d1 := ra_okd hok (i := 1) (by omega) (by omega) (by omega)
  have d2 := ra_okd hok (i := 2) (by omega) (by omega) (by omega)
  have hv := ra_nu2 d1 d2
  have hnum : f_X2_numberAt (ra_nf G) (ra_nf lt) (nI st + 1) 2 = some (nI (ra_nu L lt (st + 1) 2)) := by
    rw [show nI st + 1 = nI (st + 1) from nI_add st 1, show (2 : Int32) = nI 2 from rfl]
    exact rc_num G hG hL hlt (p := st + 1) (dg := 2) (by omega) (by decide) (fun i hi => by
      have : i = 0 ∨ i = 1 := by omega
      rcases this with rfl | rfl
      · exact d1
      · exact d2)
  unfold ra_ns at hn
  rw [if_neg (by omega), if_neg (by omega), hs] at hn
  have hn : nums 0 = nI (ra_nu L lt (st + 1) 2) := hn
  generalize ra_nu L lt (st + 1) 2 = v at hn hv hnum
  rw [e, if_pos rfl, hnum, Option.bind_some, hn]
  unfold f_X0_takeWait
  have hin : f_X3_isIn (nI v) 1 60 = some (nI (if 1 ≤ v ∧ v ≤ 60 then 1 else 0)) := rr_isIn (by omega) (lo := 1) (hi := 60) (by decide) (by decide)
  rw [hin, Option.bind_some]
  by_cases c1 : v < 1
  · rw [if_pos (show nI v < (1 : Int32) from nI_lt (a := v) (b := 1) c1 (by decide)), if_neg (show ¬ (1 ≤ v ∧ v ≤ 60) by omega), if_pos (show nI 0 = 0 from rfl)]
    right
    exact ⟨_, _, _, _, ra_fin0 _ _ _, rfl⟩
  rw [if_neg (show ¬ nI v < (1 : Int32) from nI_nlt (a := v) (b := 1) (by omega) (by omega))]
  by_cases c60 : 60 < v
  · rw [if_pos (show (60 : Int32) < nI v from nI_lt (a := 60) (b := v) c60 (by omega)), if_neg (show ¬ (1 ≤ v ∧ v ≤ 60) by omega), if_pos (show nI 0 = 0 from rfl)]
    right
    exact ⟨_, _, _, _, ra_fin0 _ _ _, rfl⟩
  rw [if_neg (show ¬ (60 : Int32) < nI v from nI_nlt (a := 60) (b := v) (by omega) (by decide)), rc_hasMin γ (by omega) (by omega), Option.bind_some, if_pos (show 1 ≤ v ∧ v ≤ 60 by omega), if_neg (show ¬ nI 1 = 0 by decide), ra_st_lo _ _ _ (by decide), nI_add]
  by_cases cm : γ 8 + v ≤ 999
  · rw [if_pos cm, if_neg (show ¬ nI 1 = 0 by decide), rc_rest (by omega) h6 h7 h8, Option.bind_some, if_pos (show nI (γ 8 + v) ≤ (999 : Int32) from nI_le (a := γ 8 + v) (b := 999) cm (by decide)), rr_waits (by omega) h6 h7 h8]
    left
    exact ⟨ra_wt γ v, κ, τ, ra_fin1 _ _ _, rfl, ra_wt_ok h, cm⟩
  · rw [if_neg cm, if_pos (show nI 0 = 0 from rfl), if_neg (show ¬ nI (γ 8 + v) ≤ (999 : Int32) from nI_ge (b := γ 8 + v) (a := 999) (by omega) (by omega))]
    right
    exact ⟨_, _, _, _, ra_fin0 _ _ _, rfl⟩
end
end RAHand2
end
section
/-! all of a hand -/
section RAHand3
section
variable {L : Nat} {lt : Nat → Nat}
set_option maxRecDepth 100000 in
theorem ra_f92 : ∀ p, p < 200 → ¬ (-2000 : Int32) - nI p = -9 := by decide
theorem ra_P2 (G : Nat → Nat) (hG : G 0 = L) (hL : L ≤ 96) (hlt : ∀ j, lt j ≤ 255) (ng nk nt rd : Nat → Int32) (x1' : Int32) : ∀ (d st n m m' : Nat) (x1 : Int32) (M : Nat → Nat) (nums : Nat → Int32) (γ κ τ : Nat → Nat), st ≤ L → L - st ≤ d → n ≤ st → d < m → d + 1 < m' → M 1 = L → M 3 = st → ra_ch L lt d st → ra_ok γ κ τ → γ 8 ≤ 999 →
    (∃ r a b c M' nums', M' 0 = M 0 ∧ M' 1 = M 1 ∧ M' 2 = M 2 ∧ M' 6 = M 6 ∧ ¬ r = -9 ∧ f_X2_takeStatements_L17 (ra_nf G) (ra_nf lt) ng nk nt m x1 (nI st) (nI n) (ra_nf γ) (ra_nf κ) (ra_nf τ) = some (Sum.inl (r, ng, nk, nt, a, b, c)) ∧ f_X3_hand_L62 (ra_nf lt) x1' rd m' (-9) (ra_nf M) (ra_st γ κ τ) nums = some (r, ra_nf M', rd, nums')) ∨
    (∃ y z γ' κ' τ' M' nums', M' 0 = M 0 ∧ M' 1 = M 1 ∧ M' 2 = M 2 ∧ M' 6 = M 6 ∧ f_X2_takeStatements_L17 (ra_nf G) (ra_nf lt) ng nk nt m x1 (nI st) (nI n) (ra_nf γ) (ra_nf κ) (ra_nf τ) = some (Sum.inr (x1 + nI (ra_nc L lt d st), y, z, ra_nf γ', ra_nf κ', ra_nf τ')) ∧ f_X3_hand_L62 (ra_nf lt) x1' rd m' (-9) (ra_nf M) (ra_st γ κ τ) nums = some (-9, ra_nf M', ra_st γ' κ' τ', nums') ∧ ra_ok γ' κ' τ' ∧ γ' 8 ≤ 999) := by
  have hdone : ∀ (d st n m m' : Nat) (x1 : Int32) (M : Nat → Nat) (nums : Nat → Int32) (γ κ τ : Nat → Nat), L ≤ st → st < 1000 → 0 < m → 0 < m' → M 1 = L → M 3 = st →
      (∃ y z, f_X2_takeStatements_L17 (ra_nf G) (ra_nf lt) ng nk nt m x1 (nI st) (nI n) (ra_nf γ) (ra_nf κ) (ra_nf τ) = some (Sum.inr (x1, y, z, ra_nf γ, ra_nf κ, ra_nf τ))) ∧ f_X3_hand_L62 (ra_nf lt) x1' rd m' (-9) (ra_nf M) (ra_st γ κ τ) nums = some (-9, ra_nf M, ra_st γ κ τ, nums) := by
    intro d st n m m' x1 M nums γ κ τ h1 h2 hm hm' hM h3
    obtain ⟨m, rfl⟩ : ∃ q, m = q + 1 := ⟨m - 1, by omega⟩
    obtain ⟨m', rfl⟩ : ∃ q, m' = q + 1 := ⟨m' - 1, by omega⟩
    constructor
    · rw [f_X2_takeStatements_L17]
      by_cases c : (96 : Int32) ≤ nI n
      · rw [if_pos c]
        exact ⟨_, _, rfl⟩
      · rw [if_neg c, if_pos (show ra_nf G 0 ≤ nI st by rw [ra_nf_ap, hG]; exact nI_le h1 (by omega))]
        exact ⟨_, _, rfl⟩
    · rw [f_X3_hand_L62, if_pos rfl, if_pos (show ra_nf M 1 ≤ ra_nf M 3 by rw [ra_nf_ap, ra_nf_ap, hM, h3]; exact nI_le h1 (by omega))]
  intro d
  induction d with
  | zero =>
    intro st n m m' x1 M nums γ κ τ h1 h2 h3 hm hm' hM hM3 hch h h8
    right
    obtain ⟨⟨y, z, e1⟩, e2⟩ := hdone 0 st n m m' x1 M nums γ κ τ (by omega) (by omega) (by omega) (by omega) hM hM3
    refine ⟨y, z, γ, κ, τ, M, nums, rfl, rfl, rfl, rfl, ?_, e2, h, h8⟩
    rw [e1]
    show some (Sum.inr (x1, _)) = some (Sum.inr (x1 + nI 0, _))
    rw [show x1 + nI 0 = x1 from Int32.add_zero x1]
  | succ d ih =>
    intro st n m m' x1 M nums γ κ τ h1 h2 h3 hm hm' hM hM3 hch h h8
    by_cases cL : L ≤ st
    · right
      obtain ⟨⟨y, z, e1⟩, e2⟩ := hdone (d + 1) st n m m' x1 M nums γ κ τ cL (by omega) (by omega) (by omega) hM hM3
      refine ⟨y, z, γ, κ, τ, M, nums, rfl, rfl, rfl, rfl, ?_, e2, h, h8⟩
      rw [e1, ra_nc, if_pos cL]
      show some (Sum.inr (x1, _)) = some (Sum.inr (x1 + nI 0, _))
      rw [show x1 + nI 0 = x1 from Int32.add_zero x1]
    · rcases hch with hch | ⟨hok, hch⟩
      · exact absurd hch cL
      obtain ⟨m, rfl⟩ : ∃ q, m = q + 1 := ⟨m - 1, by omega⟩
      obtain ⟨m', rfl⟩ : ∃ q, m' = q + 1 := ⟨m' - 1, by omega⟩
      have hle := ra_ok1_lt hlt (by omega) hok
      have hs := ra_sl_le (ra_cd0 L lt st)
      have hp := hok.1
      have k1 : ¬ (96 : Int32) ≤ nI n := nI_ge (b := 96) (by omega) (by decide)
      have k2 : ¬ ra_nf G 0 ≤ nI st := by
        rw [ra_nf_ap, hG]
        exact nI_ge (by omega) (by omega)
      have k3 : ¬ ra_nf M 1 ≤ ra_nf M 3 := by
        rw [ra_nf_ap, ra_nf_ap, hM, hM3]
        exact nI_ge (by omega) (by omega)
      rcases rr_stmt hL hlt (st := st) (by omega) M nums hM hM3 with ⟨z, nums', e⟩ | ⟨z, hz⟩
      · omega
      · rcases hz with ⟨z1, nums', e⟩ | ⟨z1, nums', e, hns⟩
        · have := hok.2
          omega
        · have hh := rr_here (lt := lt) M hM hL hM3 (by omega)
          have hla := rc_letterAt (lt := lt) G hG hL (p := st) (by omega)
          rcases ra_take G (ra_un M 3 (st + ra_sl (ra_cd0 L lt st))) hG hL hlt (st := st) (by omega) h h8 hok nums' hns with ⟨γ', κ', τ', t1, t2, t3, t4⟩ | ⟨a, b, c, s', t1, t2⟩
          · have hA : f_X2_takeStatements_L17 (ra_nf G) (ra_nf lt) ng nk nt (m + 1) x1 (nI st) (nI n) (ra_nf γ) (ra_nf κ) (ra_nf τ) = f_X2_takeStatements_L17 (ra_nf G) (ra_nf lt) ng nk nt m (x1 + 1) (nI (st + ra_sl (ra_cd0 L lt st))) (nI (n + 1)) (ra_nf γ') (ra_nf κ') (ra_nf τ') := by
              rw [f_X2_takeStatements_L17, if_neg k1, if_neg k2, t1, Option.bind_some, if_neg (show ¬ nI 1 = 0 by decide), Option.bind_some, hla, Option.bind_some, rc_sl hlt, Option.bind_some, nI_add, Option.bind_some, nI_1, Option.bind_some]
            have hB : f_X3_hand_L62 (ra_nf lt) x1' rd (m' + 1) (-9) (ra_nf M) (ra_st γ κ τ) nums = f_X3_hand_L62 (ra_nf lt) x1' rd m' (-9) (ra_nf (ra_un M 3 (st + ra_sl (ra_cd0 L lt st)))) (ra_st γ' κ' τ') nums' := by
              rw [f_X3_hand_L62, if_pos rfl, if_neg k3, Option.bind_some, hh, Option.bind_some, e, Option.bind_some, t2, Option.bind_some, if_neg (show ¬ nI 1 = 0 by decide)]
            rw [hA, hB]
            have hnc : ra_nc L lt (d + 1) st = 1 + ra_nc L lt d (st + ra_sl (ra_cd0 L lt st)) := by
              rw [ra_nc, if_neg cL]
            rcases ih (st + ra_sl (ra_cd0 L lt st)) (n + 1) m m' (x1 + 1) (ra_un M 3 (st + ra_sl (ra_cd0 L lt st))) nums' γ' κ' τ' hle (by omega) (by omega) (by omega) (by omega) hM rfl hch t3 t4 with ⟨r, a, b, c, M', nums2, q1, q2, q3, q4, q5, q6, q7⟩ | ⟨y, z, γ2, κ2, τ2, M', nums2, q1, q2, q3, q4, q5, q6, q7, q8⟩
            · exact Or.inl ⟨r, a, b, c, M', nums2, q1, q2, q3, q4, q5, q6, q7⟩
            · refine Or.inr ⟨y, z, γ2, κ2, τ2, M', nums2, q1, q2, q3, q4, ?_, q6, q7, q8⟩
              have ee : x1 + 1 + nI (ra_nc L lt d (st + ra_sl (ra_cd0 L lt st))) = x1 + nI (ra_nc L lt (d + 1) st) := by
                rw [hnc, ← nI_add, ← Int32.add_assoc]
                rfl
              rw [q5, ee]
          · left
            obtain ⟨m', rfl⟩ : ∃ q, m' = q + 1 := ⟨m' - 1, by omega⟩
            have e9 := ra_f92 st (by omega)
            refine ⟨-2000 - nI st, a, b, c, ra_un M 3 (st + ra_sl (ra_cd0 L lt st)), nums', rfl, rfl, rfl, rfl, e9, ?_, ?_⟩
            · rw [f_X2_takeStatements_L17, if_neg k1, if_neg k2, t1, Option.bind_some, if_pos (show nI 0 = 0 from rfl)]
            · rw [f_X3_hand_L62, if_pos rfl, if_neg k3, Option.bind_some, hh, Option.bind_some, e, Option.bind_some, t2, Option.bind_some, if_pos (show nI 0 = 0 from rfl), Option.bind_some, rr_lays, Option.bind_some, ra_nf_ap, hM3, f_X3_hand_L62, if_neg e9]
theorem tm_hand {γ κ τ : Nat → Nat} (G M : Nat → Nat) (hG : G 0 = L) (hM : M 1 = L) (hL : L ≤ 96) (hlt : ∀ j, lt j ≤ 255) (h : ra_ok γ κ τ) (h8 : γ 8 ≤ 999) (ta tb tc rd nums : Nat → Int32) :
    ∃ r γ' κ' τ' a b c M' rd' nums', f_X2_hand (ra_nf G) (ra_nf γ) (ra_nf κ) (ra_nf τ) ta tb tc (ra_nf lt) = some (r, ra_nf (ra_un G 0 0), ra_nf γ', ra_nf κ', ra_nf τ', a, b, c) ∧ f_X3_hand (ra_nf M) (ra_st γ κ τ) rd (ra_nf lt) nums = some (r, ra_nf (ra_un M' 1 0), ra_st γ' κ' τ', rd', nums') ∧ M' 0 = M 0 ∧ M' 2 = M 2 ∧ ra_ok γ' κ' τ' ∧ γ' 8 ≤ 999 := by
  have hz : upd (ra_nf G) 0 0 = ra_nf (ra_un G 0 0) := ra_upd G 0 0
  have hm3 : upd (ra_nf M) 3 0 = ra_nf (ra_un M 3 0) := ra_upd M 3 0
  have hfi : ∀ (r : Int32) (s : Nat → Int32) (M' : Nat → Nat) (nums' : Nat → Int32) (f1 : Nat) (x : Int32), ¬ r = -9 → 0 < f1 → f_X3_hand_L62 (ra_nf lt) x s f1 r (ra_nf M') s nums' = some (r, ra_nf M', s, nums') := by
    intro r s M' nums' f1 x hr hf
    obtain ⟨f1, rfl⟩ : ∃ q, f1 = q + 1 := ⟨f1 - 1, by omega⟩
    rw [f_X3_hand_L62, if_neg hr]
  unfold f_X2_hand f_X3_hand f_X2_formFault
  rw [hz, hm3]
  by_cases c0 : L = 0
  · have hfu : ∃ q, rf_fu = q + 1 := ⟨19999, rfl⟩
    obtain ⟨q, hq⟩ := hfu
    have hs0 : ra_sl (ra_cd0 L lt 0) = 0 := by
      unfold ra_cd0
      rw [if_neg (by omega)]
      rfl
    rcases rr_stmt hL hlt (st := 0) (by omega) (ra_un M 3 0) nums hM rfl with ⟨z, nums', e⟩ | ⟨z, hz⟩
    · have e9 := ra_f9 0 (by omega)
      have hA : f_X3_hand_L10 (ra_nf lt) (ra_st γ κ τ) rd rf_fu 0 (-9) (ra_nf (ra_un M 3 0)) nums = some (0 + 1, -1000 - nI 0, ra_nf (ra_un (ra_un M 3 0) 3 0), nums') := by
        have e3 : (-1000 : Int32) - ra_nf (ra_un (ra_un M 3 0) 3 0) 3 = (-1000) - nI 0 := by rw [ra_nf_ap, ra_us]
        have e10 : ¬ (-1000 : Int32) - ra_nf (ra_un (ra_un M 3 0) 3 0) 3 = -9 := by
          rw [e3]
          exact e9
        rw [hq, f_X3_hand_L10, e, Option.bind_some, if_pos (show nI 0 = 0 from rfl), Option.bind_some, Option.bind_some, if_neg e10, e3]
      rw [hA, Option.bind_some, rr_lays, Option.bind_some]
      have hu : upd (ra_nf (ra_un (ra_un M 3 0) 3 0)) 3 0 = ra_nf (ra_un (ra_un (ra_un M 3 0) 3 0) 3 0) := ra_upd _ 3 0
      have hB := hfi (-1000 - nI 0) (ra_st γ κ τ) (ra_un (ra_un (ra_un M 3 0) 3 0) 3 0) nums' rf_fu (0 + 1) e9 (by unfold rf_fu; omega)
      refine ⟨-1000 - nI 0, γ, κ, τ, ta, tb, tc, ra_un (ra_un (ra_un M 3 0) 3 0) 3 0, ra_st γ κ τ, nums', ?_, ?_, rfl, rfl, h, h8⟩
      · rw [if_pos (show ra_nf G 0 = 0 by rw [ra_nf_ap, hG, c0]; rfl), Option.bind_some, if_neg (by decide)]
        rfl
      · show (f_X3_hand_L62 (ra_nf lt) (0 + 1) (ra_st γ κ τ) rf_fu (-1000 - nI 0) (upd (ra_nf (ra_un (ra_un M 3 0) 3 0)) 3 0) (ra_st γ κ τ) nums').bind _ = _
        rw [hu, hB, Option.bind_some, if_neg e9]
        show some (-1000 - nI 0, upd (ra_nf (ra_un (ra_un (ra_un M 3 0) 3 0) 3 0)) 1 (nI 0), _) = _
        rw [ra_upd]
    · omega
  · rw [if_neg (show ¬ ra_nf G 0 = 0 by rw [ra_nf_ap, hG]; exact nI_ne0 (by omega) (by omega))]
    rcases ra_P1 (lt := lt) G hG hL hlt (ra_st γ κ τ) rd L 0 0 rf_fu rf_fu 0 (ra_un M 3 0) nums (by omega) (by omega) (by omega) (by unfold rf_fu; omega) (by unfold rf_fu; omega) hM rfl with ⟨p, y, M', nums', q1, q2, q3, q4, q5, q6, q7⟩ | ⟨y, M', nums', q2, q3, q4, q5, q6, q7, q8⟩
    · have e9 := ra_f9 p q1
      have q6 : f_X2_formFault_L13 (ra_nf G) (ra_nf lt) rf_fu 0 0 = _ := q6
      have hu : upd (ra_nf M') 3 0 = ra_nf (ra_un M' 3 0) := ra_upd _ 3 0
      have hB := hfi (-1000 - nI p) (ra_st γ κ τ) (ra_un M' 3 0) nums' rf_fu y e9 (by unfold rf_fu; omega)
      refine ⟨-1000 - nI p, γ, κ, τ, ta, tb, tc, ra_un M' 3 0, ra_st γ κ τ, nums', ?_, ?_, q2, q4, h, h8⟩
      · rw [q6]
        show (if nI p < 0 then _ else (some (-1000 - nI p)).bind _) = _
        rw [if_neg (nI_pos (by omega))]
        rfl
      · rw [q7, Option.bind_some, rr_lays, Option.bind_some]
        show (f_X3_hand_L62 (ra_nf lt) y (ra_st γ κ τ) rf_fu (-1000 - nI p) (upd (ra_nf M') 3 0) (ra_st γ κ τ) nums').bind _ = _
        rw [hu, hB, Option.bind_some, if_neg e9]
        show some (-1000 - nI p, upd (ra_nf (ra_un M' 3 0)) 1 (nI 0), _) = _
        rw [ra_upd]
    · have q7 : f_X2_formFault_L13 (ra_nf G) (ra_nf lt) rf_fu 0 0 = _ := q7
      have hu : upd (ra_nf M') 3 0 = ra_nf (ra_un M' 3 0) := ra_upd _ 3 0
      have hff : ∀ {β : Type} (A B : Option β), ((((f_X2_formFault_L13 (ra_nf G) (ra_nf lt) rf_fu 0 0).bind fun (q16 : (Int32) ⊕ (Int32 × Int32)) => rf_sum q16 (fun r => some r) (fun (x17 : Int32 × Int32) => some (-1))).bind fun (q1 : Int32) => if q1 < 0 then A else B) = A) := by
        intro β A B
        rw [q7]
        show (if (-1 : Int32) < 0 then A else B) = A
        rw [if_pos (by decide)]
      unfold f_X2_takeStatements
      rw [rc_copy, Option.bind_some]
      rcases ra_P2 (lt := lt) G hG hL hlt (ra_nf γ) (ra_nf κ) (ra_nf τ) (ra_st γ κ τ) (0 + nI (ra_nc L lt L 0)) L 0 0 rf_fu rf_fu 0 (ra_un M' 3 0) nums' γ κ τ (by omega) (by omega) (by omega) (by unfold rf_fu; omega) (by unfold rf_fu; omega) (q3.trans hM) rfl q6 h h8 with ⟨r, a, b, c, M2, nums2, w1, w2, w3, w4, w5, w6, w7⟩ | ⟨y2, z2, γ', κ', τ', M2, nums2, w1, w2, w3, w4, w5, w6, w7, w8⟩
      · have w6 : f_X2_takeStatements_L17 (ra_nf G) (ra_nf lt) (ra_nf γ) (ra_nf κ) (ra_nf τ) rf_fu 0 0 0 (ra_nf γ) (ra_nf κ) (ra_nf τ) = _ := w6
        refine ⟨r, γ, κ, τ, a, b, c, M2, ra_st γ κ τ, nums2, ?_, ?_, w1.trans q2, w3.trans q4, h, h8⟩
        · rw [w6, q7]
          rfl
        · rw [q8, Option.bind_some, rr_lays, Option.bind_some]
          show (f_X3_hand_L62 (ra_nf lt) (0 + nI (ra_nc L lt L 0)) (ra_st γ κ τ) rf_fu (-9) (upd (ra_nf M') 3 0) (ra_st γ κ τ) nums').bind _ = _
          rw [hu, w7, Option.bind_some, if_neg w5]
          show some (r, upd (ra_nf M2) 1 (nI 0), _) = _
          rw [ra_upd]
      · have w5 : f_X2_takeStatements_L17 (ra_nf G) (ra_nf lt) (ra_nf γ) (ra_nf κ) (ra_nf τ) rf_fu 0 0 0 (ra_nf γ) (ra_nf κ) (ra_nf τ) = _ := w5
        refine ⟨0 + nI (ra_nc L lt L 0), γ', κ', τ', ra_nf γ', ra_nf κ', ra_nf τ', M2, ra_st γ κ τ, nums2, ?_, ?_, w1.trans q2, w3.trans q4, w7, w8⟩
        · rw [w5, q7]
          rfl
        · rw [q8, Option.bind_some, rr_lays, Option.bind_some]
          show (f_X3_hand_L62 (ra_nf lt) (0 + nI (ra_nc L lt L 0)) (ra_st γ κ τ) rf_fu (-9) (upd (ra_nf M') 3 0) (ra_st γ κ τ) nums').bind _ = _
          rw [hu, w6, Option.bind_some, if_pos rfl]
          show some (0 + nI (ra_nc L lt L 0), upd (ra_nf M2) 1 (nI 0), _) = _
          rw [ra_upd]
end
end RAHand3
end
section
/-! ways off: a place is (front, threads, swell, cold); a try or a wait (7) goes from one to another at a cost -/
abbrev rd_X : Type := Nat × Nat × Nat × Nat
section RDist
abbrev rd_b (γ κ τ : Nat → Nat) (a : Nat) (x : rd_X) : Prop := ra_tk (κ x.1) (τ x.1) x.2.2.1 (ra_cd a x.2.2.2) (γ 7) ≤ γ 1 + ra_al a (γ 2)
def rd_st (γ κ τ : Nat → Nat) (a : Nat) (x : rd_X) : rd_X :=
  if a = 7 then (x.1, x.2.1, x.2.2.1 - 2, x.2.2.2 - 1)
  else (x.1 + (if rd_b γ κ τ a x then 1 else 0), (if a = 5 then x.2.1 + 1 else x.2.1), min 30 (x.2.2.1 + ra_sw a), ra_cd a x.2.2.2)
def rd_al (a : Nat) (x : rd_X) : Prop := a ≤ 7 ∧ ¬ (a = 5 ∧ x.2.1 = 2)
def rd_c (h : Bool) (a : Nat) : Nat := if a = 7 then (if h then 0 else 5) else if h then ra_hm a else ra_mi a
theorem rd_c_pos {h : Bool} {a : Nat} (ha : a ≠ 7) : 1 ≤ rd_c h a := by
  unfold rd_c
  rw [if_neg ha]
  split
  · exact (ra_hm_le a).1
  · exact (ra_mi_le a).1
theorem rd_c_le (h : Bool) (a : Nat) : rd_c h a ≤ 8 := by
  unfold rd_c
  split
  · split <;> omega
  · split
    · have := ra_hm_le a; omega
    · exact (ra_mi_le a).2
def rd_go (γ κ τ : Nat → Nat) : List Nat → rd_X → rd_X → Prop
  | [], x, y => x = y
  | a :: l, x, y => x.1 < γ 0 ∧ rd_al a x ∧ rd_go γ κ τ l (rd_st γ κ τ a x) y
def rd_cs (h : Bool) : List Nat → Nat
  | [] => 0
  | a :: l => rd_c h a + rd_cs h l
/-- from x it can be off at cost t -/
def rd_off (γ κ τ : Nat → Nat) (h : Bool) (x : rd_X) (t : Nat) : Prop := ∃ l y, rd_go γ κ τ l x y ∧ γ 0 ≤ y.1 ∧ rd_cs h l = t
/-- from x one comes to y at cost t -/
def rd_rc (γ κ τ : Nat → Nat) (h : Bool) (x y : rd_X) (t : Nat) : Prop := ∃ l, rd_go γ κ τ l x y ∧ rd_cs h l = t
def rd_best (γ κ τ : Nat → Nat) (h : Bool) (x : rd_X) (L : Nat) (r : Int32) : Prop :=
  (∃ t, t ≤ L ∧ r = nI t ∧ rd_off γ κ τ h x t ∧ ∀ t', t' < t → ¬ rd_off γ κ τ h x t') ∨ (r = -9 ∧ ∀ t, t ≤ L → ¬ rd_off γ κ τ h x t)
theorem rd_best_eq {γ κ τ : Nat → Nat} {h : Bool} {x : rd_X} {L : Nat} {r r' : Int32} (h1 : rd_best γ κ τ h x L r) (h2 : rd_best γ κ τ h x L r') : r = r' := by
  rcases h1 with ⟨t, a1, a2, a3, a4⟩ | ⟨a1, a2⟩
  · rcases h2 with ⟨t', b1, b2, b3, b4⟩ | ⟨b1, b2⟩
    · have e : t = t' := by
        rcases Nat.lt_trichotomy t t' with z | z | z
        · exact absurd a3 (b4 t z)
        · exact z
        · exact absurd b3 (a4 t' z)
      rw [a2, b2, e]
    · exact absurd a3 (b2 t a1)
  · rcases h2 with ⟨t', b1, b2, b3, b4⟩ | ⟨b1, b2⟩
    · exact absurd b3 (a2 t' b1)
    · rw [a1, b1]
def rd_bd (pa : Nat) (x : rd_X) : Prop := x.1 ≤ pa ∧ x.2.1 ≤ 2 ∧ x.2.2.1 ≤ 30 ∧ x.2.2.2 ≤ 20
theorem rd_st_bd {γ κ τ : Nat → Nat} {a : Nat} {x : rd_X} (hx : rd_bd (γ 0) x) (hp : x.1 < γ 0) (ha : rd_al a x) : rd_bd (γ 0) (rd_st γ κ τ a x) := by
  obtain ⟨h1, h2, h3, h4⟩ := hx
  unfold rd_st
  split
  · exact ⟨h1, h2, by show x.2.2.1 - 2 ≤ 30; omega, by show x.2.2.2 - 1 ≤ 20; omega⟩
  · refine ⟨?_, ?_, ?_, ?_⟩
    · show x.1 + (if rd_b γ κ τ a x then 1 else 0) ≤ γ 0
      split <;> omega
    · show (if a = 5 then x.2.1 + 1 else x.2.1) ≤ 2
      split
      · rename_i e
        have : ¬ x.2.1 = 2 := fun z => ha.2 ⟨e, z⟩
        omega
      · exact h2
    · show min 30 (x.2.2.1 + ra_sw a) ≤ 30
      omega
    · exact (ra_cd_le h4).1
theorem rd_go_app {γ κ τ : Nat → Nat} : ∀ (l : List Nat) (x y : rd_X) (a : Nat), rd_go γ κ τ l x y → y.1 < γ 0 → rd_al a y → rd_go γ κ τ (l ++ [a]) x (rd_st γ κ τ a y) := by
  intro l
  induction l with
  | nil =>
    intro x y a h hy ha
    have h : x = y := h
    subst h
    exact ⟨hy, ha, rfl⟩
  | cons b l ih =>
    intro x y a h hy ha
    exact ⟨h.1, h.2.1, ih _ _ _ h.2.2 hy ha⟩
theorem rd_cs_app (h : Bool) (l : List Nat) (a : Nat) : rd_cs h (l ++ [a]) = rd_cs h l + rd_c h a := by
  induction l with
  | nil => show rd_c h a + 0 = 0 + rd_c h a; omega
  | cons b l ih =>
    show rd_c h b + rd_cs h (l ++ [a]) = rd_c h b + rd_cs h l + rd_c h a
    rw [ih]
    omega
theorem rd_rc_0 {γ κ τ : Nat → Nat} {h : Bool} (x : rd_X) : rd_rc γ κ τ h x x 0 := ⟨[], rfl, rfl⟩
theorem rd_rc_s {γ κ τ : Nat → Nat} {h : Bool} {x y : rd_X} {t a : Nat} (hr : rd_rc γ κ τ h x y t) (hy : y.1 < γ 0) (ha : rd_al a y) : rd_rc γ κ τ h x (rd_st γ κ τ a y) (t + rd_c h a) := by
  obtain ⟨l, h1, h2⟩ := hr
  exact ⟨l ++ [a], rd_go_app l x y a h1 hy ha, by rw [rd_cs_app, h2]⟩
theorem rd_rc_off {γ κ τ : Nat → Nat} {h : Bool} {x y : rd_X} {t : Nat} (hr : rd_rc γ κ τ h x y t) (hy : γ 0 ≤ y.1) : rd_off γ κ τ h x t := by
  obtain ⟨l, h1, h2⟩ := hr
  exact ⟨l, y, h1, hy, h2⟩
def rd_e (x : rd_X) : Nat := ((x.2.2.1 * 21 + x.2.2.2) * 7 + x.1) * 3 + x.2.1
def rd_d (r : Nat) : rd_X := (r / 3 % 7, r % 3, r / 441, r / 21 % 21)
theorem rd_de {pa : Nat} (hp : pa ≤ 6) {x : rd_X} (h : rd_bd pa x) : rd_d (rd_e x) = x ∧ rd_e x < 13671 := by
  obtain ⟨fr, th, sw, co⟩ := x
  obtain ⟨h1, h2, h3, h4⟩ := h
  simp only at h1 h2 h3 h4
  have e1 : rd_e (fr, th, sw, co) = ((sw * 21 + co) * 7 + fr) * 3 + th := rfl
  unfold rd_d
  rw [e1]
  refine ⟨?_, by omega⟩
  have a1 : (((sw * 21 + co) * 7 + fr) * 3 + th) / 3 % 7 = fr := by omega
  have a2 : (((sw * 21 + co) * 7 + fr) * 3 + th) % 3 = th := by omega
  have a3 : (((sw * 21 + co) * 7 + fr) * 3 + th) / 441 = sw := by omega
  have a4 : (((sw * 21 + co) * 7 + fr) * 3 + th) / 21 % 21 = co := by omega
  rw [a1, a2, a3, a4]
theorem rd_ed (r : Nat) (h : r < 13671) : rd_e (rd_d r) = r ∧ rd_bd 6 (rd_d r) := by
  refine ⟨?_, ?_⟩
  · show ((r / 441 * 21 + r / 21 % 21) * 7 + r / 3 % 7) * 3 + r % 3 = r
    omega
  · refine ⟨?_, ?_, ?_, ?_⟩
    · show r / 3 % 7 ≤ 6
      omega
    · show r % 3 ≤ 2
      omega
    · show r / 441 ≤ 30
      omega
    · show r / 21 % 21 ≤ 20
      omega
theorem rd_e_inj {pa : Nat} (hp : pa ≤ 6) {x y : rd_X} (hx : rd_bd pa x) (hy : rd_bd pa y) (e : rd_e x = rd_e y) : x = y := by
  rw [← (rd_de hp hx).1, ← (rd_de hp hy).1, e]
/-- all places below T gone on from: every way is seen -/
theorem rd_all {γ κ τ : Nat → Nat} {h : Bool} {c : Nat → Nat} {T : Nat} (hE : ∀ x : rd_X, rd_bd (γ 0) x → c (rd_e x) < T → x.1 < γ 0 ∧ ∀ a, rd_al a x → c (rd_e (rd_st γ κ τ a x)) ≤ c (rd_e x) + rd_c h a) :
    ∀ (l : List Nat) (x y : rd_X) (c0 : Nat), rd_bd (γ 0) x → c (rd_e x) ≤ c0 → rd_go γ κ τ l x y → c0 + rd_cs h l < T → rd_bd (γ 0) y ∧ c (rd_e y) ≤ c0 + rd_cs h l := by
  intro l
  induction l with
  | nil =>
    intro x y c0 hx hc hr ht
    have hr : x = y := hr
    subst hr
    exact ⟨hx, hc⟩
  | cons a l ih =>
    intro x y c0 hx hc hr ht
    obtain ⟨h1, h2, h3⟩ := hr
    have ht' : c0 + (rd_c h a + rd_cs h l) < T := ht
    obtain ⟨hlt, hex⟩ := hE x hx (by omega)
    have hz1 := hex a h2
    have := ih _ y (c0 + rd_c h a) (rd_st_bd hx hlt h2) (by omega) h3 (by omega)
    refine ⟨this.1, ?_⟩
    show c (rd_e y) ≤ c0 + (rd_c h a + rd_cs h l)
    omega
theorem rr_roomOf (a b c d : Nat) : f_X3_roomOf (nI a) (nI b) (nI c) (nI d) = some (nI (((a * 21 + b) * 7 + c) * 3 + d)) := by
  unfold f_X3_roomOf
  simp (disch := omega) only [ra_lit, pk_mul, nI_add]
theorem rr_costOf {h : Bool} {a : Nat} (ha : a < 8) : f_X3_costOf (nI a) (nI (if h then 1 else 0)) = some (nI (rd_c h a)) := by
  unfold f_X3_costOf rd_c
  by_cases e : a = 7
  · subst e
    cases h <;> rfl
  · cases h with
    | false =>
      have e0 : (if (false = true) then 1 else 0 : Nat) = 0 := rfl
      rw [e0]
      simp (disch := omega) only [↓reduceIte, ra_lit, ra_nf_ap, ra_st_lo, nI_add, nI_clamp, nI_ltI, nI_leI, nI_eq, Option.bind_some, if_true, if_false, not_false_eq_true, not_true_eq_false, ra_ltT, ra_ltF, ra_leT, ra_leF, ra_eqT, ra_eqF, or_false, false_or, or_true, true_or, and_true, true_and, and_false, false_and, ra_miR, Bool.false_eq_true]
    | true =>
      have e0 : (if (true = true) then 1 else 0 : Nat) = 1 := rfl
      rw [e0]
      simp (disch := omega) only [↓reduceIte, ra_lit, ra_nf_ap, ra_st_lo, nI_add, nI_clamp, nI_ltI, nI_leI, nI_eq, Option.bind_some, if_true, if_false, not_false_eq_true, not_true_eq_false, ra_ltT, ra_ltF, ra_leT, ra_leF, ra_eqT, ra_eqF, or_false, false_or, or_true, true_or, and_true, true_and, and_false, false_and, ra_hmR]
theorem rr_roomBy {γ κ τ : Nat → Nat} (M : Nat → Nat) (h : ra_ok γ κ τ) {x : rd_X} (hx : rd_bd (γ 0) x) (hlt : x.1 < γ 0) {a : Nat} (ha : a < 8) :
    (rd_al a x ∧ f_X3_roomBy (ra_nf M) (ra_st γ κ τ) (nI (rd_e x)) (nI a) = some (nI (rd_e (rd_st γ κ τ a x)))) ∨ (¬ rd_al a x ∧ f_X3_roomBy (ra_nf M) (ra_st γ κ τ) (nI (rd_e x)) (nI a) = some (-nI 9)) := by
  obtain ⟨h0, h1', h2', h3', h4', h5, h6, h7, h8, h9, h10, h11⟩ := id h
  obtain ⟨hde, hlt2⟩ := rd_de h0 hx
  obtain ⟨fr, th, sw, co⟩ := x
  obtain ⟨h1, h2, h3, h4⟩ := hx
  simp only at h1 h2 h3 h4 hlt
  have d1 : rd_e (fr, th, sw, co) / 3 % 7 = fr := congrArg (fun z : rd_X => z.1) hde
  have d2 : rd_e (fr, th, sw, co) % 3 = th := congrArg (fun z : rd_X => z.2.1) hde
  have d3 : rd_e (fr, th, sw, co) / 441 = sw := congrArg (fun z : rd_X => z.2.2.1) hde
  have d4 : rd_e (fr, th, sw, co) / 21 % 21 = co := congrArg (fun z : rd_X => z.2.2.2) hde
  generalize rd_e (fr, th, sw, co) = r at d1 d2 d3 d4 hlt2
  have q3 : (nI r / 3 : Int32) = nI (r / 3) := pk_div (d := 3) (by omega) (by decide) (by decide)
  have q21 : (nI r / 21 : Int32) = nI (r / 21) := pk_div (d := 21) (by omega) (by decide) (by decide)
  have q441 : (nI r / 441 : Int32) = nI (r / 441) := pk_div (d := 441) (by omega) (by decide) (by decide)
  have e1 : rf_rem (nI r) 3 = nI th := by
    rw [← d2]
    exact pk_rem (d := 3) (by omega) (by decide) (by decide)
  have e2 : rf_rem (nI r / 3) 7 = nI fr := by
    rw [q3, ← d1]
    exact pk_rem (d := 7) (by omega) (by decide) (by decide)
  have e3 : rf_rem (nI r / 21) 21 = nI co := by
    rw [q21, ← d4]
    exact pk_rem (d := 21) (by omega) (by decide) (by decide)
  have e4 : (nI r / 441 : Int32) = nI sw := by rw [q441, d3]
  have hsw := ra_sw_le a
  have hcd := ra_cd_le (k := a) h4
  unfold f_X3_roomBy
  rw [e1, e2, e3, e4]
  simp only [Option.bind_some]
  by_cases c7 : a = 7
  · subst c7
    left
    refine ⟨⟨by omega, fun z => by omega⟩, ?_⟩
    rw [if_pos (show nI 7 = 7 from rfl), ra_most, ra_most, show rf_max 0 (nI sw - 2) = nI (sw - 2) from ra_mx (b := 2) (by omega) (by decide), show rf_max 0 (nI co - 1) = nI (co - 1) from ra_mx (b := 1) (by omega) (by decide), Option.bind_some, Option.bind_some, rr_roomOf]
    rfl
  · have n7 : ¬ nI a = 7 := fun z => c7 ((nI_eq (b := 7) (by omega) (by decide)).mp z)
    have hov := rr_over (g := M) h (k := a) (j := fr) (sw := sw) (co := co) (by omega) (by omega) h3 h4
    have hst : rd_st γ κ τ a (fr, th, sw, co) = (fr + (if rd_b γ κ τ a (fr, th, sw, co) then 1 else 0), (if a = 5 then th + 1 else th), min 30 (sw + ra_sw a), ra_cd a co) := by
      unfold rd_st
      rw [if_neg c7]
    have hend : ∀ f2 t2 : Nat, (f_X3_swellsBy (nI a)).bind (fun (q10 : Int32) => (f_X3_least 30 (nI sw + q10)).bind fun (q11 : Int32) => (f_X3_coldBy (nI a) (nI co)).bind fun (q12 : Int32) => (f_X3_roomOf q11 q12 (nI f2) (nI t2)).bind fun (q15 : Int32) => some q15) = some (nI (rd_e (f2, t2, min 30 (sw + ra_sw a), ra_cd a co))) := by
      intro f2 t2
      rw [ra_swR (by omega), Option.bind_some, ra_least, nI_add, show rf_min 30 (nI (sw + ra_sw a)) = nI (min 30 (sw + ra_sw a)) from ra_mnn (a := 30) (by decide) (by omega), Option.bind_some, ra_cdR (by omega) (by omega), Option.bind_some, rr_roomOf]
      rfl
    have f0 : (nI fr + 0 : Int32) = nI (fr + 0) := nI_add fr 0
    have f1 : (nI fr + 1 : Int32) = nI (fr + 1) := nI_add fr 1
    have t0 : (nI th + 0 : Int32) = nI (th + 0) := nI_add th 0
    have t1 : (nI th + 1 : Int32) = nI (th + 1) := nI_add th 1
    rw [if_neg n7, hov]
    simp only [Option.bind_some]
    by_cases c5 : a = 5
    · subst c5
      rw [if_pos (show nI 5 = 5 from rfl)]
      by_cases ct : th = 2
      · subst ct
        right
        refine ⟨fun z => z.2 ⟨rfl, rfl⟩, ?_⟩
        rw [if_pos (show nI 2 = 2 from rfl)]
        rfl
      · have nt : ¬ nI th = 2 := fun z => ct ((nI_eq (b := 2) (by omega) (by decide)).mp z)
        left
        refine ⟨⟨by omega, fun z => ct z.2⟩, ?_⟩
        rw [if_neg nt, hst]
        by_cases o : rd_b γ κ τ 5 (fr, th, sw, co)
        · simp only [if_pos o]
          rw [if_neg (show ¬ nI 1 = 0 by decide), f1]
          simp only [Option.bind_some, if_pos (show nI 5 = 5 from rfl), t1]
          exact hend (fr + 1) (th + 1)
        · simp only [if_neg o]
          rw [if_pos (show nI 0 = 0 from rfl), f0]
          simp only [Option.bind_some, if_pos (show nI 5 = 5 from rfl), t1]
          exact hend (fr + 0) (th + 1)
    · have n5 : ¬ nI a = 5 := fun z => c5 ((nI_eq (b := 5) (by omega) (by decide)).mp z)
      left
      refine ⟨⟨by omega, fun z => c5 z.1⟩, ?_⟩
      rw [if_neg n5, hst]
      by_cases o : rd_b γ κ τ a (fr, th, sw, co)
      · simp only [if_pos o]
        rw [if_neg (show ¬ nI 1 = 0 by decide), f1]
        simp only [Option.bind_some, if_neg n5, t0, if_neg c5]
        exact hend (fr + 1) (th + 0)
      · simp only [if_neg o]
        rw [if_pos (show nI 0 = 0 from rfl), f0]
        simp only [Option.bind_some, if_neg n5, t0, if_neg c5]
        exact hend (fr + 0) (th + 0)
end RDist
end
section
/-! the reference's row of costs comes to the least -/
section RRef
variable {γ κ τ : Nat → Nat}
theorem rr_L89 (M : Nat → Nat) (h : ra_ok γ κ τ) (p1 p2 : Int32) {hb : Bool} {x : rd_X} (hx : rd_bd (γ 0) x) (hlt : x.1 < γ 0) {t : Nat} (ht : t ≤ 1000) :
    ∀ (d a n : Nat) (c : Nat → Nat), a + d = 8 → d < n → (∀ q, q < 13671 → c q ≤ 1000000000) → ∃ c' : Nat → Nat, f_X3_leastFrom_L89 (ra_nf M) (ra_st γ κ τ) p1 p2 (nI (if hb then 1 else 0)) (nI t) (nI (rd_e x)) n (nI a) (ra_nf c) = some (nI 8, ra_nf c') ∧ (∀ q, c' q ≤ c q) ∧ (∀ b, a ≤ b → rd_al b x → c' (rd_e (rd_st γ κ τ b x)) ≤ t + rd_c hb b) ∧ (∀ q, c' q = c q ∨ ∃ b, rd_al b x ∧ rd_e (rd_st γ κ τ b x) = q ∧ c' q = t + rd_c hb b) := by
  intro d
  induction d with
  | zero =>
    intro a n c had hn hC
    obtain ⟨n, rfl⟩ : ∃ m, n = m + 1 := ⟨n - 1, by omega⟩
    obtain rfl : a = 8 := by omega
    refine ⟨c, ?_, fun q => Nat.le_refl _, fun b h1 h2 => by have := h2.1; omega, fun q => Or.inl rfl⟩
    rw [f_X3_leastFrom_L89, if_pos (by decide)]
  | succ d ih =>
    intro a n c had hn hC
    obtain ⟨n, rfl⟩ : ∃ m, n = m + 1 := ⟨n - 1, by omega⟩
    have ha : a < 8 := by omega
    have c0 : ¬ (7 : Int32) < nI a := nI_nlt (b := a) (a := 7) (by omega) (by decide)
    rw [f_X3_leastFrom_L89, if_neg c0]
    rcases rr_roomBy M h hx hlt ha with ⟨hal, hr⟩ | ⟨hal, hr⟩
    · have hyb := rd_st_bd (κ := κ) (τ := τ) hx hlt hal
      obtain ⟨-, hy2⟩ := rd_de h.1 hyb
      have hc8 := rd_c_le hb a
      have hCy := hC _ hy2
      obtain ⟨c', h1, h3, h4, h5⟩ := ih (a + 1) n (ra_un c (rd_e (rd_st γ κ τ a x)) (min (c (rd_e (rd_st γ κ τ a x))) (t + rd_c hb a))) (by omega) (by omega) (fun q hq => by
        unfold ra_un
        split
        · omega
        · exact hC q hq)
      generalize hy : rd_st γ κ τ a x = y at hr hyb hy2 hCy h1 h3 h4 h5 ⊢
      have c2 : ¬ (nI (rd_e y) < 0 ∨ 13671 ≤ (nI (rd_e y)).toNatClampNeg) := nI_in (N := 13671) hy2 (by decide)
      have c3 : (nI (rd_e y)).toNatClampNeg = rd_e y := nI_clamp (by omega)
      refine ⟨c', ?_, fun q => ?_, fun b b1 b2 => ?_, fun q => ?_⟩
      · rw [hr, Option.bind_some, if_neg (nI_pos (by omega)), if_pos c2, rr_costOf ha, Option.bind_some, c3, ra_nf_ap, ra_least, nI_add, ra_mnn (by omega) (by omega), Option.bind_some]
        rw [c3] at c2
        rw [if_pos c2, ra_upd, nI_1]
        exact h1
      · have := h3 q
        unfold ra_un at this
        split at this
        · rename_i e
          rw [e] at this ⊢
          omega
        · exact this
      · by_cases e : b = a
        · subst e
          rw [hy]
          have := h3 (rd_e y)
          unfold ra_un at this
          rw [if_pos rfl] at this
          omega
        · exact h4 b (by omega) b2
      · rcases h5 q with z | z
        · unfold ra_un at z
          by_cases e : q = rd_e y
          · rw [if_pos e] at z
            by_cases hm : c (rd_e y) ≤ t + rd_c hb a
            · left
              rw [z, e]
              omega
            · right
              exact ⟨a, hal, by rw [hy, e], by rw [z]; omega⟩
          · rw [if_neg e] at z
            exact Or.inl z
        · exact Or.inr z
    · obtain ⟨c', h1, h3, h4, h5⟩ := ih (a + 1) n c (by omega) (by omega) hC
      refine ⟨c', ?_, h3, fun b b1 b2 => ?_, h5⟩
      · rw [hr, Option.bind_some, if_pos (by decide), Option.bind_some, nI_1]
        exact h1
      · by_cases e : b = a
        · subst e
          exact absurd b2 hal
        · exact h4 b (by omega) b2
def rd_I (γ κ τ : Nat → Nat) (h : Bool) (x0 : rd_X) (t n : Nat) (c : Nat → Nat) : Prop :=
  (∀ q, q < 13671 → c q ≤ 1000000000) ∧ (∀ x, rd_bd (γ 0) x → c (rd_e x) < 1000000000 → rd_rc γ κ τ h x0 x (c (rd_e x))) ∧
  (∀ x, rd_bd (γ 0) x → (c (rd_e x) < t ∨ (c (rd_e x) = t ∧ n ≤ rd_e x)) → x.1 < γ 0 ∧ ∀ a, rd_al a x → c (rd_e (rd_st γ κ τ a x)) ≤ c (rd_e x) + rd_c h a) ∧ c (rd_e x0) = 0 ∧ ∀ q, q < 13671 → γ 0 < (rd_d q).1 → c q = 1000000000
theorem rd_e_wait {pa : Nat} {x : rd_X} (hx : rd_bd pa x) : rd_e (x.1, x.2.1, x.2.2.1 - 2, x.2.2.2 - 1) ≤ rd_e x := by
  show (((x.2.2.1 - 2) * 21 + (x.2.2.2 - 1)) * 7 + x.1) * 3 + x.2.1 ≤ ((x.2.2.1 * 21 + x.2.2.2) * 7 + x.1) * 3 + x.2.1
  omega
theorem rr_L47 (M : Nat → Nat) (h : ra_ok γ κ τ) (p1 p2 : Int32) {hb : Bool} {x0 : rd_X} (hx0 : rd_bd (γ 0) x0) {t : Nat} (ht : t ≤ 1000) :
    ∀ (n m : Nat) (c : Nat → Nat), n ≤ 13671 → n < m → rd_I γ κ τ hb x0 t n c →
    (∃ c', f_X3_leastFrom_L47 (ra_nf M) (ra_st γ κ τ) p1 p2 (nI (if hb then 1 else 0)) (nI t) m (ra_te n) (ra_nf c) = some (Sum.inl (nI t, ra_nf c')) ∧ rd_off γ κ τ hb x0 t ∧ ∀ t', t' < t → ¬ rd_off γ κ τ hb x0 t') ∨
    (∃ y c', f_X3_leastFrom_L47 (ra_nf M) (ra_st γ κ τ) p1 p2 (nI (if hb then 1 else 0)) (nI t) m (ra_te n) (ra_nf c) = some (Sum.inr (y, ra_nf c')) ∧ rd_I γ κ τ hb x0 t 0 c') := by
  intro n
  induction n with
  | zero =>
    intro m c hn hm hI
    obtain ⟨m, rfl⟩ : ∃ q, m = q + 1 := ⟨m - 1, by omega⟩
    right
    refine ⟨ra_te 0, c, ?_, hI⟩
    rw [f_X3_leastFrom_L47, if_pos (by decide)]
  | succ n ih =>
    intro m c hn hm hI
    obtain ⟨m, rfl⟩ : ∃ q, m = q + 1 := ⟨m - 1, by omega⟩
    obtain ⟨hC, hS, hE, hz, hN⟩ := id hI
    have h6 := h.1
    obtain ⟨hed, hbd6⟩ := rd_ed n (by omega)
    have k1 : ¬ nI n < 0 := nI_pos (by omega)
    have k2 : ¬ (nI n < 0 ∨ 13671 ≤ (nI n).toNatClampNeg) := nI_in (N := 13671) (by omega) (by decide)
    have k3 : (nI n).toNatClampNeg = n := nI_clamp (by omega)
    have hcn := hC n (by omega)
    rw [f_X3_leastFrom_L47, ra_te_s, if_neg k1, if_pos k2, k3, ra_nf_ap]
    by_cases cn : c n = t
    · have q3 : (nI n / 3 : Int32) = nI (n / 3) := pk_div (d := 3) (by omega) (by decide) (by decide)
      have e2 : rf_rem (nI n / 3) 7 = nI (n / 3 % 7) := by
        rw [q3]
        exact pk_rem (d := 7) (by omega) (by decide) (by decide)
      rw [if_pos (show nI (c n) = nI t by rw [cn]), e2, Option.bind_some, ra_st_lo _ _ _ (by decide)]
      have hfr : (rd_d n).1 = n / 3 % 7 := rfl
      by_cases cf : n / 3 % 7 = γ 0
      · rw [if_pos (show nI (n / 3 % 7) = nI (γ 0) by rw [cf])]
        left
        have hbd : rd_bd (γ 0) (rd_d n) := ⟨by rw [hfr]; omega, hbd6.2⟩
        have hr := hS (rd_d n) hbd (by rw [hed]; omega)
        rw [hed, cn] at hr
        refine ⟨c, rfl, rd_rc_off hr (by rw [hfr]; omega), ?_⟩
        intro t' ht' hoff
        obtain ⟨l, y, g1, g2, g3⟩ := hoff
        have := rd_all (h := hb) (c := c) (T := t) (fun x hx hlt => hE x hx (Or.inl hlt)) l x0 y 0 hx0 (by omega) g1 (by omega)
        have h2 := (hE y this.1 (Or.inl (by omega))).1
        omega
      · have hneq : ¬ nI (n / 3 % 7) = nI (γ 0) := fun z => cf ((nI_eq (by omega) (by omega)).mp z)
        rw [if_neg hneq]
        by_cases cb : n / 3 % 7 ≤ γ 0
        · have hbd : rd_bd (γ 0) (rd_d n) := ⟨by rw [hfr]; exact cb, hbd6.2⟩
          have hlt : (rd_d n).1 < γ 0 := by rw [hfr]; omega
          obtain ⟨c', h1, h2, h3, h4⟩ := rr_L89 (hb := hb) M h p1 p2 hbd hlt ht 8 0 rf_fu c rfl (by unfold rf_fu; omega) hC
          rw [hed] at h1
          have h1 : f_X3_leastFrom_L89 (ra_nf M) (ra_st γ κ τ) p1 p2 (nI (if hb then 1 else 0)) (nI t) (nI n) rf_fu 0 (ra_nf c) = _ := h1
          rw [h1, Option.bind_some, ra_te_p, Option.bind_some]
          have hle : ∀ q, c q ≤ t → c' q = c q := fun q hq => by
            rcases h4 q with z | ⟨b, b1, b2, b3⟩
            · exact z
            · have := h2 q
              omega
          have hr0 := hS (rd_d n) hbd (by rw [hed]; omega)
          rw [hed, cn] at hr0
          refine ih m c' (by omega) (by omega) ⟨fun q hq => Nat.le_trans (h2 q) (hC q hq), ?_, ?_, ?_, ?_⟩
          · intro x hx hlt9
            rcases h4 (rd_e x) with z | ⟨b, b1, b2, b3⟩
            · rw [z] at hlt9 ⊢
              exact hS x hx hlt9
            · have hyb := rd_st_bd (κ := κ) (τ := τ) hbd hlt b1
              have ex := rd_e_inj h6 hyb hx b2
              rw [b3, ← ex]
              exact rd_rc_s hr0 hlt b1
          · intro x hx hcase
            have hcx : c (rd_e x) ≤ t ∧ (c (rd_e x) < t ∨ n ≤ rd_e x) ∧ c' (rd_e x) = c (rd_e x) := by
              rcases h4 (rd_e x) with z | ⟨b, b1, b2, b3⟩
              · rw [z] at hcase
                rcases hcase with z1 | ⟨z1, z2⟩
                · exact ⟨by omega, Or.inl z1, z⟩
                · exact ⟨by omega, Or.inr z2, z⟩
              · have h8 := rd_c_le hb b
                have hle2 := h2 (rd_e x)
                rcases hcase with z1 | ⟨z1, z2⟩
                · omega
                · have hc0 : rd_c hb b = 0 := by omega
                  have b7 : b = 7 := by
                    by_cases e : b = 7
                    · exact e
                    · have := rd_c_pos (h := hb) e
                      omega
                  subst b7
                  have hw := rd_e_wait hbd
                  have hst : rd_st γ κ τ 7 (rd_d n) = ((rd_d n).1, (rd_d n).2.1, (rd_d n).2.2.1 - 2, (rd_d n).2.2.2 - 1) := by
                    unfold rd_st
                    rw [if_pos rfl]
                  rw [hst] at b2
                  rw [b2, hed] at hw
                  have en : rd_e x = n := by omega
                  rw [en] at z1 ⊢
                  exact ⟨by omega, Or.inr (by omega), by omega⟩
            obtain ⟨z1, z2, z3⟩ := hcx
            by_cases en : rd_e x = n
            · have ex : x = rd_d n := by
                rw [← (rd_de h6 hx).1, en]
              rw [ex]
              refine ⟨hlt, fun a ha => ?_⟩
              have := h3 a (Nat.zero_le _) ha
              rw [hed, hle n (by omega), cn]
              exact this
            · have hE' := hE x hx (by
                rcases z2 with z2 | z2
                · exact Or.inl z2
                · by_cases e1 : c (rd_e x) < t
                  · exact Or.inl e1
                  · exact Or.inr ⟨by omega, by omega⟩)
              refine ⟨hE'.1, fun a ha => ?_⟩
              rw [z3]
              exact Nat.le_trans (h2 _) (hE'.2 a ha)
          · rw [hle _ (by omega)]
            exact hz
          · intro q hq hq2
            rcases h4 q with z | ⟨b, b1, b2, b3⟩
            · rw [z]
              exact hN q hq hq2
            · have hyb := rd_st_bd (κ := κ) (τ := τ) hbd hlt b1
              have := (rd_de h6 hyb).1
              rw [b2] at this
              rw [this] at hq2
              have := hyb.1
              omega
        · have := hN n (by omega) (by rw [hfr]; omega)
          omega
    · have hneq : ¬ nI (c n) = nI t := fun z => cn ((nI_eq (by omega) (by omega)).mp z)
      rw [if_neg hneq, ra_te_p, Option.bind_some]
      refine ih m c (by omega) (by omega) ⟨hC, hS, fun x hx hcase => ?_, hz, hN⟩
      refine hE x hx ?_
      rcases hcase with z | ⟨z1, z2⟩
      · exact Or.inl z
      · right
        refine ⟨z1, ?_⟩
        by_cases en : rd_e x = n
        · rw [en] at z1
          exact absurd z1 cn
        · omega
theorem rr_L36 (M : Nat → Nat) (h : ra_ok γ κ τ) (p1 : Int32) {hb : Bool} {x0 : rd_X} (hx0 : rd_bd (γ 0) x0) {lim : Nat} (hl : lim ≤ 200) :
    ∀ (d t m : Nat) (c : Nat → Nat), t + d = lim + 1 → d < m → rd_I γ κ τ hb x0 t 13671 c →
    (∃ t0 c', f_X3_leastFrom_L36 (ra_nf M) (ra_st γ κ τ) p1 (nI lim) (nI (if hb then 1 else 0)) m (nI t) (ra_nf c) = some (Sum.inl (nI t0, ra_nf c')) ∧ t0 ≤ lim ∧ rd_off γ κ τ hb x0 t0 ∧ ∀ t', t' < t0 → ¬ rd_off γ κ τ hb x0 t') ∨
    (∃ y c', f_X3_leastFrom_L36 (ra_nf M) (ra_st γ κ τ) p1 (nI lim) (nI (if hb then 1 else 0)) m (nI t) (ra_nf c) = some (Sum.inr (y, ra_nf c')) ∧ ∀ t', t' ≤ lim → ¬ rd_off γ κ τ hb x0 t') := by
  intro d
  induction d with
  | zero =>
    intro t m c ht hm hI
    obtain ⟨m, rfl⟩ : ∃ q, m = q + 1 := ⟨m - 1, by omega⟩
    obtain rfl : t = lim + 1 := by omega
    right
    refine ⟨nI (lim + 1), c, ?_, ?_⟩
    · rw [f_X3_leastFrom_L36, if_pos (nI_lt (by omega) (by omega))]
    · intro t' ht' hoff
      obtain ⟨hC, hS, hE, hz, hN⟩ := hI
      obtain ⟨l, y, g1, g2, g3⟩ := hoff
      have := rd_all (h := hb) (c := c) (T := lim + 1) (fun x hx hlt => hE x hx (Or.inl hlt)) l x0 y 0 hx0 (by omega) g1 (by omega)
      have h2 := (hE y this.1 (Or.inl (by omega))).1
      omega
  | succ d ih =>
    intro t m c ht hm hI
    obtain ⟨m, rfl⟩ : ∃ q, m = q + 1 := ⟨m - 1, by omega⟩
    have k1 : ¬ nI lim < nI t := nI_nlt (by omega) (by omega)
    rcases rr_L47 (hb := hb) M h p1 (nI lim) hx0 (t := t) (by omega) 13671 rf_fu c (Nat.le_refl _) (by unfold rf_fu; omega) hI with ⟨c', e1, e2, e3⟩ | ⟨y, c', e1, e2⟩
    · left
      have e1 : f_X3_leastFrom_L47 (ra_nf M) (ra_st γ κ τ) p1 (nI lim) (nI (if hb then 1 else 0)) (nI t) rf_fu 13670 (ra_nf c) = _ := e1
      refine ⟨t, c', ?_, by omega, e2, e3⟩
      rw [f_X3_leastFrom_L36, if_neg k1, e1]
      rfl
    · have e1 : f_X3_leastFrom_L47 (ra_nf M) (ra_st γ κ τ) p1 (nI lim) (nI (if hb then 1 else 0)) (nI t) rf_fu 13670 (ra_nf c) = _ := e1
      obtain ⟨hC, hS, hE, hz, hN⟩ := e2
      have e4 : f_X3_leastFrom_L36 (ra_nf M) (ra_st γ κ τ) p1 (nI lim) (nI (if hb then 1 else 0)) (m + 1) (nI t) (ra_nf c) = f_X3_leastFrom_L36 (ra_nf M) (ra_st γ κ τ) p1 (nI lim) (nI (if hb then 1 else 0)) m (nI (t + 1)) (ra_nf c') := by
        rw [f_X3_leastFrom_L36, if_neg k1, e1, Option.bind_some]
        simp only [rf_sum, Option.bind_some, nI_1]
      rw [e4]
      refine ih (t + 1) m c' (by omega) (by omega) ⟨hC, hS, fun x hx hcase => hE x hx ?_, hz, hN⟩
      rcases hcase with z | ⟨z1, z2⟩
      · by_cases e : c' (rd_e x) < t
        · exact Or.inl e
        · exact Or.inr ⟨by omega, Nat.zero_le _⟩
      · have := (rd_de h.1 hx).2
        omega
theorem rr_L3 (M : Nat → Nat) (p1 p2 p3 : Int32) : ∀ (d k m : Nat) (C : Nat → Int32), k + d = 13671 → d < m → (∀ q, q < k → C q = nI 1000000000) →
    ∃ y C', f_X3_leastFrom_L3 (ra_nf M) (ra_st γ κ τ) p1 p2 p3 m (nI k) C = some (y, C') ∧ ∀ q, q < 13671 → C' q = nI 1000000000 := by
  intro d
  induction d with
  | zero =>
    intro k m C hk hm hC
    obtain ⟨m, rfl⟩ : ∃ q, m = q + 1 := ⟨m - 1, by omega⟩
    obtain rfl : k = 13671 := by omega
    refine ⟨nI 13671, C, ?_, hC⟩
    rw [f_X3_leastFrom_L3, if_pos (show (13671 : Int32) ≤ nI 13671 from nI_le (a := 13671) (b := 13671) (Nat.le_refl _) (by decide))]
  | succ d ih =>
    intro k m C hk hm hC
    obtain ⟨m, rfl⟩ : ∃ q, m = q + 1 := ⟨m - 1, by omega⟩
    have k1 : ¬ (13671 : Int32) ≤ nI k := nI_ge (b := 13671) (by omega) (by decide)
    have k2 : ¬ (nI k < 0 ∨ 13671 ≤ (nI k).toNatClampNeg) := nI_in (N := 13671) (by omega) (by decide)
    have k3 : (nI k).toNatClampNeg = k := nI_clamp (by omega)
    rw [f_X3_leastFrom_L3, if_neg k1, if_pos k2, k3, Option.bind_some, nI_1]
    exact ih (k + 1) m _ (by omega) (by omega) (fun q hq => by
      unfold upd
      by_cases e : q = k
      · rw [if_pos e]
        rfl
      · rw [if_neg e]
        exact hC q (by omega))
theorem rr_least (M : Nat → Nat) (h : ra_ok γ κ τ) (C : Nat → Int32) {hb : Bool} {x0 : rd_X} (hx0 : rd_bd (γ 0) x0) {lim : Nat} (hl : lim ≤ 200) :
    ∃ r C', f_X3_leastFrom (ra_nf M) (ra_st γ κ τ) C (nI (rd_e x0)) (nI lim) (nI (if hb then 1 else 0)) = some (r, C') ∧ rd_best γ κ τ hb x0 lim r := by
  have h6 := h.1
  obtain ⟨hde, hlt⟩ := rd_de h6 hx0
  obtain ⟨y, C1, e1, e2⟩ := rr_L3 (γ := γ) (κ := κ) (τ := τ) M (nI (rd_e x0)) (nI lim) (nI (if hb then 1 else 0)) 13671 0 rf_fu C rfl (by unfold rf_fu; omega) (fun q hq => absurd hq (Nat.not_lt_zero q))
  have e1 : f_X3_leastFrom_L3 (ra_nf M) (ra_st γ κ τ) (nI (rd_e x0)) (nI lim) (nI (if hb then 1 else 0)) rf_fu 0 C = _ := e1
  obtain ⟨z, hz⟩ := ra_fex C1
  have hC1 : C1 = ra_nf (fun q => if q < 13671 then 1000000000 else z q) := by
    funext q
    show C1 q = nI (if q < 13671 then 1000000000 else z q)
    by_cases c : q < 13671
    · rw [if_pos c, e2 q c]
    · rw [if_neg c, hz]
      rfl
  have k2 : ¬ (nI (rd_e x0) < 0 ∨ 13671 ≤ (nI (rd_e x0)).toNatClampNeg) := nI_in (N := 13671) hlt (by decide)
  have k3 : (nI (rd_e x0)).toNatClampNeg = rd_e x0 := nI_clamp (by omega)
  have hu : upd C1 (rd_e x0) 0 = ra_nf (ra_un (fun q => if q < 13671 then 1000000000 else z q) (rd_e x0) 0) := by
    rw [hC1]
    exact ra_upd _ _ 0
  have hv : ∀ q, q < 13671 → ra_un (fun q => if q < 13671 then 1000000000 else z q) (rd_e x0) 0 q = if q = rd_e x0 then 0 else 1000000000 := by
    intro q hq
    unfold ra_un
    split
    · rfl
    · exact if_pos hq
  generalize ra_un (fun q => if q < 13671 then 1000000000 else z q) (rd_e x0) 0 = c at hu hv
  have hI : rd_I γ κ τ hb x0 0 13671 c := by
    refine ⟨fun q hq => ?_, fun x hx hlt9 => ?_, fun x hx hcase => ?_, ?_, fun q hq hq2 => ?_⟩
    · rw [hv q hq]
      split <;> omega
    · have hx2 := (rd_de h6 hx).2
      rw [hv _ hx2] at hlt9 ⊢
      by_cases e : rd_e x = rd_e x0
      · rw [if_pos e, rd_e_inj h6 hx hx0 e]
        exact rd_rc_0 x0
      · rw [if_neg e] at hlt9
        omega
    · have hx2 := (rd_de h6 hx).2
      omega
    · rw [hv _ hlt, if_pos rfl]
    · rw [hv q hq, if_neg]
      intro e
      rw [e, hde] at hq2
      have := hx0.1
      omega
  unfold f_X3_leastFrom
  rw [e1, Option.bind_some, if_pos k2, k3]
  rcases rr_L36 (hb := hb) M h (nI (rd_e x0)) hx0 hl (lim + 1) 0 rf_fu c (by omega) (by unfold rf_fu; omega) hI with ⟨t0, c', g1, g2, g3, g4⟩ | ⟨y', c', g1, g2⟩
  · have g1 : f_X3_leastFrom_L36 (ra_nf M) (ra_st γ κ τ) (nI (rd_e x0)) (nI lim) (nI (if hb then 1 else 0)) rf_fu 0 (ra_nf c) = _ := g1
    refine ⟨nI t0, ra_nf c', ?_, Or.inl ⟨t0, g2, rfl, g3, g4⟩⟩
    show (f_X3_leastFrom_L36 (ra_nf M) (ra_st γ κ τ) (nI (rd_e x0)) (nI lim) (nI (if hb then 1 else 0)) rf_fu 0 (upd C1 (rd_e x0) 0)).bind _ = _
    rw [hu, g1]
    rfl
  · have g1 : f_X3_leastFrom_L36 (ra_nf M) (ra_st γ κ τ) (nI (rd_e x0)) (nI lim) (nI (if hb then 1 else 0)) rf_fu 0 (ra_nf c) = _ := g1
    refine ⟨-9, ra_nf c', ?_, Or.inr ⟨rfl, g2⟩⟩
    show (f_X3_leastFrom_L36 (ra_nf M) (ra_st γ κ τ) (nI (rd_e x0)) (nI lim) (nI (if hb then 1 else 0)) rf_fu 0 (upd C1 (rd_e x0) 0)).bind _ = _
    rw [hu, g1]
    rfl
end RRef
end
section
/-! of two places the one that is nowhere worse; the class's way to the least: its words -/
section RDom
theorem ra_tk_sc {k th sw sw' co co' he : Nat} (h1 : sw ≤ sw') (h2 : co' ≤ co) : ra_tk k th sw co he ≤ ra_tk k th sw' co' he := by
  unfold ra_tk
  repeat' split
  all_goals omega
theorem ra_cd_mono {k a b : Nat} (h : a ≤ b) : ra_cd k a ≤ ra_cd k b := by
  unfold ra_cd
  split <;> omega
def rd_dom (x' x : rd_X) : Prop := x.1 ≤ x'.1 ∧ x'.2.1 ≤ x.2.1 ∧ x'.2.2.1 ≤ x.2.2.1 ∧ x.2.2.2 ≤ x'.2.2.2
theorem rd_dom_r (x : rd_X) : rd_dom x x := ⟨Nat.le_refl _, Nat.le_refl _, Nat.le_refl _, Nat.le_refl _⟩
theorem rd_dom_t {x y z : rd_X} (h1 : rd_dom x y) (h2 : rd_dom y z) : rd_dom x z := ⟨Nat.le_trans h2.1 h1.1, Nat.le_trans h1.2.1 h2.2.1, Nat.le_trans h1.2.2.1 h2.2.2.1, Nat.le_trans h2.2.2.2 h1.2.2.2⟩
def rd_kp (γ κ τ : Nat → Nat) (a : Nat) (x : rd_X) : Prop := a = 7 ∨ a = 6 ∨ rd_b γ κ τ a x
variable {γ κ τ : Nat → Nat}
theorem rd_b_mono {a : Nat} {x' x : rd_X} (h : rd_dom x' x) (e : x'.1 = x.1) (hb : rd_b γ κ τ a x) : rd_b γ κ τ a x' := by
  unfold rd_b at hb ⊢
  rw [e]
  exact Nat.le_trans (ra_tk_sc h.2.2.1 (ra_cd_mono h.2.2.2)) hb
theorem rd_dstep {a : Nat} {x' x : rd_X} (h : rd_dom x' x) (ha : rd_al a x) (hx : rd_bd (γ 0) x) (hx' : rd_bd (γ 0) x') :
    rd_dom x' (rd_st γ κ τ a x) ∨ (rd_al a x' ∧ rd_kp γ κ τ a x' ∧ rd_dom (rd_st γ κ τ a x') (rd_st γ κ τ a x)) := by
  obtain ⟨d1, d2, d3, d4⟩ := id h
  have hb3 := hx'.2.2.1
  have hal : rd_al a x' := ⟨ha.1, fun z => ha.2 ⟨z.1, by have := hx.2.1; omega⟩⟩
  by_cases c7 : a = 7
  · right
    refine ⟨hal, Or.inl c7, ?_⟩
    unfold rd_st
    rw [if_pos c7, if_pos c7]
    exact ⟨d1, d2, by show x'.2.2.1 - 2 ≤ x.2.2.1 - 2; omega, by show x.2.2.2 - 1 ≤ x'.2.2.2 - 1; omega⟩
  · have hst : ∀ y : rd_X, rd_st γ κ τ a y = (y.1 + (if rd_b γ κ τ a y then 1 else 0), (if a = 5 then y.2.1 + 1 else y.2.1), min 30 (y.2.2.1 + ra_sw a), ra_cd a y.2.2.2) := by
      intro y
      unfold rd_st
      rw [if_neg c7]
    have hfr : x.1 + (if rd_b γ κ τ a x then 1 else 0) ≤ x'.1 + (if rd_b γ κ τ a x' then 1 else 0) := by
      by_cases e : x'.1 = x.1
      · by_cases hb : rd_b γ κ τ a x
        · rw [if_pos hb, if_pos (rd_b_mono h e hb)]
          omega
        · rw [if_neg hb]
          omega
      · split <;> omega
    have hth : (if a = 5 then x'.2.1 + 1 else x'.2.1) ≤ (if a = 5 then x.2.1 + 1 else x.2.1) := by
      split <;> omega
    by_cases c6 : a = 6
    · right
      refine ⟨hal, Or.inr (Or.inl c6), ?_⟩
      rw [hst, hst]
      exact ⟨hfr, hth, by show min 30 (x'.2.2.1 + ra_sw a) ≤ min 30 (x.2.2.1 + ra_sw a); omega, ra_cd_mono d4⟩
    · by_cases hb : rd_b γ κ τ a x'
      · right
        refine ⟨hal, Or.inr (Or.inr hb), ?_⟩
        rw [hst, hst]
        exact ⟨hfr, hth, by show min 30 (x'.2.2.1 + ra_sw a) ≤ min 30 (x.2.2.1 + ra_sw a); omega, ra_cd_mono d4⟩
      · left
        rw [hst]
        rw [if_neg hb] at hfr
        refine ⟨hfr, ?_, ?_, ?_⟩
        · show x'.2.1 ≤ (if a = 5 then x.2.1 + 1 else x.2.1)
          split <;> omega
        · show x'.2.2.1 ≤ min 30 (x.2.2.1 + ra_sw a)
          omega
        · show ra_cd a x.2.2.2 ≤ x'.2.2.2
          unfold ra_cd
          rw [if_neg c6]
          exact d4
/-- with all gone on from, no way off is cheaper than the best -/
theorem rd_fin {h : Bool} {best : Nat} {E : rd_X → Nat → Prop} (hE : ∀ x p, E x p → x.1 < γ 0 ∧ rd_bd (γ 0) x ∧ ∀ a, rd_al a x → rd_kp γ κ τ a x → best ≤ p + rd_c h a ∨ ∃ y p', rd_dom y (rd_st γ κ τ a x) ∧ E y p' ∧ p' ≤ p + rd_c h a) :
    ∀ (l : List Nat) (x y x' : rd_X) (p : Nat), E x' p → rd_dom x' x → rd_bd (γ 0) x → rd_go γ κ τ l x y → γ 0 ≤ y.1 → best ≤ p + rd_cs h l := by
  intro l
  induction l with
  | nil =>
    intro x y x' p h1 h2 h3 h4 h5
    have h4 : x = y := h4
    subst h4
    have := (hE x' p h1).1
    have := h2.1
    omega
  | cons a l ih =>
    intro x y x' p h1 h2 h3 h4 h5
    obtain ⟨g1, g2, g3⟩ := h4
    have hbd := rd_st_bd (κ := κ) (τ := τ) h3 g1 g2
    show best ≤ p + (rd_c h a + rd_cs h l)
    obtain ⟨e1, e2, e3⟩ := hE x' p h1
    rcases rd_dstep (κ := κ) (τ := τ) h2 g2 h3 e2 with z | ⟨z1, z2, z3⟩
    · have := ih _ y x' p h1 z hbd g3 h5
      omega
    · rcases e3 a z1 z2 with w | ⟨y', p', w1, w2, w3⟩
      · omega
      · have := ih _ y y' p' w2 (rd_dom_t w1 z3) hbd g3 h5
        omega
def rd_pl (x : rd_X) : Nat := (x.1 * 3 + x.2.1) * 31 + x.2.2.1
def rd_xp (p k : Nat) : rd_X := (p / 31 / 3, p / 31 % 3, p % 31, k)
theorem rd_pl_xp {x : rd_X} (h2 : x.2.1 ≤ 2) (h3 : x.2.2.1 ≤ 30) : rd_xp (rd_pl x) x.2.2.2 = x := by
  obtain ⟨fr, th, sw, co⟩ := x
  simp only at h2 h3
  have e : rd_pl (fr, th, sw, co) = (fr * 3 + th) * 31 + sw := rfl
  unfold rd_xp
  rw [e]
  have a1 : ((fr * 3 + th) * 31 + sw) / 31 / 3 = fr := by omega
  have a2 : ((fr * 3 + th) * 31 + sw) / 31 % 3 = th := by omega
  have a3 : ((fr * 3 + th) * 31 + sw) % 31 = sw := by omega
  rw [a1, a2, a3]
theorem rd_xp_pl (p k : Nat) : rd_pl (rd_xp p k) = p := by
  show (p / 31 / 3 * 3 + p / 31 % 3) * 31 + p % 31 = p
  omega
theorem rd_pl_lt {x : rd_X} (h1 : x.1 < 6) (h2 : x.2.1 ≤ 2) (h3 : x.2.2.1 ≤ 30) : rd_pl x < 558 := by
  show (x.1 * 3 + x.2.1) * 31 + x.2.2.1 < 558
  omega
theorem rc_movePrice {h : Bool} {a : Nat} (ha : a < 8) : f_X2_movePrice (nI a) (nI (if h then 1 else 0)) = some (nI (rd_c h a)) := by
  have h2 : ∀ k, k < 8 → rf_a2 k = nI (if k = 7 then 5 else ra_mi k) := by decide
  have h4 : ∀ k, k < 8 → rf_a4 k = nI (if k = 7 then 0 else ra_hm k) := by decide
  unfold f_X2_movePrice rd_c
  cases h with
  | false =>
    have e0 : (if (false = true) then 1 else 0 : Nat) = 0 := rfl
    rw [e0, if_pos (show nI 0 = 0 from rfl), ra_at _ ha (by decide), Option.bind_some, h2 a ha]
    rfl
  | true =>
    have e0 : (if (true = true) then 1 else 0 : Nat) = 1 := rfl
    rw [e0, if_neg (show ¬ nI 1 = 0 by decide), ra_at _ ha (by decide), Option.bind_some, h4 a ha]
    rfl
/-- arrive: what it does to the rows -/
theorem rc_arrive (g f W H S : Nat → Nat) {price used : Nat} (hp : price < 1000) (hb : g 1 < 1000) (hg0 : g 0 < 100000) (h0 : f 0 ≤ 6) (h3 : f 3 ≤ f 0) (hu : used ≤ 2) (h4 : f 4 ≤ 30) (h5 : f 5 ≤ 20) (hW : ∀ i, i < 5022 → W i ≤ 21) (hS : ∀ i, i < 558 → S i ≤ 21) (hH : ∀ i, i < 9 → H i < 10000) :
    f_X1_arrive (ra_nf g) (ra_nf f) (ra_nf W) (ra_nf H) (ra_nf S) (nI price) (nI used) = some (
      if g 1 ≤ price then (ra_nf g, ra_nf W, ra_nf H)
      else if f 0 ≤ f 3 then (ra_nf (ra_un g 1 price), ra_nf W, ra_nf H)
      else if f 5 < S (rd_pl (f 3, used, f 4, f 5)) ∨ f 5 < W (price % 9 * 558 + rd_pl (f 3, used, f 4, f 5)) then (ra_nf g, ra_nf W, ra_nf H)
      else if W (price % 9 * 558 + rd_pl (f 3, used, f 4, f 5)) = 0 then (ra_nf (ra_un g 0 (g 0 + 1)), ra_nf (ra_un W (price % 9 * 558 + rd_pl (f 3, used, f 4, f 5)) (f 5 + 1)), ra_nf (ra_un H (price % 9) (H (price % 9) + 1)))
      else (ra_nf g, ra_nf (ra_un W (price % 9 * 558 + rd_pl (f 3, used, f 4, f 5)) (f 5 + 1)), ra_nf H)) := by
  unfold f_X1_arrive
  rw [rc_isOff f (by omega) (by omega)]
  by_cases c1 : g 1 ≤ price
  · rw [if_pos c1]
    simp (disch := omega) only [↓reduceIte, ra_lit, ra_nf_ap, ra_st_lo, nI_add, nI_clamp, nI_ltI, nI_leI, nI_eq, Option.bind_some, if_true, if_false, not_false_eq_true, not_true_eq_false, ra_ltT, ra_ltF, ra_leT, ra_leF, ra_eqT, ra_eqF, or_false, false_or, or_true, true_or, and_true, true_and, and_false, false_and]
  · rw [if_neg c1]
    by_cases c2 : f 0 ≤ f 3
    · rw [if_pos c2]
      simp (disch := omega) only [↓reduceIte, ra_lit, ra_nf_ap, ra_st_lo, nI_add, nI_clamp, nI_ltI, nI_leI, nI_eq, Option.bind_some, if_true, if_false, not_false_eq_true, not_true_eq_false, ra_ltT, ra_ltF, ra_leT, ra_leF, ra_eqT, ra_eqF, or_false, false_or, or_true, true_or, and_true, true_and, and_false, false_and, if_neg (show ¬ f 3 < f 0 by omega), ra_upd]
    · rw [if_neg c2]
      have hpl : rd_pl (f 3, used, f 4, f 5) < 558 := rd_pl_lt (by show f 3 < 6; omega) hu h4
      have hple : rd_pl (f 3, used, f 4, f 5) = (f 3 * 3 + used) * 31 + f 4 := rfl
      have hm9 : price % 9 < 9 := Nat.mod_lt _ (by decide)
      have hrem : rf_rem (nI price) (nI 9) = nI (price % 9) := pk_rem (by omega) (by decide) (by decide)
      rw [hple] at hpl
      rw [hple]
      have hWi := hW (price % 9 * 558 + ((f 3 * 3 + used) * 31 + f 4)) (by omega)
      have hSi := hS ((f 3 * 3 + used) * 31 + f 4) hpl
      have hHi := hH (price % 9) hm9
      simp (disch := omega) only [↓reduceIte, ra_lit, ra_nf_ap, ra_st_lo, nI_add, nI_clamp, nI_ltI, nI_leI, nI_eq, Option.bind_some, if_true, if_false, not_false_eq_true, not_true_eq_false, ra_ltT, ra_ltF, ra_leT, ra_leF, ra_eqT, ra_eqF, or_false, false_or, or_true, true_or, and_true, true_and, and_false, false_and, if_pos (show f 3 < f 0 by omega), pk_mul, hrem, ra_at]
      have hi : price % 9 * 558 + ((f 3 * 3 + used) * 31 + f 4) < 5022 := by omega
      generalize price % 9 * 558 + ((f 3 * 3 + used) * 31 + f 4) = i at hWi hi
      generalize (f 3 * 3 + used) * 31 + f 4 = p at hpl hSi
      by_cases c3 : f 5 < S p
      · simp only [c3, true_or, if_true]
      · by_cases c4 : f 5 < W i
        · simp only [c3, c4, or_true, if_true, if_false]
          rw [if_neg (by omega)]
        · simp only [c3, c4, or_false, if_false]
          rw [if_pos (by omega)]
          rw [ra_put _ _ hi (by decide), ra_upd]
          by_cases c5 : W i = 0
          · simp (disch := omega) only [↓reduceIte, ra_lit, ra_nf_ap, ra_st_lo, nI_add, nI_clamp, nI_ltI, nI_leI, nI_eq, Option.bind_some, if_true, if_false, not_false_eq_true, not_true_eq_false, ra_ltT, ra_ltF, ra_leT, ra_leF, ra_eqT, ra_eqF, or_false, false_or, or_true, true_or, and_true, true_and, and_false, false_and, c5, ra_put, ra_upd]
          · simp (disch := omega) only [↓reduceIte, ra_lit, ra_nf_ap, ra_st_lo, nI_add, nI_clamp, nI_ltI, nI_leI, nI_eq, Option.bind_some, if_true, if_false, not_false_eq_true, not_true_eq_false, ra_ltT, ra_ltF, ra_leT, ra_leF, ra_eqT, ra_eqF, or_false, false_or, or_true, true_or, and_true, true_and, and_false, false_and, if_neg c5]
end RDom
end
section
/-! the class's way to the least: what holds of its rows -/
section RInv
def rk_pr (P l : Nat) : Nat := P + (l + 9 - P % 9) % 9
theorem rk_pr_m {P q : Nat} (h1 : P ≤ q) (h2 : q ≤ P + 8) : rk_pr P (q % 9) = q := by
  unfold rk_pr
  omega
theorem rk_pr_le (P l : Nat) : P ≤ rk_pr P l ∧ rk_pr P l ≤ P + 8 := by
  unfold rk_pr
  omega
theorem rk_pr_0 {P : Nat} : rk_pr P (P % 9) = P := by
  unfold rk_pr
  omega
theorem rk_pr_s {P l : Nat} (hl : l < 9) (h : l ≠ P % 9) : rk_pr (P + 1) l = rk_pr P l := by
  unfold rk_pr
  omega
def rk_n (W : Nat → Nat) (l : Nat) : Nat := ra_cnt (fun p => decide (W (l * 558 + p) ≠ 0)) 558
def rk_sm (H : Nat → Nat) : Nat := H 0 + H 1 + H 2 + H 3 + H 4 + H 5 + H 6 + H 7 + H 8
theorem ra_cnt_ge {f : Nat → Bool} {i : Nat} (hf : f i = true) : ∀ n, i < n → 1 ≤ ra_cnt f n := by
  intro n
  induction n with
  | zero => intro h; omega
  | succ n ih =>
    intro h
    unfold ra_cnt
    by_cases e : i = n
    · subst e
      rw [if_pos hf]
      omega
    · have := ih (by omega)
      omega
theorem ra_cnt_up {f g : Nat → Bool} {i : Nat} (hf : f i = false) (hg : g i = true) (h : ∀ j, j ≠ i → f j = g j) : ∀ n, i < n → ra_cnt g n = ra_cnt f n + 1 := by
  intro n
  induction n with
  | zero => intro h; omega
  | succ n ih =>
    intro hn
    unfold ra_cnt
    by_cases e : i = n
    · subst e
      rw [if_pos hg, hf, ra_cnt_congr (f := g) (g := f) i (fun j hj => (h j (by omega)).symm)]
      rfl
    · rw [ih (by omega), h n (by omega)]
      omega
theorem rk_n_up {W : Nat → Nat} {l p v : Nat} (hp : p < 558) (h0 : W (l * 558 + p) = 0) (hv : v ≠ 0) : rk_n (ra_un W (l * 558 + p) v) l = rk_n W l + 1 := by
  unfold rk_n
  refine ra_cnt_up (i := p) ?_ ?_ ?_ 558 hp
  · show decide (W (l * 558 + p) ≠ 0) = false
    rw [h0]
    rfl
  · show decide (ra_un W (l * 558 + p) v (l * 558 + p) ≠ 0) = true
    rw [ra_us]
    exact decide_eq_true hv
  · intro j hj
    show decide (W (l * 558 + j) ≠ 0) = decide (ra_un W (l * 558 + p) v (l * 558 + j) ≠ 0)
    rw [ra_ud _ _ (by omega)]
theorem rk_n_dn {W : Nat → Nat} {l p : Nat} (hp : p < 558) (h0 : W (l * 558 + p) ≠ 0) : rk_n W l = rk_n (ra_un W (l * 558 + p) 0) l + 1 := by
  unfold rk_n
  refine ra_cnt_up (i := p) ?_ ?_ ?_ 558 hp
  · show decide (ra_un W (l * 558 + p) 0 (l * 558 + p) ≠ 0) = false
    rw [ra_us]
    rfl
  · exact decide_eq_true h0
  · intro j hj
    show decide (ra_un W (l * 558 + p) 0 (l * 558 + j) ≠ 0) = decide (W (l * 558 + j) ≠ 0)
    rw [ra_ud _ _ (by omega)]
theorem rk_n_sm {W : Nat → Nat} {l p v : Nat} (hp : p < 558) (h0 : W (l * 558 + p) ≠ 0) (hv : v ≠ 0) : rk_n (ra_un W (l * 558 + p) v) l = rk_n W l := by
  unfold rk_n
  refine ra_cnt_congr 558 (fun j hj => ?_)
  by_cases e : j = p
  · subst e
    rw [ra_us, decide_eq_true hv, decide_eq_true h0]
  · rw [ra_ud _ _ (by omega)]
theorem rk_n_ot {W : Nat → Nat} {l l' p v : Nat} (hp : p < 558) (h : l' ≠ l) : rk_n (ra_un W (l * 558 + p) v) l' = rk_n W l' := by
  unfold rk_n
  refine ra_cnt_congr 558 (fun j hj => ?_)
  rw [ra_ud _ _ (by omega)]
theorem rk_n_le (W : Nat → Nat) (l : Nat) : rk_n W l ≤ 558 := ra_cnt_le _ _
theorem rk_sm_up {H : Nat → Nat} {l v : Nat} (hl : l < 9) : rk_sm (ra_un H l v) + H l = rk_sm H + v := by
  unfold rk_sm ra_un
  have : l = 0 ∨ l = 1 ∨ l = 2 ∨ l = 3 ∨ l = 4 ∨ l = 5 ∨ l = 6 ∨ l = 7 ∨ l = 8 := by omega
  rcases this with rfl | rfl | rfl | rfl | rfl | rfl | rfl | rfl | rfl
  all_goals simp
  all_goals omega
def rk_Cv (P : Nat) (E : rd_X → Nat → Prop) (W : Nat → Nat) (best : Nat) (y : rd_X) (q : Nat) : Prop :=
  best ≤ q ∨ ∃ y', rd_dom y' y ∧ ((∃ q', E y' q' ∧ q' ≤ q) ∨ (∃ l, l < 9 ∧ rk_pr P l ≤ q ∧ rd_pl y' < 558 ∧ y'.2.1 ≤ 2 ∧ y'.2.2.1 ≤ 30 ∧ W (l * 558 + rd_pl y') = y'.2.2.2 + 1))
def rk_I (γ κ τ : Nat → Nat) (h : Bool) (x0 : rd_X) (mst P : Nat) (E K : rd_X → Nat → Prop) (g W H S : Nat → Nat) : Prop :=
  (g 1 ≤ mst + 1 ∧ (g 1 = mst + 1 ∨ rd_off γ κ τ h x0 (g 1))) ∧
  ((∀ i, i < 5022 → W i ≤ 21) ∧ (∀ i, i < 558 → S i ≤ 21)) ∧
  (∀ l p k, l < 9 → p < 558 → W (l * 558 + p) = k + 1 → rd_rc γ κ τ h x0 (rd_xp p k) (rk_pr P l) ∧ p / 31 / 3 < γ 0) ∧
  (∀ p k, p < 558 → k < S p → ∃ y q, E y q ∧ q ≤ P ∧ rd_dom y (rd_xp p k)) ∧
  ((∀ l, l < 9 → H l = rk_n W l) ∧ g 0 = rk_sm H) ∧
  (∀ x q, E x q → q ≤ P ∧ x.1 < γ 0 ∧ rd_bd (γ 0) x) ∧
  (∀ y q, K y q → rk_Cv P E W (g 1) y q)
def rk_cf (γ f : Nat → Nat) : Prop := f 0 = γ 0 ∧ f 1 = γ 1 ∧ f 2 = γ 2 ∧ f 7 = γ 7 ∧ f 6 ≤ 99
variable {γ κ τ : Nat → Nat}
theorem rk_sm_le {W H : Nat → Nat} (h : ∀ l, l < 9 → H l = rk_n W l) : rk_sm H ≤ 5022 := by
  have b := rk_n_le W
  unfold rk_sm
  rw [h 0 (by decide), h 1 (by decide), h 2 (by decide), h 3 (by decide), h 4 (by decide), h 5 (by decide), h 6 (by decide), h 7 (by decide), h 8 (by decide)]
  have := b 0
  have := b 1
  have := b 2
  have := b 3
  have := b 4
  have := b 5
  have := b 6
  have := b 7
  have := b 8
  omega
theorem rk_Cv_best {P : Nat} {E : rd_X → Nat → Prop} {W : Nat → Nat} {b b' : Nat} {y : rd_X} {q : Nat} (hb : b' ≤ b) (h : rk_Cv P E W b y q) : rk_Cv P E W b' y q := by
  rcases h with h | h
  · exact Or.inl (by omega)
  · exact Or.inr h
theorem rk_Cv_W {P : Nat} {E : rd_X → Nat → Prop} {W : Nat → Nat} {b l p v : Nat} {y : rd_X} {q : Nat} (hp : p < 558) (hv : W (l * 558 + p) ≤ v + 1) (h : rk_Cv P E W b y q) : rk_Cv P E (ra_un W (l * 558 + p) (v + 1)) b y q := by
  rcases h with h | ⟨y', hd, h⟩
  · exact Or.inl h
  · right
    rcases h with h | ⟨l', h1, h2, h3, h4, h5, h6⟩
    · exact ⟨y', hd, Or.inl h⟩
    · by_cases e : l' * 558 + rd_pl y' = l * 558 + p
      · have el : l' = l := by omega
        have ep : rd_pl y' = p := by omega
        refine ⟨(y'.1, y'.2.1, y'.2.2.1, v), rd_dom_t (y := y') ⟨Nat.le_refl _, Nat.le_refl _, Nat.le_refl _, ?_⟩ hd, Or.inr ⟨l', h1, h2, h3, h4, h5, ?_⟩⟩
        · show y'.2.2.2 ≤ v
          rw [e] at h6
          omega
        · show ra_un W (l * 558 + p) (v + 1) (l' * 558 + rd_pl y') = v + 1
          rw [e, ra_us]
      · refine ⟨y', hd, Or.inr ⟨l', h1, h2, h3, h4, h5, ?_⟩⟩
        rw [ra_ud _ _ e]
        exact h6
/-- arrive keeps what holds, and covers the place -/
theorem rk_arrive {hb : Bool} {x0 : rd_X} {mst P : Nat} {E K : rd_X → Nat → Prop} {g f W H S : Nat → Nat} (hok : ra_ok γ κ τ) (hI : rk_I γ κ τ hb x0 mst P E K g W H S) (hm : mst ≤ 200) (hcf : rk_cf γ f) {price used : Nat} (hp1 : P ≤ price) (hp2 : price ≤ P + 8) (hP : P ≤ 300) (hu : used ≤ 2) (h3 : f 3 ≤ γ 0) (h4 : f 4 ≤ 30) (h5 : f 5 ≤ 20) (hr : rd_rc γ κ τ hb x0 (f 3, used, f 4, f 5) price) :
    ∃ g' W' H', f_X1_arrive (ra_nf g) (ra_nf f) (ra_nf W) (ra_nf H) (ra_nf S) (nI price) (nI used) = some (ra_nf g', ra_nf W', ra_nf H') ∧ g' 2 = g 2 ∧
      rk_I γ κ τ hb x0 mst P E (fun y q => K y q ∨ (y = (f 3, used, f 4, f 5) ∧ q = price)) g' W' H' S ∧
      (∀ i, i ≠ price % 9 * 558 + rd_pl (f 3, used, f 4, f 5) → W' i = W i) ∧ (f 5 < S (rd_pl (f 3, used, f 4, f 5)) ∨ γ 0 ≤ f 3 → W' = W) := by
  obtain ⟨⟨a1, a2⟩, ⟨a3, a4⟩, a5, a6, ⟨a7, a8⟩, a9, a10⟩ := id hI
  obtain ⟨f0, f1, f2, f7, f6⟩ := id hcf
  have h6 := hok.1
  have hHle : ∀ l, l < 9 → H l ≤ 558 := fun l hl => by rw [a7 l hl]; exact rk_n_le W l
  have hg0 : g 0 ≤ 5022 := by rw [a8]; exact rk_sm_le a7
  have hA := rc_arrive g f W H S (price := price) (used := used) (by omega) (by omega) (by omega) (by omega) (by omega) hu h4 h5 a3 a4 (fun i hi => by have := hHle i hi; omega)
  have hm9 : price % 9 < 9 := Nat.mod_lt _ (by decide)
  by_cases c1 : g 1 ≤ price
  · rw [if_pos c1] at hA
    refine ⟨g, W, H, hA, rfl, ⟨⟨a1, a2⟩, ⟨a3, a4⟩, a5, a6, ⟨a7, a8⟩, a9, fun y q hk => ?_⟩, fun i _ => rfl, fun _ => rfl⟩
    rcases hk with hk | ⟨rfl, rfl⟩
    · exact a10 y q hk
    · exact Or.inl c1
  rw [if_neg c1] at hA
  by_cases c2 : f 0 ≤ f 3
  · rw [if_pos c2] at hA
    have hoff : rd_off γ κ τ hb x0 price := rd_rc_off hr (by show γ 0 ≤ f 3; omega)
    refine ⟨ra_un g 1 price, W, H, hA, rfl, ⟨⟨?_, ?_⟩, ⟨a3, a4⟩, a5, a6, ⟨a7, a8⟩, a9, fun y q hk => ?_⟩, fun i _ => rfl, fun _ => rfl⟩
    · show price ≤ mst + 1
      omega
    · exact Or.inr hoff
    · show rk_Cv P E W price y q
      rcases hk with hk | ⟨rfl, rfl⟩
      · exact rk_Cv_best (by omega) (a10 y q hk)
      · exact Or.inl (Nat.le_refl _)
  rw [if_neg c2] at hA
  have hpl : rd_pl (f 3, used, f 4, f 5) < 558 := rd_pl_lt (by show f 3 < 6; omega) hu h4
  have hxp : ∀ k, rd_xp (rd_pl (f 3, used, f 4, f 5)) k = (f 3, used, f 4, k) := fun k => by
    have := rd_pl_xp (x := (f 3, used, f 4, k)) hu h4
    exact this
  by_cases c3 : f 5 < S (rd_pl (f 3, used, f 4, f 5)) ∨ f 5 < W (price % 9 * 558 + rd_pl (f 3, used, f 4, f 5))
  · rw [if_pos c3] at hA
    refine ⟨g, W, H, hA, rfl, ⟨⟨a1, a2⟩, ⟨a3, a4⟩, a5, a6, ⟨a7, a8⟩, a9, fun y q hk => ?_⟩, fun i _ => rfl, fun _ => rfl⟩
    rcases hk with hk | ⟨rfl, hq⟩
    · exact a10 y q hk
    · rw [hq]
      right
      rcases c3 with c3 | c3
      · obtain ⟨y, q', e1, e2, e3⟩ := a6 _ (f 5) hpl c3
        rw [hxp] at e3
        exact ⟨y, e3, Or.inl ⟨q', e1, by omega⟩⟩
      · obtain ⟨k, hk⟩ : ∃ k, W (price % 9 * 558 + rd_pl (f 3, used, f 4, f 5)) = k + 1 := ⟨W (price % 9 * 558 + rd_pl (f 3, used, f 4, f 5)) - 1, by omega⟩
        refine ⟨(f 3, used, f 4, k), ⟨Nat.le_refl _, Nat.le_refl _, Nat.le_refl _, by show f 5 ≤ k; omega⟩, Or.inr ⟨price % 9, hm9, ?_, hpl, hu, h4, hk⟩⟩
        rw [rk_pr_m hp1 hp2]
        exact Nat.le_refl _
  rw [if_neg c3] at hA
  have hwle : W (price % 9 * 558 + rd_pl (f 3, used, f 4, f 5)) ≤ f 5 + 1 := by omega
  have hW21 : ∀ i, i < 5022 → ra_un W (price % 9 * 558 + rd_pl (f 3, used, f 4, f 5)) (f 5 + 1) i ≤ 21 := fun i hi => by
    unfold ra_un
    split
    · omega
    · exact a3 i hi
  have hsnd : ∀ l p k, l < 9 → p < 558 → ra_un W (price % 9 * 558 + rd_pl (f 3, used, f 4, f 5)) (f 5 + 1) (l * 558 + p) = k + 1 → rd_rc γ κ τ hb x0 (rd_xp p k) (rk_pr P l) ∧ p / 31 / 3 < γ 0 := by
    intro l p k hl hp hw
    by_cases e : l * 558 + p = price % 9 * 558 + rd_pl (f 3, used, f 4, f 5)
    · rw [e, ra_us] at hw
      have el : l = price % 9 := by omega
      have ep : p = rd_pl (f 3, used, f 4, f 5) := by omega
      have ek : k = f 5 := by omega
      have hfr : p / 31 / 3 = f 3 := by
        have := congrArg (fun z : rd_X => z.1) (hxp (f 5))
        rw [ep]
        exact this
      rw [el, rk_pr_m hp1 hp2]
      refine ⟨?_, by omega⟩
      rw [ep, ek, hxp]
      exact hr
    · rw [ra_ud _ _ e] at hw
      exact a5 l p k hl hp hw
  have hcov : ∀ b y q, (K y q → rk_Cv P E W b y q) → (K y q ∨ (y = (f 3, used, f 4, f 5) ∧ q = price)) → rk_Cv P E (ra_un W (price % 9 * 558 + rd_pl (f 3, used, f 4, f 5)) (f 5 + 1)) b y q := by
    intro b y q hh hk
    rcases hk with hk | ⟨rfl, rfl⟩
    · exact rk_Cv_W hpl hwle (hh hk)
    · right
      refine ⟨_, rd_dom_r _, Or.inr ⟨q % 9, hm9, ?_, hpl, hu, h4, ?_⟩⟩
      · rw [rk_pr_m hp1 hp2]
        exact Nat.le_refl _
      · rw [ra_us]
  by_cases c4 : W (price % 9 * 558 + rd_pl (f 3, used, f 4, f 5)) = 0
  · rw [if_pos c4] at hA
    refine ⟨_, _, _, hA, rfl, ⟨⟨a1, a2⟩, ⟨hW21, a4⟩, hsnd, a6, ⟨fun l hl => ?_, ?_⟩, a9, fun y q hk => hcov _ y q (a10 y q) hk⟩, fun i hi => ra_ud _ _ hi, fun hs => hs.elim (fun z => absurd (Or.inl z) c3) (fun z => absurd (show f 0 ≤ f 3 by omega) c2)⟩
    · by_cases e : l = price % 9
      · rw [e, ra_us, rk_n_up hpl c4 (by omega), a7 _ hm9]
      · rw [ra_ud _ _ e, rk_n_ot hpl e, a7 l hl]
    · show g 0 + 1 = _
      have := rk_sm_up (H := H) (v := H (price % 9) + 1) hm9
      omega
  · rw [if_neg c4] at hA
    refine ⟨_, _, _, hA, rfl, ⟨⟨a1, a2⟩, ⟨hW21, a4⟩, hsnd, a6, ⟨fun l hl => ?_, a8⟩, a9, fun y q hk => hcov _ y q (a10 y q) hk⟩, fun i hi => ra_ud _ _ hi, fun hs => hs.elim (fun z => absurd (Or.inl z) c3) (fun z => absurd (show f 0 ≤ f 3 by omega) c2)⟩
    by_cases e : l = price % 9
    · rw [e, rk_n_sm hpl c4 (by omega), a7 _ hm9]
    · rw [rk_n_ot hpl e, a7 l hl]
end RInv
end
section
/-! the class's way to the least: going on from a place -/
section RSpread
variable {γ κ τ : Nat → Nat}
theorem rc_stand (g f : Nat → Nat) {p k : Nat} (hp : p < 558) : f_X1_stand (ra_nf g) (ra_nf f) (nI p) (nI k) = some (ra_nf (ra_un (ra_un (ra_un f 3 (p / 31 / 3)) 4 (p % 31)) 5 k)) := by
  have hrem : rf_rem (nI p) (nI 31) = nI (p % 31) := pk_rem (by omega) (by decide) (by decide)
  unfold f_X1_stand
  simp (disch := omega) only [↓reduceIte, ra_lit, ra_nf_ap, ra_st_lo, nI_add, nI_clamp, nI_ltI, nI_leI, nI_eq, Option.bind_some, if_true, if_false, not_false_eq_true, not_true_eq_false, ra_ltT, ra_ltF, ra_leT, ra_leF, ra_eqT, ra_eqF, or_false, false_or, or_true, true_or, and_true, true_and, and_false, false_and, pk_div, hrem, ra_upd]
/-- a kind of try from a place: what the loop does -/
theorem rk_spS (S : Nat → Int32) (hok : ra_ok γ κ τ) {hb : Bool} {g f : Nat → Nat} (W H : Nat → Int32) (hcf : rk_cf γ f) (hg2 : g 2 = if hb then 1 else 0) {P p k a m : Nat} (hp : p < 558) (hk : k ≤ 20) (hfr : p / 31 / 3 < γ 0) (ha : a < 7) :
    ∃ f2, rk_cf γ f2 ∧ ((rd_al a (rd_xp p k) ∧ rd_kp γ κ τ a (rd_xp p k) ∧ (f2 3, (if a = 5 then p / 31 % 3 + 1 else p / 31 % 3), f2 4, f2 5) = rd_st γ κ τ a (rd_xp p k) ∧
      f_X1_spread_L11 (ra_nf κ) (ra_nf τ) S (nI P) (nI p) (nI k) (nI (p / 31 % 3)) (m + 1) (nI a) (ra_nf g) (ra_nf f) W H = (f_X1_arrive (ra_nf g) (ra_nf f2) W H S (nI (P + rd_c hb a)) (nI (if a = 5 then p / 31 % 3 + 1 else p / 31 % 3))).bind fun (q : (Nat → Int32) × (Nat → Int32) × (Nat → Int32)) => f_X1_spread_L11 (ra_nf κ) (ra_nf τ) S (nI P) (nI p) (nI k) (nI (p / 31 % 3)) m (nI (a + 1)) q.1 (ra_nf f2) q.2.1 q.2.2) ∨
      (¬ (rd_al a (rd_xp p k) ∧ rd_kp γ κ τ a (rd_xp p k)) ∧
      f_X1_spread_L11 (ra_nf κ) (ra_nf τ) S (nI P) (nI p) (nI k) (nI (p / 31 % 3)) (m + 1) (nI a) (ra_nf g) (ra_nf f) W H = f_X1_spread_L11 (ra_nf κ) (ra_nf τ) S (nI P) (nI p) (nI k) (nI (p / 31 % 3)) m (nI (a + 1)) (ra_nf g) (ra_nf f2) W H)) := by
  obtain ⟨h0, h1, h2, h3, h4, h5, h6, h7, h8, h9, h10, h11⟩ := id hok
  obtain ⟨f0, f1, f2, f7, f6⟩ := id hcf
  have hst := rc_stand g f (k := k) hp
  have hbase : rk_cf γ (ra_un (ra_un (ra_un f 3 (p / 31 / 3)) 4 (p % 31)) 5 k) := hcf
  have e3 : (ra_un (ra_un (ra_un f 3 (p / 31 / 3)) 4 (p % 31)) 5 k) 3 = p / 31 / 3 := rfl
  have e4 : (ra_un (ra_un (ra_un f 3 (p / 31 / 3)) 4 (p % 31)) 5 k) 4 = p % 31 := rfl
  have e5 : (ra_un (ra_un (ra_un f 3 (p / 31 / 3)) 4 (p % 31)) 5 k) 5 = k := rfl
  generalize ra_un (ra_un (ra_un f 3 (p / 31 / 3)) 4 (p % 31)) 5 k = s at hst hbase e3 e4 e5
  obtain ⟨s0, s1, s2, s7, s6⟩ := id hbase
  have hoks : ra_ok s κ τ := ⟨by omega, by omega, by omega, by omega, by omega, by omega, by omega, by omega, s6, by omega, h10, h11⟩
  have hov : ra_ov s κ τ a ↔ rd_b γ κ τ a (rd_xp p k) := by
    unfold ra_ov rd_b rd_xp
    rw [e3, e4, e5, s1, s2, s7]
  have hgo := rc_over hoks (k := a) (by omega)
  have hstr := rc_strain (γ := s) ha (by omega) (by omega) s6
  have hmv : f_X2_movePrice (nI a) (ra_nf g 2) = some (nI (rd_c hb a)) := by
    rw [ra_nf_ap, hg2]
    exact rc_movePrice (by omega)
  have hth : p / 31 % 3 < 3 := Nat.mod_lt _ (by decide)
  have c6' : ¬ (6 : Int32) < nI a := nI_nlt (a := 6) (b := a) (by omega) (by decide)
  have w3 : (ra_wear s a) 3 = p / 31 / 3 := e3
  have w4 : (ra_wear s a) 4 = min 30 (p % 31 + ra_sw a) := by show min 30 (s 4 + ra_sw a) = _; rw [e4]
  have w5 : (ra_wear s a) 5 = ra_cd a k := by show ra_cd a (s 5) = _; rw [e5]
  have wcf : ∀ v, rk_cf γ (ra_un (ra_wear s a) 3 v) := fun v => ⟨s0, s1, s2, s7, Nat.min_le_left _ _⟩
  have hup : ∀ v, upd (ra_nf (ra_wear s a)) 3 (nI v) = ra_nf (ra_un (ra_wear s a) 3 v) := fun v => ra_upd _ _ _
  have hst7 : rd_st γ κ τ a (rd_xp p k) = (p / 31 / 3 + (if rd_b γ κ τ a (rd_xp p k) then 1 else 0), (if a = 5 then p / 31 % 3 + 1 else p / 31 % 3), min 30 (p % 31 + ra_sw a), ra_cd a k) := by
    unfold rd_st
    rw [if_neg (by omega)]
    rfl
  have n0 : nI (p / 31 / 3) + 0 = nI (p / 31 / 3) := nI_add (p / 31 / 3) 0
  have n1 : nI (p / 31 / 3) + 1 = nI (p / 31 / 3 + 1) := nI_1 _
  have u1 : nI (p / 31 % 3) + 1 = nI (p / 31 % 3 + 1) := nI_1 _
  rw [f_X1_spread_L11, if_neg c6', hst, Option.bind_some]
  by_cases o : rd_b γ κ τ a (rd_xp p k)
  · rw [if_pos (show s 3 < s 0 ∧ ra_ov s κ τ a from ⟨by omega, hov.mpr o⟩)] at hgo
    rw [if_pos o] at hst7
    by_cases c5 : a = 5
    · have x5 : nI a = 5 := by rw [c5]; rfl
      rw [if_pos x5, hgo, Option.bind_some, if_neg (show ¬ nI 1 = 0 by decide)]
      by_cases cu : p / 31 % 3 < 2
      · refine ⟨ra_un (ra_wear s a) 3 (p / 31 / 3 + 1), wcf _, Or.inl ⟨⟨by omega, fun z => by have := z.2; have : p / 31 % 3 = 2 := this; omega⟩, Or.inr (Or.inr o), ?_, ?_⟩⟩
        · rw [hst7]
          show (p / 31 / 3 + 1, _, (ra_wear s a) 4, (ra_wear s a) 5) = _
          rw [w4, w5]
        · rw [if_pos (show nI (p / 31 % 3) < 2 from nI_lt (a := p / 31 % 3) (b := 2) cu (by decide)), hstr, Option.bind_some, if_neg (show ¬ nI 1 = 0 by decide), ra_nf_ap, w3, n1, Option.bind_some, hmv, Option.bind_some, hup, nI_add, u1, if_pos c5]
          simp only [Option.bind_some, nI_1]
      · refine ⟨s, hbase, Or.inr ⟨fun z => z.1.2 ⟨c5, by show p / 31 % 3 = 2; omega⟩, ?_⟩⟩
        rw [if_neg (show ¬ nI (p / 31 % 3) < 2 from nI_nlt (a := p / 31 % 3) (b := 2) (by omega) (by omega)), Option.bind_some, nI_1]
    · have x5 : ¬ nI a = 5 := fun z => c5 ((nI_eq (b := 5) (by omega) (by decide)).mp z)
      refine ⟨ra_un (ra_wear s a) 3 (p / 31 / 3 + 1), wcf _, Or.inl ⟨⟨by omega, fun z => c5 z.1⟩, Or.inr (Or.inr o), ?_, ?_⟩⟩
      · rw [hst7]
        show (p / 31 / 3 + 1, _, (ra_wear s a) 4, (ra_wear s a) 5) = _
        rw [w4, w5]
      · rw [if_neg x5, hgo, Option.bind_some, if_neg (show ¬ nI 1 = 0 by decide), hstr, Option.bind_some, if_neg (show ¬ nI 1 = 0 by decide), ra_nf_ap, w3, n1, Option.bind_some, hmv, Option.bind_some, hup, nI_add, if_neg c5]
        simp only [Option.bind_some, nI_1]
  · rw [if_neg (show ¬ (s 3 < s 0 ∧ ra_ov s κ τ a) from fun z => o (hov.mp z.2))] at hgo
    rw [if_neg o] at hst7
    by_cases c6 : a = 6
    · have x6 : nI a = 6 := by rw [c6]; rfl
      have c5 : ¬ a = 5 := by omega
      have x5 : ¬ nI a = 5 := fun z => c5 ((nI_eq (b := 5) (by omega) (by decide)).mp z)
      refine ⟨ra_un (ra_wear s a) 3 (p / 31 / 3), wcf _, Or.inl ⟨⟨by omega, fun z => c5 z.1⟩, Or.inr (Or.inl c6), ?_, ?_⟩⟩
      · rw [hst7]
        show (p / 31 / 3, _, (ra_wear s a) 4, (ra_wear s a) 5) = _
        rw [w4, w5]
        rfl
      · rw [if_neg x5, hgo, Option.bind_some, if_pos (show nI 0 = 0 from rfl), if_pos x6, hstr, Option.bind_some, if_pos (show nI 0 = 0 from rfl), ra_nf_ap, w3, n0, Option.bind_some, hmv, Option.bind_some, hup, nI_add, if_neg c5]
        simp only [Option.bind_some, nI_1]
    · have x6 : ¬ nI a = 6 := fun z => c6 ((nI_eq (b := 6) (by omega) (by decide)).mp z)
      have hno : ¬ (rd_al a (rd_xp p k) ∧ rd_kp γ κ τ a (rd_xp p k)) := fun z => by
        rcases z.2 with y | y | y
        · omega
        · exact c6 y
        · exact o y
      refine ⟨s, hbase, Or.inr ⟨hno, ?_⟩⟩
      by_cases c5 : a = 5
      · have x5 : nI a = 5 := by rw [c5]; rfl
        rw [if_pos x5, hgo, Option.bind_some, if_pos (show nI 0 = 0 from rfl), if_neg x6, Option.bind_some, nI_1]
      · have x5 : ¬ nI a = 5 := fun z => c5 ((nI_eq (b := 5) (by omega) (by decide)).mp z)
        rw [if_neg x5, hgo, Option.bind_some, if_pos (show nI 0 = 0 from rfl), if_neg x6, Option.bind_some, nI_1]
theorem rk_I_sub {hb : Bool} {x0 : rd_X} {mst P : Nat} {E K K' : rd_X → Nat → Prop} {g W H S : Nat → Nat} (h : ∀ y q, K' y q → K y q) (hI : rk_I γ κ τ hb x0 mst P E K g W H S) : rk_I γ κ τ hb x0 mst P E K' g W H S := by
  obtain ⟨a1, a2, a3, a4, a5, a6, a7⟩ := hI
  exact ⟨a1, a2, a3, a4, a5, a6, fun y q hk => a7 y q (h y q hk)⟩
theorem rk_spL (hok : ra_ok γ κ τ) {hb : Bool} {x0 : rd_X} {mst P : Nat} {E : rd_X → Nat → Prop} {S : Nat → Nat} (hm : mst ≤ 200) (hP : P ≤ 300) {p k : Nat} (hp : p < 558) (hk : k ≤ 20) (hfr : p / 31 / 3 < γ 0) (hr : rd_rc γ κ τ hb x0 (rd_xp p k) P) :
    ∀ (d a m : Nat) (K : rd_X → Nat → Prop) (g f W H : Nat → Nat), a + d = 7 → d < m → rk_I γ κ τ hb x0 mst P E K g W H S → (g 2 = if hb then 1 else 0) → rk_cf γ f →
    ∃ K' g' f' W' H', f_X1_spread_L11 (ra_nf κ) (ra_nf τ) (ra_nf S) (nI P) (nI p) (nI k) (nI (p / 31 % 3)) m (nI a) (ra_nf g) (ra_nf f) (ra_nf W) (ra_nf H) = some (nI 7, ra_nf g', ra_nf f', ra_nf W', ra_nf H') ∧ (g' 2 = if hb then 1 else 0) ∧ rk_cf γ f' ∧ rk_I γ κ τ hb x0 mst P E K' g' W' H' S ∧ (∀ y q, K y q → K' y q) ∧
      (∀ b, a ≤ b → b < 7 → rd_al b (rd_xp p k) → rd_kp γ κ τ b (rd_xp p k) → K' (rd_st γ κ τ b (rd_xp p k)) (P + rd_c hb b)) ∧ (∀ j, j < 558 → W' (P % 9 * 558 + j) = W (P % 9 * 558 + j)) := by
  have hbd : rd_bd (γ 0) (rd_xp p k) := ⟨Nat.le_of_lt hfr, by show p / 31 % 3 ≤ 2; omega, by show p % 31 ≤ 30; omega, hk⟩
  intro d
  induction d with
  | zero =>
    intro a m K g f W H ha hm' hI hg2 hcf
    obtain ⟨m, rfl⟩ : ∃ q, m = q + 1 := ⟨m - 1, by omega⟩
    obtain rfl : a = 7 := by omega
    refine ⟨K, g, f, W, H, ?_, hg2, hcf, hI, fun y q h => h, fun b h1 h2 => by omega, fun j _ => rfl⟩
    rw [f_X1_spread_L11, if_pos (by decide)]
  | succ d ih =>
    intro a m K g f W H ha hm' hI hg2 hcf
    obtain ⟨m, rfl⟩ : ∃ q, m = q + 1 := ⟨m - 1, by omega⟩
    obtain ⟨f2, hcf2, hcase⟩ := rk_spS (ra_nf S) hok (hb := hb) (P := P) (m := m) (ra_nf W) (ra_nf H) hcf hg2 hp hk hfr (show a < 7 by omega)
    rcases hcase with ⟨z1, z2, z3, z4⟩ | ⟨z1, z2⟩
    · have hc1 := rd_c_pos (h := hb) (a := a) (by omega)
      have hc8 := rd_c_le hb a
      have hr2 := rd_rc_s hr (show (rd_xp p k).1 < γ 0 from hfr) z1
      have hbd2 := rd_st_bd (κ := κ) (τ := τ) hbd (show (rd_xp p k).1 < γ 0 from hfr) z1
      rw [← z3] at hr2 hbd2
      obtain ⟨b1, b2, b3, b4⟩ := hbd2
      obtain ⟨g', W', H', e1, e2, e3, e4, e5⟩ := rk_arrive hok hI hm hcf2 (price := P + rd_c hb a) (used := if a = 5 then p / 31 % 3 + 1 else p / 31 % 3) (by omega) (by omega) hP b2 b1 b3 b4 hr2
      rw [z4, e1, Option.bind_some]
      obtain ⟨K', g2, f3, W2, H2, y1, y2, y3, y4, y5, y6, y7⟩ := ih (a + 1) m _ g' f2 W' H' (by omega) (by omega) e3 (by rw [e2]; exact hg2) hcf2
      refine ⟨K', g2, f3, W2, H2, y1, y2, y3, y4, fun y q h => y5 y q (Or.inl h), fun b c1 c2 c3 c4 => ?_, fun j hj => ?_⟩
      · by_cases e : b = a
        · subst e
          exact y5 _ _ (Or.inr ⟨z3.symm, rfl⟩)
        · exact y6 b (by omega) c2 c3 c4
      · rw [y7 j hj]
        by_cases cf : γ 0 ≤ f2 3
        · rw [e5 (Or.inr cf)]
        · refine e4 _ ?_
          have hpl : rd_pl (f2 3, (if a = 5 then p / 31 % 3 + 1 else p / 31 % 3), f2 4, f2 5) < 558 := rd_pl_lt (by have := hok.1; show f2 3 < 6; omega) b2 b3
          omega
    · rw [z2]
      obtain ⟨K', g2, f3, W2, H2, y1, y2, y3, y4, y5, y6, y7⟩ := ih (a + 1) m K g f2 W H (by omega) (by omega) hI hg2 hcf2
      refine ⟨K', g2, f3, W2, H2, y1, y2, y3, y4, y5, fun b c1 c2 c3 c4 => ?_, y7⟩
      by_cases e : b = a
      · subst e
        exact absurd ⟨c3, c4⟩ z1
      · exact y6 b (by omega) c2 c3 c4
theorem rk_spread (hok : ra_ok γ κ τ) {hb : Bool} {x0 : rd_X} {mst P : Nat} {E K : rd_X → Nat → Prop} {g f W H S : Nat → Nat} (hm : mst ≤ 200) (hP : P ≤ 300) {p k : Nat} (hp : p < 558) (hk : k ≤ 20) (hfr : p / 31 / 3 < γ 0) (hr : rd_rc γ κ τ hb x0 (rd_xp p k) P)
    (hI : rk_I γ κ τ hb x0 mst P E K g W H S) (hg2 : g 2 = if hb then 1 else 0) (hcf : rk_cf γ f) (hS : k < S p) :
    ∃ K' g' f' W' H', f_X1_spread (ra_nf g) (ra_nf f) (ra_nf κ) (ra_nf τ) (ra_nf W) (ra_nf H) (ra_nf S) (nI P) (nI p) (nI k) = some (ra_nf g', ra_nf f', ra_nf W', ra_nf H') ∧ (g' 2 = if hb then 1 else 0) ∧ rk_cf γ f' ∧ rk_I γ κ τ hb x0 mst P E K' g' W' H' S ∧ (∀ y q, K y q → K' y q) ∧
      (∀ b, rd_al b (rd_xp p k) → rd_kp γ κ τ b (rd_xp p k) → K' (rd_st γ κ τ b (rd_xp p k)) (P + rd_c hb b)) ∧ (∀ j, p ≤ j → j < 558 → W' (P % 9 * 558 + j) = W (P % 9 * 558 + j)) := by
  have hbd : rd_bd (γ 0) (rd_xp p k) := ⟨Nat.le_of_lt hfr, by show p / 31 % 3 ≤ 2; omega, by show p % 31 ≤ 30; omega, hk⟩
  have hrem : rf_rem (nI p / 31) 3 = nI (p / 31 % 3) := by
    rw [show (nI p / 31 : Int32) = nI (p / 31) from pk_div (d := 31) (by omega) (by decide) (by decide)]
    exact pk_rem (d := 3) (by omega) (by decide) (by decide)
  obtain ⟨K1, g1, f1, W1, H1, y1, y2, y3, y4, y5, y6, y7⟩ := rk_spL hok hm hP hp hk hfr hr 7 0 rf_fu K g f W H rfl (by unfold rf_fu; omega) hI hg2 hcf
  have y1 : f_X1_spread_L11 (ra_nf κ) (ra_nf τ) (ra_nf S) (nI P) (nI p) (nI k) (nI (p / 31 % 3)) rf_fu 0 (ra_nf g) (ra_nf f) (ra_nf W) (ra_nf H) = _ := y1
  have hst := rc_stand g1 f1 (k := k) hp
  have hbase : rk_cf γ (ra_un (ra_un (ra_un f1 3 (p / 31 / 3)) 4 (p % 31)) 5 k) := y3
  have e3 : (ra_un (ra_un (ra_un f1 3 (p / 31 / 3)) 4 (p % 31)) 5 k) 3 = p / 31 / 3 := rfl
  have e4 : (ra_un (ra_un (ra_un f1 3 (p / 31 / 3)) 4 (p % 31)) 5 k) 4 = p % 31 := rfl
  have e5 : (ra_un (ra_un (ra_un f1 3 (p / 31 / 3)) 4 (p % 31)) 5 k) 5 = k := rfl
  generalize ra_un (ra_un (ra_un f1 3 (p / 31 / 3)) 4 (p % 31)) 5 k = s at hst hbase e3 e4 e5
  have hrest := rc_rest (γ := s) (m := 5) (by decide) (by omega) (by omega) hbase.2.2.2.2
  have hrest : f_X0_rest (ra_nf s) 5 = _ := hrest
  have hcf2 : rk_cf γ (ra_wt s 5) := ⟨hbase.1, hbase.2.1, hbase.2.2.1, hbase.2.2.2.1, by show s 6 - 5 ≤ 99; have := hbase.2.2.2.2; omega⟩
  have w3 : (ra_wt s 5) 3 = p / 31 / 3 := e3
  have w4 : (ra_wt s 5) 4 = p % 31 - 2 := by show s 4 - 5 / 2 = _; rw [e4]
  have w5 : (ra_wt s 5) 5 = k - 1 := by show s 5 - 5 / 3 = _; rw [e5]
  generalize ra_wt s 5 = f2 at hrest hcf2 w3 w4 w5
  have hal7 : rd_al 7 (rd_xp p k) := ⟨Nat.le_refl _, fun z => by have := z.1; omega⟩
  have hst7 : rd_st γ κ τ 7 (rd_xp p k) = (f2 3, p / 31 % 3, f2 4, f2 5) := by
    unfold rd_st
    rw [if_pos rfl, w3, w4, w5]
    rfl
  have hr2 := rd_rc_s hr (show (rd_xp p k).1 < γ 0 from hfr) hal7
  rw [hst7] at hr2
  have hc8 := rd_c_le hb 7
  have hmv : f_X2_movePrice 7 (ra_nf g1 2) = some (nI (rd_c hb 7)) := by
    rw [ra_nf_ap, y2]
    exact rc_movePrice (a := 7) (by decide)
  have hth : p / 31 % 3 < 3 := Nat.mod_lt _ (by decide)
  obtain ⟨g', W', H', b1, b2, b3, b4, b5⟩ := rk_arrive hok y4 hm hcf2 (price := P + rd_c hb 7) (used := p / 31 % 3) (by omega) (by omega) hP (by omega) (by omega) (by omega) (by omega) hr2
  refine ⟨_, g', f2, W', H', ?_, by rw [b2]; exact y2, hcf2, b3, fun y q h => Or.inl (y5 y q h), fun b c1 c2 => ?_, fun j hj hj2 => ?_⟩
  · unfold f_X1_spread
    rw [hrem, Option.bind_some, y1, Option.bind_some]
    show (f_X1_stand (ra_nf g1) (ra_nf f1) (nI p) (nI k)).bind _ = _
    rw [hst, Option.bind_some, hrest, Option.bind_some]
    show (f_X2_movePrice 7 (ra_nf g1 2)).bind _ = _
    rw [hmv, Option.bind_some]
    show (f_X1_arrive (ra_nf g1) (ra_nf f2) (ra_nf W1) (ra_nf H1) (ra_nf S) (nI P + nI (rd_c hb 7)) (nI (p / 31 % 3))).bind _ = _
    rw [nI_add, b1]
    rfl
  · by_cases e : b = 7
    · subst e
      exact Or.inr ⟨hst7, rfl⟩
    · exact Or.inl (y6 b (Nat.zero_le _) (by have := c1.1; omega) c1 c2)
  · rw [← y7 j hj2]
    have hpl : rd_pl (f2 3, p / 31 % 3, f2 4, f2 5) < 558 := rd_pl_lt (by have := hok.1; show f2 3 < 6; omega) (by show p / 31 % 3 ≤ 2; omega) (by show f2 4 ≤ 30; omega)
    by_cases hz : p % 31 = 0
    · have epl : rd_pl (f2 3, p / 31 % 3, f2 4, f2 5) = p := by
        show (f2 3 * 3 + p / 31 % 3) * 31 + f2 4 = p
        rw [w3, w4]
        omega
      rw [b5 (Or.inl (by rw [epl, w5]; omega))]
    · refine b4 _ ?_
      have epl : rd_pl (f2 3, p / 31 % 3, f2 4, f2 5) < p := by
        show (f2 3 * 3 + p / 31 % 3) * 31 + f2 4 < p
        rw [w3, w4]
        omega
      have hmm : (P + rd_c hb 7) % 9 < 9 := Nat.mod_lt _ (by decide)
      omega
theorem rk_seeL (g : Nat → Nat) {p k : Nat} (hp : p < 558) (hk : k ≤ 20) : ∀ (d i m : Nat) (S : Nat → Nat), p % 31 + i + d = 31 → d < m → (∀ j, j < 558 → S j ≤ 21) →
    ∃ y S', f_X1_see_L8 (ra_nf g) (nI p) (nI k) (nI (p % 31)) m (nI i) (ra_nf S) = some (y, ra_nf S') ∧ (∀ j, S' j = S j ∨ (S' j = k + 1 ∧ ∃ i', i ≤ i' ∧ j = p + i' ∧ p % 31 + i' < 31)) := by
  intro d
  induction d with
  | zero =>
    intro i m S hi hm hS
    obtain ⟨m, rfl⟩ : ∃ q, m = q + 1 := ⟨m - 1, by omega⟩
    refine ⟨nI i, S, ?_, fun j => Or.inl rfl⟩
    rw [f_X1_see_L8, nI_add, if_pos (show (31 : Int32) ≤ nI (p % 31 + i) from nI_le (a := 31) (b := p % 31 + i) (by omega) (by omega))]
  | succ d ih =>
    intro i m S hi hm hS
    obtain ⟨m, rfl⟩ : ∃ q, m = q + 1 := ⟨m - 1, by omega⟩
    have hpi : p + i < 558 := by omega
    have hSi := hS (p + i) hpi
    rw [f_X1_see_L8, nI_add, if_neg (show ¬ (31 : Int32) ≤ nI (p % 31 + i) from nI_ge (b := 31) (a := p % 31 + i) (by omega) (by decide)), nI_add, ra_at _ hpi (by decide), Option.bind_some, ra_nf_ap]
    by_cases c : k < S (p + i)
    · rw [if_pos (nI_lt c (by omega))]
      exact ⟨_, S, rfl, fun j => Or.inl rfl⟩
    · rw [if_neg (nI_nlt (by omega) (by omega)), nI_1, ra_put _ _ hpi (by decide), Option.bind_some, ra_upd, nI_1, Option.bind_some]
      obtain ⟨y, S', e1, e2⟩ := ih (i + 1) m (ra_un S (p + i) (k + 1)) (by omega) (by omega) (fun j hj => by
        unfold ra_un
        split
        · omega
        · exact hS j hj)
      refine ⟨y, S', e1, fun j => ?_⟩
      rcases e2 j with z | ⟨z, i', z1, z2, z3⟩
      · by_cases e : j = p + i
        · right
          rw [e, ra_us] at z
          rw [e]
          exact ⟨z, i, Nat.le_refl _, rfl, by omega⟩
        · rw [ra_ud _ _ e] at z
          exact Or.inl z
      · exact Or.inr ⟨z, i', by omega, z2, z3⟩
theorem rk_see (g : Nat → Nat) {p k : Nat} (hp : p < 558) (hk : k ≤ 20) (S : Nat → Nat) (hS : ∀ j, j < 558 → S j ≤ 21) (hn : S p ≤ k) :
    ∃ S', f_X1_see (ra_nf g) (ra_nf S) (nI p) (nI k) = some (ra_nf S') ∧ (∀ j, S' j = S j ∨ (S' j = k + 1 ∧ ∃ i', j = p + i' ∧ p % 31 + i' < 31)) ∧ S' p = k + 1 := by
  have hrem : rf_rem (nI p) 31 = nI (p % 31) := pk_rem (d := 31) (by omega) (by decide) (by decide)
  have h31 : p % 31 < 31 := Nat.mod_lt _ (by decide)
  obtain ⟨y, S', e1, e2⟩ := rk_seeL g hp hk (30 - p % 31) 1 19999 (ra_un S p (k + 1)) (by omega) (by omega) (fun j hj => by
    unfold ra_un
    split
    · omega
    · exact hS j hj)
  have hfu : rf_fu = 19999 + 1 := rfl
  refine ⟨S', ?_, fun j => ?_, ?_⟩
  · unfold f_X1_see
    rw [hrem, Option.bind_some, hfu, f_X1_see_L8]
    have i0 : nI (p % 31) + 0 = nI (p % 31) := nI_add (p % 31) 0
    have i1 : nI p + 0 = nI p := nI_add p 0
    rw [i0, i1, if_neg (show ¬ (31 : Int32) ≤ nI (p % 31) from nI_ge (b := 31) (a := p % 31) h31 (by decide)), ra_at _ hp (by decide), Option.bind_some, ra_nf_ap, if_neg (nI_nlt hn (by omega)), nI_1, ra_put _ _ hp (by decide), Option.bind_some, ra_upd, Option.bind_some]
    have e1 : f_X1_see_L8 (ra_nf g) (nI p) (nI k) (nI (p % 31)) 19999 (0 + 1) (ra_nf (ra_un S p (k + 1))) = _ := e1
    rw [e1]
    rfl
  · rcases e2 j with z | ⟨z, i', z1, z2, z3⟩
    · by_cases e : j = p
      · right
        rw [e, ra_us] at z
        rw [e]
        exact ⟨z, 0, rfl, h31⟩
      · rw [ra_ud _ _ e] at z
        exact Or.inl z
    · exact Or.inr ⟨z, i', z2, z3⟩
  · rcases e2 p with z | ⟨z, i', z1, z2, z3⟩
    · rw [ra_us] at z
      exact z
    · exact z
end RSpread
end
section
/-! the class's way to the least: layer by layer, to the end -/
section RLeast
variable {γ κ τ : Nat → Nat}
def rk_dn (γ κ τ : Nat → Nat) (h : Bool) (E K : rd_X → Nat → Prop) : Prop := ∀ x q a, E x q → rd_al a x → rd_kp γ κ τ a x → K (rd_st γ κ τ a x) (q + rd_c h a)
theorem rk_pop {hb : Bool} {x0 : rd_X} {mst P : Nat} {E E' K : rd_X → Nat → Prop} {g W H S : Nat → Nat} {p k : Nat} (hp : p < 558) (hw : W (P % 9 * 558 + p) = k + 1) (hI : rk_I γ κ τ hb x0 mst P E K g W H S)
    (hE : ∀ x q, E x q → E' x q) (hE6 : ∀ x q, E' x q → q ≤ P ∧ x.1 < γ 0 ∧ rd_bd (γ 0) x) (hc : ∃ y q, rd_dom y (rd_xp p k) ∧ E' y q ∧ q ≤ P) :
    rk_I γ κ τ hb x0 mst P E' K (ra_un g 0 (g 0 - 1)) (ra_un W (P % 9 * 558 + p) 0) (ra_un H (P % 9) (H (P % 9) - 1)) S ∧ 1 ≤ H (P % 9) ∧ 1 ≤ g 0 := by
  obtain ⟨⟨a1, a2⟩, ⟨a3, a4⟩, a5, a6, ⟨a7, a8⟩, a9, a10⟩ := hI
  have hm9 : P % 9 < 9 := Nat.mod_lt _ (by decide)
  have hn := rk_n_dn (W := W) (l := P % 9) hp (by omega)
  have hH := a7 _ hm9
  have hH1 : 1 ≤ H (P % 9) := by omega
  have hsm := rk_sm_up (H := H) (v := H (P % 9) - 1) hm9
  have hsm0 : H (P % 9) ≤ rk_sm H := by
    unfold rk_sm
    have : P % 9 = 0 ∨ P % 9 = 1 ∨ P % 9 = 2 ∨ P % 9 = 3 ∨ P % 9 = 4 ∨ P % 9 = 5 ∨ P % 9 = 6 ∨ P % 9 = 7 ∨ P % 9 = 8 := by omega
    rcases this with e | e | e | e | e | e | e | e | e
    all_goals rw [e]; omega
  refine ⟨⟨⟨a1, a2⟩, ⟨fun i hi => ?_, a4⟩, fun l p' k' hl hp' hw' => ?_, fun p' k' h1 h2 => ?_, ⟨fun l hl => ?_, ?_⟩, hE6, fun y q hk => ?_⟩, hH1, by omega⟩
  · unfold ra_un
    split
    · omega
    · exact a3 i hi
  · by_cases e : l * 558 + p' = P % 9 * 558 + p
    · rw [e, ra_us] at hw'
      omega
    · rw [ra_ud _ _ e] at hw'
      exact a5 l p' k' hl hp' hw'
  · obtain ⟨y, q, e1, e2, e3⟩ := a6 p' k' h1 h2
    exact ⟨y, q, hE y q e1, e2, e3⟩
  · by_cases e : l = P % 9
    · rw [e, ra_us]
      omega
    · rw [ra_ud _ _ e, rk_n_ot hp e, a7 l hl]
  · show g 0 - 1 = _
    omega
  · rcases a10 y q hk with z | ⟨y', hd, z⟩
    · exact Or.inl z
    · right
      rcases z with ⟨q', z1, z2⟩ | ⟨l, h1, h2, h3, h4, h5, h6⟩
      · exact ⟨y', hd, Or.inl ⟨q', hE y' q' z1, z2⟩⟩
      · by_cases e : l * 558 + rd_pl y' = P % 9 * 558 + p
        · have el : l = P % 9 := by omega
          have ep : rd_pl y' = p := by omega
          rw [e, hw] at h6
          have ey : rd_xp p k = y' := by
            have hx := rd_pl_xp h4 h5
            rw [ep, show y'.2.2.2 = k by omega] at hx
            exact hx
          obtain ⟨y2, q2, c1, c2, c3⟩ := hc
          rw [ey] at c1
          rw [el, rk_pr_0] at h2
          exact ⟨y2, rd_dom_t c1 hd, Or.inl ⟨q2, c2, by omega⟩⟩
        · refine ⟨y', hd, Or.inr ⟨l, h1, h2, h3, h4, h5, ?_⟩⟩
          rw [ra_ud _ _ e]
          exact h6
theorem rk_slL (hok : ra_ok γ κ τ) {hb : Bool} {x0 : rd_X} {mst P : Nat} (hm : mst ≤ 200) (hP : P ≤ 300) :
    ∀ (n m : Nat) (E K : rd_X → Nat → Prop) (g f W H S : Nat → Nat), n ≤ 558 → n < m → rk_I γ κ τ hb x0 mst P E K g W H S → rk_dn γ κ τ hb E K → (g 2 = if hb then 1 else 0) → rk_cf γ f → (∀ j, n ≤ j → j < 558 → W (P % 9 * 558 + j) = 0) →
    ∃ y E' K' g' f' W' H' S', f_X1_spreadLayer_L9 (ra_nf κ) (ra_nf τ) (nI P) (nI (P % 9)) m (ra_te n) (ra_nf g) (ra_nf f) (ra_nf W) (ra_nf H) (ra_nf S) = some (y, ra_nf g', ra_nf f', ra_nf W', ra_nf H', ra_nf S') ∧ rk_I γ κ τ hb x0 mst P E' K' g' W' H' S' ∧ rk_dn γ κ τ hb E' K' ∧ (g' 2 = if hb then 1 else 0) ∧ rk_cf γ f' ∧ (∀ y q, K y q → K' y q) ∧ (∀ j, j < 558 → W' (P % 9 * 558 + j) = 0) := by
  have hm9 : P % 9 < 9 := Nat.mod_lt _ (by decide)
  intro n
  induction n with
  | zero =>
    intro m E K g f W H S hn hm' hI hdn hg2 hcf hz
    obtain ⟨m, rfl⟩ : ∃ q, m = q + 1 := ⟨m - 1, by omega⟩
    refine ⟨ra_te 0, E, K, g, f, W, H, S, ?_, hI, hdn, hg2, hcf, fun y q h => h, fun j hj => hz j (Nat.zero_le _) hj⟩
    rw [f_X1_spreadLayer_L9, if_pos (by decide)]
  | succ p ih =>
    intro m E K g f W H S hn hm' hI hdn hg2 hcf hz
    obtain ⟨m, rfl⟩ : ∃ q, m = q + 1 := ⟨m - 1, by omega⟩
    obtain ⟨⟨a1, a2⟩, ⟨a3, a4⟩, a5, a6, ⟨a7, a8⟩, a9, a10⟩ := id hI
    have hp : p < 558 := by omega
    have hHl : H (P % 9) ≤ 558 := by rw [a7 _ hm9]; exact rk_n_le W _
    have hg0 : g 0 ≤ 5022 := by rw [a8]; exact rk_sm_le a7
    have hWp := a3 (P % 9 * 558 + p) (by omega)
    have hSp := a4 p hp
    rw [f_X1_spreadLayer_L9, ra_te_s, if_neg (nI_pos (by omega)), ra_at _ hm9 (by decide), Option.bind_some, ra_nf_ap]
    by_cases h0 : H (P % 9) = 0
    · rw [if_pos (show nI (H (P % 9)) ≤ 0 by rw [h0]; decide)]
      refine ⟨_, E, K, g, f, W, H, S, rfl, hI, hdn, hg2, hcf, fun y q h => h, fun j hj => ?_⟩
      have hc := a7 _ hm9
      rw [h0] at hc
      by_cases e : W (P % 9 * 558 + j) = 0
      · exact e
      · have := ra_cnt_ge (f := fun p => decide (W (P % 9 * 558 + p) ≠ 0)) (i := j) (decide_eq_true e) 558 hj
        unfold rk_n at hc
        omega
    · rw [if_neg (nI_nle (by omega) (by omega))]
      have e1 : nI (P % 9) * 558 + nI p = nI (P % 9 * 558 + p) := by
        show nI (P % 9) * nI 558 + nI p = _
        rw [pk_mul, nI_add]
      have hi : P % 9 * 558 + p < 5022 := by omega
      rw [e1, Option.bind_some, ra_at _ hi (by decide), Option.bind_some, ra_nf_ap, show nI (W (P % 9 * 558 + p)) - 1 = ra_te (W (P % 9 * 558 + p)) from rfl, Option.bind_some]
      have e0 : ((0 : Int32) ≤ ra_te (W (P % 9 * 558 + p))) = (0 + 1 ≤ W (P % 9 * 558 + p)) := ra_le_te (c := 0) (by omega) (by decide)
      by_cases cw : W (P % 9 * 558 + p) = 0
      · have n0 : ¬ (0 : Int32) ≤ ra_te (W (P % 9 * 558 + p)) := fun z => by rw [e0] at z; omega
        rw [if_neg n0, ra_te_p, Option.bind_some]
        exact ih m E K g f W H S (by omega) (by omega) hI hdn hg2 hcf (fun j h1 h2 => by
          by_cases e : j = p
          · rw [e]; exact cw
          · exact hz j (by omega) h2)
      · obtain ⟨k, hk⟩ : ∃ k, W (P % 9 * 558 + p) = k + 1 := ⟨W (P % 9 * 558 + p) - 1, by omega⟩
        have y0 : (0 : Int32) ≤ ra_te (W (P % 9 * 558 + p)) := by rw [e0]; omega
        rw [if_pos y0, hk, ra_te_s]
        obtain ⟨hr, hfr⟩ := a5 (P % 9) p k hm9 hp hk
        rw [rk_pr_0] at hr
        have hbd : rd_bd (γ 0) (rd_xp p k) := ⟨Nat.le_of_lt hfr, by show p / 31 % 3 ≤ 2; omega, by show p % 31 ≤ 30; omega, by show k ≤ 20; omega⟩
        have p1 : f_X2_put 5022 (ra_nf W) (nI (P % 9 * 558 + p)) 0 = some (ra_nf (ra_un W (P % 9 * 558 + p) 0)) := by
          rw [ra_put _ _ hi (by decide)]
          exact congrArg some (ra_upd W _ 0)
        have p2 : f_X2_put 9 (ra_nf H) (nI (P % 9)) (nI (H (P % 9)) - 1) = some (ra_nf (ra_un H (P % 9) (H (P % 9) - 1))) := by
          rw [ra_put _ _ hm9 (by decide), show nI (H (P % 9)) - 1 = nI (H (P % 9) - 1) from pk_sub (b := 1) (by omega), ra_upd]
        rw [p1, Option.bind_some, Option.bind_some, p2, Option.bind_some, ra_nf_ap]
        by_cases cs : k < S p
        · obtain ⟨y, q, e1, e2, e3⟩ := a6 p k hp cs
          obtain ⟨hI2, b1, b2⟩ := rk_pop (E' := E) hp hk hI (fun x q h => h) a9 ⟨y, q, e3, e1, e2⟩
          rw [show nI (g 0) - 1 = nI (g 0 - 1) from pk_sub (b := 1) b2, Option.bind_some, ra_at _ hp (by decide), Option.bind_some, ra_nf_ap, if_pos (nI_lt cs (by omega)), ra_te_p, Option.bind_some, ra_upd]
          exact ih m E K _ f _ _ S (by omega) (by omega) hI2 hdn hg2 hcf (fun j h1 h2 => by
            by_cases e : j = p
            · rw [e, ra_us]
            · rw [ra_ud _ _ (by omega)]
              exact hz j (by omega) h2)
        · obtain ⟨hI2, b1, b2⟩ := rk_pop (E' := fun x q => E x q ∨ (x = rd_xp p k ∧ q = P)) hp hk hI (fun x q h => Or.inl h) (fun x q h => by
            rcases h with h | ⟨rfl, rfl⟩
            · exact a9 x q h
            · exact ⟨Nat.le_refl _, hfr, hbd⟩) ⟨rd_xp p k, P, rd_dom_r _, Or.inr ⟨rfl, rfl⟩, Nat.le_refl _⟩
          rw [show nI (g 0) - 1 = nI (g 0 - 1) from pk_sub (b := 1) b2, Option.bind_some, ra_at _ hp (by decide), Option.bind_some, ra_nf_ap, if_neg (nI_nlt (by omega) (by omega)), ra_upd]
          obtain ⟨S', s1, s2, s3⟩ := rk_see (ra_un g 0 (g 0 - 1)) hp (show k ≤ 20 by omega) S a4 (by omega)
          rw [s1, Option.bind_some]
          have hI3 : rk_I γ κ τ hb x0 mst P (fun x q => E x q ∨ (x = rd_xp p k ∧ q = P)) K (ra_un g 0 (g 0 - 1)) (ra_un W (P % 9 * 558 + p) 0) (ra_un H (P % 9) (H (P % 9) - 1)) S' := by
            obtain ⟨c1, ⟨c3, c4⟩, c5, c6, c7, c8, c9⟩ := hI2
            refine ⟨c1, ⟨c3, fun j hj => ?_⟩, c5, fun p' k' h1 h2 => ?_, c7, c8, c9⟩
            · rcases s2 j with z | ⟨z, _⟩
              · rw [z]; exact c4 j hj
              · omega
            · rcases s2 p' with z | ⟨z, i', z1, z2⟩
              · rw [z] at h2
                exact c6 p' k' h1 h2
              · refine ⟨rd_xp p k, P, Or.inr ⟨rfl, rfl⟩, Nat.le_refl _, ?_, ?_, ?_, ?_⟩
                · show p' / 31 / 3 ≤ p / 31 / 3
                  have : p' / 31 = p / 31 := by omega
                  rw [this]
                  exact Nat.le_refl _
                · show p / 31 % 3 ≤ p' / 31 % 3
                  have : p' / 31 = p / 31 := by omega
                  rw [this]
                  exact Nat.le_refl _
                · show p % 31 ≤ p' % 31
                  omega
                · show k' ≤ k
                  omega
          obtain ⟨K', g', f', W', H', t1, t2, t3, t4, t5, t6, t7⟩ := rk_spread hok hm hP hp (show k ≤ 20 by omega) hfr hr hI3 hg2 hcf (by omega)
          rw [t1, Option.bind_some, ra_te_p, Option.bind_some]
          have hdn' : rk_dn γ κ τ hb (fun x q => E x q ∨ (x = rd_xp p k ∧ q = P)) K' := by
            intro x q a h1 h2 h3
            rcases h1 with h1 | ⟨rfl, rfl⟩
            · exact t5 _ _ (hdn x q a h1 h2 h3)
            · exact t6 a h2 h3
          obtain ⟨y, E2, K2, g2, f2, W2, H2, S2, u1, u2, u3, u4, u5, u6, u7⟩ := ih m _ K' g' f' W' H' S' (by omega) (by omega) t4 hdn' t2 t3 (fun j h1 h2 => by
            rw [t7 j h1 h2]
            by_cases e : j = p
            · rw [e, ra_us]
            · rw [ra_ud _ _ (by omega)]
              exact hz j (by omega) h2)
          exact ⟨y, E2, K2, g2, f2, W2, H2, S2, u1, u2, u3, u4, u5, fun y q h => u6 y q (t5 y q h), u7⟩
theorem rk_next {hb : Bool} {x0 : rd_X} {mst P : Nat} {E K : rd_X → Nat → Prop} {g W H S : Nat → Nat} (hI : rk_I γ κ τ hb x0 mst P E K g W H S) (hz : ∀ j, j < 558 → W (P % 9 * 558 + j) = 0) : rk_I γ κ τ hb x0 mst (P + 1) E K g W H S := by
  obtain ⟨a1, a2, a5, a6, a7, a9, a10⟩ := hI
  refine ⟨a1, a2, fun l p k hl hp hw => ?_, fun p k h1 h2 => ?_, a7, fun x q h => ?_, fun y q hk => ?_⟩
  · by_cases e : l = P % 9
    · rw [e, hz p hp] at hw
      omega
    · rw [rk_pr_s hl e]
      exact a5 l p k hl hp hw
  · obtain ⟨y, q, e1, e2, e3⟩ := a6 p k h1 h2
    exact ⟨y, q, e1, by omega, e3⟩
  · obtain ⟨e1, e2⟩ := a9 x q h
    exact ⟨by omega, e2⟩
  · rcases a10 y q hk with z | ⟨y', hd, z⟩
    · exact Or.inl z
    · right
      rcases z with z | ⟨l, h1, h2, h3, h4, h5, h6⟩
      · exact ⟨y', hd, Or.inl z⟩
      · by_cases e : l = P % 9
        · rw [e, hz _ h3] at h6
          omega
        · exact ⟨y', hd, Or.inr ⟨l, h1, by rw [rk_pr_s h1 e]; exact h2, h3, h4, h5, h6⟩⟩
/-- at the end the best is the least -/
theorem rk_end {hb : Bool} {x0 : rd_X} {mst P : Nat} {E K : rd_X → Nat → Prop} {g W H S : Nat → Nat} (hI : rk_I γ κ τ hb x0 mst P E K g W H S) (hdn : rk_dn γ κ τ hb E K) (h0 : K x0 0) (hx0 : rd_bd (γ 0) x0) (hs : g 1 ≤ P ∨ g 0 = 0) : ∀ t, rd_off γ κ τ hb x0 t → g 1 ≤ t := by
  obtain ⟨⟨a1, a2⟩, ⟨a3, a4⟩, a5, a6, ⟨a7, a8⟩, a9, a10⟩ := hI
  have hCv : ∀ y q, K y q → g 1 ≤ q ∨ ∃ y' q', rd_dom y' y ∧ E y' q' ∧ q' ≤ q := by
    intro y q hk
    rcases a10 y q hk with z | ⟨y', hd, z⟩
    · exact Or.inl z
    · rcases z with ⟨q', z1, z2⟩ | ⟨l, h1, h2, h3, h4, h5, h6⟩
      · exact Or.inr ⟨y', q', hd, z1, z2⟩
      · left
        have hp := (rk_pr_le P l).1
        rcases hs with hs | hs
        · omega
        · exfalso
          have hH0 : H l = 0 := by
            unfold rk_sm at a8
            have : l = 0 ∨ l = 1 ∨ l = 2 ∨ l = 3 ∨ l = 4 ∨ l = 5 ∨ l = 6 ∨ l = 7 ∨ l = 8 := by omega
            rcases this with e | e | e | e | e | e | e | e | e
            all_goals rw [e]; omega
          have hc := a7 l h1
          have := ra_cnt_ge (f := fun p => decide (W (l * 558 + p) ≠ 0)) (i := rd_pl y') (decide_eq_true (by omega)) 558 h3
          unfold rk_n at hc
          omega
  intro t hoff
  obtain ⟨l, y, g1, g2, g3⟩ := hoff
  rcases hCv x0 0 h0 with z | ⟨y', q', z1, z2, z3⟩
  · omega
  · have := rd_fin (h := hb) (best := g 1) (E := E) (fun x p hE => ⟨(a9 x p hE).2.1, (a9 x p hE).2.2, fun a ha hka => hCv _ _ (hdn x p a hE ha hka)⟩) l x0 y y' q' z2 z1 hx0 g1 g2
    omega
theorem rk_L43 (hok : ra_ok γ κ τ) {hb : Bool} {x0 : rd_X} {mst : Nat} (hm : mst ≤ 200) (hx0 : rd_bd (γ 0) x0) (o1 o2 o3 : Nat → Int32) (q2 q3 q4 : Int32) :
    ∀ (d P m : Nat) (E K : rd_X → Nat → Prop) (g f W H S : Nat → Nat), P + d = mst + 1 → d < m → rk_I γ κ τ hb x0 mst P E K g W H S → rk_dn γ κ τ hb E K → K x0 0 → (g 2 = if hb then 1 else 0) → rk_cf γ f →
    ∃ y g' f' W' H' S', f_X1_least_L43 o1 o2 o3 q2 q3 q4 (ra_nf κ) (ra_nf τ) m (nI P) (ra_nf g) (ra_nf f) (ra_nf W) (ra_nf H) (ra_nf S) = some (y, ra_nf g', ra_nf f', ra_nf W', ra_nf H', ra_nf S') ∧ g' 1 ≤ mst + 1 ∧ (g' 1 = mst + 1 ∨ rd_off γ κ τ hb x0 (g' 1)) ∧ ∀ t, rd_off γ κ τ hb x0 t → g' 1 ≤ t := by
  intro d
  induction d with
  | zero =>
    intro P m E K g f W H S hd hm' hI hdn h0 hg2 hcf
    obtain ⟨m, rfl⟩ : ∃ q, m = q + 1 := ⟨m - 1, by omega⟩
    have hI' := hI
    obtain ⟨⟨a1, a2⟩, -⟩ := hI'
    refine ⟨nI P, g, f, W, H, S, ?_, a1, a2, rk_end hI hdn h0 hx0 (Or.inl (by omega))⟩
    rw [f_X1_least_L43, ra_nf_ap, if_pos (nI_le (by omega) (by omega))]
  | succ d ih =>
    intro P m E K g f W H S hd hm' hI hdn h0 hg2 hcf
    obtain ⟨m, rfl⟩ : ∃ q, m = q + 1 := ⟨m - 1, by omega⟩
    have hI' := hI
    obtain ⟨⟨a1, a2⟩, ⟨a3, a4⟩, a5, a6, ⟨a7, a8⟩, a9, a10⟩ := hI'
    have hg0 : g 0 ≤ 5022 := by rw [a8]; exact rk_sm_le a7
    rw [f_X1_least_L43, ra_nf_ap, ra_nf_ap]
    by_cases c1 : g 1 ≤ P
    · rw [if_pos (nI_le c1 (by omega))]
      exact ⟨_, g, f, W, H, S, rfl, a1, a2, rk_end hI hdn h0 hx0 (Or.inl c1)⟩
    · rw [if_neg (nI_ge (by omega) (by omega))]
      by_cases c0 : g 0 = 0
      · rw [if_pos (show nI (g 0) ≤ 0 by rw [c0]; decide)]
        exact ⟨_, g, f, W, H, S, rfl, a1, a2, rk_end hI hdn h0 hx0 (Or.inr c0)⟩
      · rw [if_neg (nI_nle (by omega) (by omega))]
        obtain ⟨y, E', K', g', f', W', H', S', u1, u2, u3, u4, u5, u6, u7⟩ := rk_slL hok hm (P := P) (by omega) 558 rf_fu E K g f W H S (Nat.le_refl _) (by unfold rf_fu; omega) hI hdn hg2 hcf (fun j h1 h2 => by omega)
        have hrem : rf_rem (nI P) 9 = nI (P % 9) := pk_rem (d := 9) (by omega) (by decide) (by decide)
        have u1 : f_X1_spreadLayer_L9 (ra_nf κ) (ra_nf τ) (nI P) (nI (P % 9)) rf_fu 557 (ra_nf g) (ra_nf f) (ra_nf W) (ra_nf H) (ra_nf S) = _ := u1
        have hsl : f_X1_spreadLayer (ra_nf g) (ra_nf f) (ra_nf κ) (ra_nf τ) (ra_nf W) (ra_nf H) (ra_nf S) (nI P) = some (ra_nf g', ra_nf f', ra_nf W', ra_nf H', ra_nf S') := by
          unfold f_X1_spreadLayer
          rw [hrem, Option.bind_some, u1]
          rfl
        rw [hsl, Option.bind_some, nI_1, Option.bind_some]
        exact ih (P + 1) m E' K' g' f' W' H' S' (by omega) (by omega) (rk_next u2 u7) u3 (u6 _ _ h0) u4 u5
theorem rk_clr (n : Nat) (C : Nat → Int32) (hC : ∀ q, q < n → C q = nI 0) : ∃ c : Nat → Nat, C = ra_nf c ∧ ∀ q, q < n → c q = 0 := by
  obtain ⟨z, hz⟩ := ra_fex C
  refine ⟨fun q => if q < n then 0 else z q, ?_, fun q hq => if_pos hq⟩
  funext q
  show C q = nI (if q < n then 0 else z q)
  by_cases c : q < n
  · rw [if_pos c, hC q c]
  · rw [if_neg c, hz]
    rfl
theorem rk_cl2 (a b c : Nat → Int32) : ∀ (d k m : Nat) (C : Nat → Int32), k + d = 9 → d < m → (∀ q, q < k → C q = nI 0) → ∃ y C', f_X1_clear_L2 a b c m (nI k) C = some (y, C') ∧ ∀ q, q < 9 → C' q = nI 0 := by
  intro d
  induction d with
  | zero =>
    intro k m C hk hm hC
    obtain ⟨m, rfl⟩ : ∃ q, m = q + 1 := ⟨m - 1, by omega⟩
    obtain rfl : k = 9 := by omega
    refine ⟨nI 9, C, ?_, hC⟩
    rw [f_X1_clear_L2, if_pos (by decide)]
  | succ d ih =>
    intro k m C hk hm hC
    obtain ⟨m, rfl⟩ : ∃ q, m = q + 1 := ⟨m - 1, by omega⟩
    have k3 : (nI k).toNatClampNeg = k := nI_clamp (by omega)
    rw [f_X1_clear_L2, if_neg (show ¬ (9 : Int32) ≤ nI k from nI_ge (b := 9) (by omega) (by decide)), if_pos (nI_in (N := 9) (by omega) (by decide)), k3, Option.bind_some, nI_1]
    exact ih (k + 1) m _ (by omega) (by omega) (fun q hq => by
      unfold upd
      by_cases e : q = k
      · rw [if_pos e]
        rfl
      · rw [if_neg e]
        exact hC q (by omega))
theorem rk_cl26 (a b c : Nat → Int32) : ∀ (d k m : Nat) (C : Nat → Int32), k + d = 5022 → d < m → (∀ q, q < k → C q = nI 0) → ∃ y C', f_X1_clear_L26 a b c m (nI k) C = some (y, C') ∧ ∀ q, q < 5022 → C' q = nI 0 := by
  intro d
  induction d with
  | zero =>
    intro k m C hk hm hC
    obtain ⟨m, rfl⟩ : ∃ q, m = q + 1 := ⟨m - 1, by omega⟩
    obtain rfl : k = 5022 := by omega
    refine ⟨nI 5022, C, ?_, hC⟩
    rw [f_X1_clear_L26, if_pos (show (5022 : Int32) ≤ nI 5022 from nI_le (a := 5022) (b := 5022) (Nat.le_refl _) (by decide))]
  | succ d ih =>
    intro k m C hk hm hC
    obtain ⟨m, rfl⟩ : ∃ q, m = q + 1 := ⟨m - 1, by omega⟩
    have k3 : (nI k).toNatClampNeg = k := nI_clamp (by omega)
    rw [f_X1_clear_L26, if_neg (show ¬ (5022 : Int32) ≤ nI k from nI_ge (b := 5022) (by omega) (by decide)), if_pos (nI_in (N := 5022) (by omega) (by decide)), k3, Option.bind_some, nI_1]
    exact ih (k + 1) m _ (by omega) (by omega) (fun q hq => by
      unfold upd
      by_cases e : q = k
      · rw [if_pos e]
        rfl
      · rw [if_neg e]
        exact hC q (by omega))
theorem rk_cl50 (a b c : Nat → Int32) : ∀ (d k m : Nat) (C : Nat → Int32), k + d = 558 → d < m → (∀ q, q < k → C q = nI 0) → ∃ y C', f_X1_clear_L50 a b c m (nI k) C = some (y, C') ∧ ∀ q, q < 558 → C' q = nI 0 := by
  intro d
  induction d with
  | zero =>
    intro k m C hk hm hC
    obtain ⟨m, rfl⟩ : ∃ q, m = q + 1 := ⟨m - 1, by omega⟩
    obtain rfl : k = 558 := by omega
    refine ⟨nI 558, C, ?_, hC⟩
    rw [f_X1_clear_L50, if_pos (show (558 : Int32) ≤ nI 558 from nI_le (a := 558) (b := 558) (Nat.le_refl _) (by decide))]
  | succ d ih =>
    intro k m C hk hm hC
    obtain ⟨m, rfl⟩ : ∃ q, m = q + 1 := ⟨m - 1, by omega⟩
    have k3 : (nI k).toNatClampNeg = k := nI_clamp (by omega)
    rw [f_X1_clear_L50, if_neg (show ¬ (558 : Int32) ≤ nI k from nI_ge (b := 558) (by omega) (by decide)), if_pos (nI_in (N := 558) (by omega) (by decide)), k3, Option.bind_some, nI_1]
    exact ih (k + 1) m _ (by omega) (by omega) (fun q hq => by
      unfold upd
      by_cases e : q = k
      · rw [if_pos e]
        rfl
      · rw [if_neg e]
        exact hC q (by omega))
theorem rk_clear (g w h s : Nat → Int32) : ∃ W H S : Nat → Nat, f_X1_clear g w h s = some (upd g 0 0, ra_nf W, ra_nf H, ra_nf S) ∧ (∀ q, q < 5022 → W q = 0) ∧ (∀ q, q < 9 → H q = 0) ∧ (∀ q, q < 558 → S q = 0) := by
  obtain ⟨y1, C1, e1, h1⟩ := rk_cl2 g w s 9 0 rf_fu h rfl (by unfold rf_fu; omega) (fun q hq => absurd hq (Nat.not_lt_zero q))
  obtain ⟨y2, C2, e2, h2⟩ := rk_cl26 g C1 s 5022 0 rf_fu w rfl (by unfold rf_fu; omega) (fun q hq => absurd hq (Nat.not_lt_zero q))
  obtain ⟨y3, C3, e3, h3⟩ := rk_cl50 g C2 C1 558 0 rf_fu s rfl (by unfold rf_fu; omega) (fun q hq => absurd hq (Nat.not_lt_zero q))
  have e1 : f_X1_clear_L2 g w s rf_fu 0 h = _ := e1
  have e2 : f_X1_clear_L26 g C1 s rf_fu 0 w = _ := e2
  have e3 : f_X1_clear_L50 g C2 C1 rf_fu 0 s = _ := e3
  obtain ⟨H, rfl, hH⟩ := rk_clr 9 C1 h1
  obtain ⟨W, rfl, hW⟩ := rk_clr 5022 C2 h2
  obtain ⟨S, rfl, hS⟩ := rk_clr 558 C3 h3
  refine ⟨W, H, S, ?_, hW, hH, hS⟩
  unfold f_X1_clear
  simp only [e1, Option.bind_some, e2, e3]
/-- the class's least -/
theorem rc_least (hok : ra_ok γ κ τ) (g f kk tt w h s : Nat → Int32) {hb : Bool} {mst used : Nat} (hm : mst ≤ 200) (hu : used ≤ 2) :
    ∃ r b1 b2 b3 b4 b5 b6 b7, f_X1_least g f kk tt w h s (ra_nf γ) (ra_nf κ) (ra_nf τ) (nI used) (nI (if hb then 1 else 0)) (nI mst) = some (r, b1, b2, b3, b4, b5, b6, b7) ∧ rd_best γ κ τ hb (γ 3, used, γ 4, γ 5) mst r := by
  obtain ⟨h0, h1, h2, h3, h4, h5, h6, h7, h8, h9, h10, h11⟩ := id hok
  unfold f_X1_least
  rw [rc_isOff γ (by omega) (by omega)]
  by_cases ho : γ 3 < γ 0
  · rw [if_pos ho, Option.bind_some, if_pos (show nI 0 = 0 from rfl)]
    obtain ⟨W, H, S, e1, hW, hH, hS⟩ := rk_clear g w h s
    have hx0 : rd_bd (γ 0) (γ 3, used, γ 4, γ 5) := ⟨h1, hu, h6, h7⟩
    have hbit : nI (if hb then 1 else 0) &&& 1 = nI (if hb then 1 else 0) := ra_b01
    obtain ⟨z, rfl⟩ := ra_fex g
    have hg : upd (upd (upd (ra_nf z) 0 0) 2 (nI (if hb then 1 else 0))) 1 (nI mst + 1) = ra_nf (ra_un (ra_un (ra_un z 0 0) 2 (if hb then 1 else 0)) 1 (mst + 1)) := by
      rw [nI_1, show (0 : Int32) = nI 0 from rfl, ra_upd, ra_upd, ra_upd]
    have g1 : (ra_un (ra_un (ra_un z 0 0) 2 (if hb then 1 else 0)) 1 (mst + 1)) 1 = mst + 1 := rfl
    have g0 : (ra_un (ra_un (ra_un z 0 0) 2 (if hb then 1 else 0)) 1 (mst + 1)) 0 = 0 := rfl
    have g2 : (ra_un (ra_un (ra_un z 0 0) 2 (if hb then 1 else 0)) 1 (mst + 1)) 2 = (if hb then 1 else 0) := rfl
    generalize ra_un (ra_un (ra_un z 0 0) 2 (if hb then 1 else 0)) 1 (mst + 1) = g' at hg g1 g0 g2
    have hz9 : ∀ l, l < 9 → rk_n W l = 0 := by
      intro l hl
      unfold rk_n
      have : ∀ n, n ≤ 558 → ra_cnt (fun p => decide (W (l * 558 + p) ≠ 0)) n = 0 := by
        intro n
        induction n with
        | zero => intro _; rfl
        | succ n ih =>
          intro hn
          unfold ra_cnt
          rw [ih (by omega), hW (l * 558 + n) (by omega)]
          rfl
      exact this 558 (Nat.le_refl _)
    have hI : rk_I γ κ τ hb (γ 3, used, γ 4, γ 5) mst 0 (fun _ _ => False) (fun _ _ => False) g' W H S := by
      refine ⟨⟨by omega, Or.inl g1⟩, ⟨fun i hi => by rw [hW i hi]; omega, fun i hi => by rw [hS i hi]; omega⟩, fun l p k hl hp hw => ?_, fun p k hp hk => ?_, ⟨fun l hl => by rw [hH l hl, hz9 l hl], ?_⟩, fun x q hf => hf.elim, fun y q hf => hf.elim⟩
      · rw [hW _ (by omega)] at hw
        omega
      · rw [hS p hp] at hk
        omega
      · unfold rk_sm
        rw [hH 0 (by decide), hH 1 (by decide), hH 2 (by decide), hH 3 (by decide), hH 4 (by decide), hH 5 (by decide), hH 6 (by decide), hH 7 (by decide), hH 8 (by decide), g0]
    have hcf : rk_cf γ γ := ⟨rfl, rfl, rfl, rfl, h8⟩
    obtain ⟨ga, Wa, Ha, a1, a2, a3, a4, a5⟩ := rk_arrive hok hI hm hcf (price := 0) (used := used) (Nat.le_refl _) (by omega) (by omega) hu h1 h6 h7 (rd_rc_0 _)
    have a1 : f_X1_arrive (ra_nf g') (ra_nf γ) (ra_nf W) (ra_nf H) (ra_nf S) 0 (nI used) = _ := a1
    obtain ⟨y, gb, fb, Wb, Hb, Sb, c1, c2, c3, c4⟩ := rk_L43 hok hm hx0 (ra_nf γ) (ra_nf κ) (ra_nf τ) (nI used) (nI (if hb then 1 else 0)) (nI mst) (mst + 1) 0 rf_fu _ _ ga γ Wa Ha S (by omega) (by unfold rf_fu; omega) a3 (fun x q a hf => hf.elim) (Or.inr ⟨rfl, rfl⟩) (by rw [a2]; exact g2) hcf
    have c1 : f_X1_least_L43 (ra_nf γ) (ra_nf κ) (ra_nf τ) (nI used) (nI (if hb then 1 else 0)) (nI mst) (ra_nf κ) (ra_nf τ) rf_fu 0 (ra_nf ga) (ra_nf γ) (ra_nf Wa) (ra_nf Ha) (ra_nf S) = _ := c1
    rw [e1, Option.bind_some, rc_copy, Option.bind_some, if_pos hbit, Option.bind_some]
    show ∃ r b1 b2 b3 b4 b5 b6 b7, ((f_X1_arrive (upd (upd (upd (ra_nf z) 0 0) 2 (nI (if hb then 1 else 0))) 1 (nI mst + 1)) (ra_nf γ) (ra_nf W) (ra_nf H) (ra_nf S) 0 (nI used)).bind _) = some (r, b1, b2, b3, b4, b5, b6, b7) ∧ _
    rw [hg, a1, Option.bind_some]
    show ∃ r b1 b2 b3 b4 b5 b6 b7, ((f_X1_least_L43 (ra_nf γ) (ra_nf κ) (ra_nf τ) (nI used) (nI (if hb then 1 else 0)) (nI mst) (ra_nf κ) (ra_nf τ) rf_fu 0 (ra_nf ga) (ra_nf γ) (ra_nf Wa) (ra_nf Ha) (ra_nf S)).bind _) = some (r, b1, b2, b3, b4, b5, b6, b7) ∧ _
    rw [c1, Option.bind_some]
    show ∃ r b1 b2 b3 b4 b5 b6 b7, (if nI mst < ra_nf gb 1 then _ else _) = some (r, b1, b2, b3, b4, b5, b6, b7) ∧ _
    rw [ra_nf_ap]
    by_cases cm : mst < gb 1
    · rw [if_pos (nI_lt cm (by omega))]
      refine ⟨_, _, _, _, _, _, _, _, rfl, Or.inr ⟨rfl, fun t ht hoff => ?_⟩⟩
      have := c4 t hoff
      omega
    · rw [if_neg (nI_nlt (by omega) (by omega))]
      refine ⟨_, _, _, _, _, _, _, _, rfl, Or.inl ⟨gb 1, by omega, rfl, ?_, fun t ht hoff => ?_⟩⟩
      · rcases c3 with c3 | c3
        · omega
        · exact c3
      · have := c4 t hoff
        omega
  · rw [if_neg ho, Option.bind_some, if_neg (show ¬ nI 1 = 0 by decide)]
    refine ⟨_, _, _, _, _, _, _, _, rfl, Or.inl ⟨0, Nat.zero_le _, rfl, ⟨[], (γ 3, used, γ 4, γ 5), rfl, ?_, rfl⟩, fun t ht => absurd ht (Nat.not_lt_zero t)⟩⟩
    show γ 0 ≤ γ 3
    omega
end RLeast
end
section
/-! the first move: soonest, gentlest -/
section RFirst
variable {γ κ τ : Nat → Nat}
theorem rd_st_cf {f : Nat → Nat} (h : f 0 = γ 0 ∧ f 1 = γ 1 ∧ f 2 = γ 2 ∧ f 7 = γ 7) (a : Nat) (x : rd_X) : rd_st f κ τ a x = rd_st γ κ τ a x := by
  obtain ⟨h0, h1, h2, h7⟩ := h
  have e : rd_b f κ τ a x ↔ rd_b γ κ τ a x := by
    unfold rd_b
    rw [h1, h2, h7]
  unfold rd_st
  by_cases c : a = 7
  · rw [if_pos c, if_pos c]
  · rw [if_neg c, if_neg c]
    by_cases o : rd_b γ κ τ a x
    · rw [if_pos o, if_pos (e.mpr o)]
    · rw [if_neg o, if_neg (fun z => o (e.mp z))]
theorem rd_go_cf {f : Nat → Nat} (h : f 0 = γ 0 ∧ f 1 = γ 1 ∧ f 2 = γ 2 ∧ f 7 = γ 7) : ∀ (l : List Nat) (x y : rd_X), rd_go f κ τ l x y ↔ rd_go γ κ τ l x y := by
  intro l
  induction l with
  | nil => intro x y; exact Iff.rfl
  | cons a l ih =>
    intro x y
    show (x.1 < f 0 ∧ rd_al a x ∧ rd_go f κ τ l (rd_st f κ τ a x) y) ↔ (x.1 < γ 0 ∧ rd_al a x ∧ rd_go γ κ τ l (rd_st γ κ τ a x) y)
    rw [h.1, rd_st_cf h, ih]
theorem rd_off_cf {f : Nat → Nat} (h : f 0 = γ 0 ∧ f 1 = γ 1 ∧ f 2 = γ 2 ∧ f 7 = γ 7) (hb : Bool) (x : rd_X) (t : Nat) : rd_off f κ τ hb x t ↔ rd_off γ κ τ hb x t := by
  unfold rd_off
  constructor
  · rintro ⟨l, y, h1, h2, h3⟩
    exact ⟨l, y, (rd_go_cf h l x y).mp h1, by rw [← h.1]; exact h2, h3⟩
  · rintro ⟨l, y, h1, h2, h3⟩
    exact ⟨l, y, (rd_go_cf h l x y).mpr h1, by rw [h.1]; exact h2, h3⟩
theorem rd_best_cf {f : Nat → Nat} (h : f 0 = γ 0 ∧ f 1 = γ 1 ∧ f 2 = γ 2 ∧ f 7 = γ 7) {hb : Bool} {x : rd_X} {L : Nat} {r : Int32} (hr : rd_best f κ τ hb x L r) : rd_best γ κ τ hb x L r := by
  rcases hr with ⟨t, h1, h2, h3, h4⟩ | ⟨h1, h2⟩
  · exact Or.inl ⟨t, h1, h2, (rd_off_cf h hb x t).mp h3, fun t' ht' z => h4 t' ht' ((rd_off_cf h hb x t').mpr z)⟩
  · exact Or.inr ⟨h1, fun t ht z => h2 t ht ((rd_off_cf h hb x t).mpr z)⟩
theorem ra_mv_cf (γ κ τ : Nat → Nat) (a : Nat) : (ra_mv γ κ τ a) 0 = γ 0 ∧ (ra_mv γ κ τ a) 1 = γ 1 ∧ (ra_mv γ κ τ a) 2 = γ 2 ∧ (ra_mv γ κ τ a) 7 = γ 7 := by
  unfold ra_mv
  split
  · unfold ra_tr
    split
    · exact ⟨rfl, rfl, rfl, rfl⟩
    · exact ⟨rfl, rfl, rfl, rfl⟩
  · split
    · exact ⟨rfl, rfl, rfl, rfl⟩
    · exact ⟨rfl, rfl, rfl, rfl⟩
theorem ra_mv_st (γ κ τ : Nat → Nat) {a : Nat} (ha : a < 8) : rd_st γ κ τ a (γ 3, 0, γ 4, γ 5) = ((ra_mv γ κ τ a) 3, (if a = 5 then 1 else 0), (ra_mv γ κ τ a) 4, (ra_mv γ κ τ a) 5) := by
  unfold rd_st ra_mv
  by_cases c7 : a = 7
  · subst c7
    rfl
  · rw [if_neg c7, if_pos (show a < 7 by omega)]
    have e : rd_b γ κ τ a (γ 3, 0, γ 4, γ 5) ↔ ra_ov γ κ τ a := Iff.rfl
    unfold ra_tr
    by_cases o : ra_ov γ κ τ a
    · rw [if_pos (e.mpr o), if_pos o]
      rfl
    · rw [if_neg (fun z => o (e.mp z)), if_neg o]
      rfl
theorem rd_off_pos {h : Bool} : ∀ (l : List Nat) (x y : rd_X), rd_go γ κ τ l x y → x.1 < γ 0 → γ 0 ≤ y.1 → 1 ≤ rd_cs h l := by
  intro l
  induction l with
  | nil =>
    intro x y h1 h2 h3
    have h1 : x = y := h1
    subst h1
    omega
  | cons a l ih =>
    intro x y h1 h2 h3
    show 1 ≤ rd_c h a + rd_cs h l
    by_cases c7 : a = 7
    · have hs : (rd_st γ κ τ a x).1 = x.1 := by
        unfold rd_st
        rw [if_pos c7]
      have := ih _ y h1.2.2 (by rw [hs]; exact h2) h3
      omega
    · have := rd_c_pos (h := h) c7
      omega
/-- a first move of a least way that is a move -/
def rd_gd (γ κ τ : Nat → Nat) (h : Bool) (x0 : rd_X) (tot b : Nat) : Prop := rd_al b x0 ∧ rd_c h b ≤ tot ∧ rd_st γ κ τ b x0 ≠ x0 ∧ rd_off γ κ τ h (rd_st γ κ τ b x0) (tot - rd_c h b)
theorem rd_gd_ex {h : Bool} {x0 : rd_X} {tot : Nat} (hx : x0.1 < γ 0) (hmin : ∀ t, t < tot → ¬ rd_off γ κ τ h x0 t) : ∀ (l : List Nat) (y : rd_X), rd_go γ κ τ l x0 y → γ 0 ≤ y.1 → rd_cs h l = tot → ∃ b, b ≤ 7 ∧ rd_gd γ κ τ h x0 tot b := by
  intro l
  induction l with
  | nil =>
    intro y h1 h2 h3
    have h1 : x0 = y := h1
    subst h1
    omega
  | cons a l ih =>
    intro y h1 h2 h3
    obtain ⟨g1, g2, g3⟩ := h1
    have h3 : rd_c h a + rd_cs h l = tot := h3
    by_cases e : rd_st γ κ τ a x0 = x0
    · rw [e] at g3
      have hoff : rd_off γ κ τ h x0 (rd_cs h l) := ⟨l, y, g3, h2, rfl⟩
      have : ¬ rd_cs h l < tot := fun z => hmin _ z hoff
      exact ih y g3 h2 (by omega)
    · exact ⟨a, g2.1, g2, by omega, e, ⟨l, y, g3, h2, by omega⟩⟩
theorem rd_off_s {h : Bool} {x0 : rd_X} {a t : Nat} (hx : x0.1 < γ 0) (ha : rd_al a x0) (ho : rd_off γ κ τ h (rd_st γ κ τ a x0) t) : rd_off γ κ τ h x0 (rd_c h a + t) := by
  obtain ⟨l, y, h1, h2, h3⟩ := ho
  exact ⟨a :: l, y, ⟨hx, ha, h1⟩, h2, by show rd_c h a + rd_cs h l = _; rw [h3]⟩
/-- whether the rest of a move is the least left -/
theorem rd_best_rest {h : Bool} {x0 : rd_X} {tot a : Nat} {r : Int32} (hx : x0.1 < γ 0) (ha : rd_al a x0) (hc : rd_c h a ≤ tot) (ht : tot < 1000) (hmin : ∀ t, t < tot → ¬ rd_off γ κ τ h x0 t) (hr : rd_best γ κ τ h (rd_st γ κ τ a x0) (tot - rd_c h a) r) :
    r = nI (tot - rd_c h a) ↔ rd_off γ κ τ h (rd_st γ κ τ a x0) (tot - rd_c h a) := by
  rcases hr with ⟨t, h1, h2, h3, h4⟩ | ⟨h1, h2⟩
  · constructor
    · intro e
      rw [h2] at e
      have e := (nI_eq (by omega) (by omega)).mp e
      rw [← e]
      exact h3
    · intro ho
      have : ¬ (tot - rd_c h a < t) := fun z => h4 _ z ho
      have h5 := rd_off_s hx ha h3
      have h6 : ¬ (rd_c h a + t < tot) := fun z => hmin _ z h5
      rw [h2]
      congr 1
      omega
  · constructor
    · intro e
      rw [h1] at e
      have e := congrArg Int32.toInt e
      rw [nI_toInt (by omega), show (-9 : Int32).toInt = -9 by decide] at e
      omega
    · intro ho
      exact absurd ho (h2 _ (Nat.le_refl _))
theorem ra_fmL (G M : Nat → Nat) (h : ra_ok γ κ τ) (ho : γ 3 < γ 0) {hb : Bool} (p2 p1r p2r : Int32) {tot : Nat} (ht : tot ≤ 150) (hmin : ∀ t, t < tot → ¬ rd_off γ κ τ hb (γ 3, 0, γ 4, γ 5) t) :
    ∀ (d a m m' : Nat) (ta tb tc s1 s2 s3 s4 s5 s6 s7 C : Nat → Int32), a + d = 8 → d < m → d < m' → (∃ b, a ≤ b ∧ b ≤ 7 ∧ rd_gd γ κ τ hb (γ 3, 0, γ 4, γ 5) tot b) →
    ∃ r b1 b2 b3 b4 b5 b6 b7 b8 b9 b10 C', f_X2_firstMove_L25 (ra_nf G) (ra_nf γ) (ra_nf κ) (ra_nf τ) (nI (if hb then 1 else 0)) p2 (nI tot) m (nI a) ta tb tc s1 s2 s3 s4 s5 s6 s7 = some (Sum.inl (r, b1, b2, b3, b4, b5, b6, b7, b8, b9, b10)) ∧
      f_X3_off_L67 (ra_nf M) (ra_st γ κ τ) p1r p2r (nI (if hb then 1 else 0)) (nI (rd_e (γ 3, 0, γ 4, γ 5))) (nI tot) m' (nI a) C = some (Sum.inl (r, C')) := by
  obtain ⟨h0, h1, h2, h3, h4, h5, h6, h7, h8, h9, h10, h11⟩ := id h
  have hx0 : rd_bd (γ 0) (γ 3, 0, γ 4, γ 5) := ⟨h1, Nat.zero_le _, h6, h7⟩
  obtain ⟨-, he0⟩ := rd_de h0 hx0
  intro d
  induction d with
  | zero =>
    intro a m m' ta tb tc s1 s2 s3 s4 s5 s6 s7 C ha hm hm' hex
    obtain ⟨b, b1, b2, b3⟩ := hex
    omega
  | succ d ih =>
    intro a m m' ta tb tc s1 s2 s3 s4 s5 s6 s7 C ha hm hm' hex
    obtain ⟨m, rfl⟩ : ∃ q, m = q + 1 := ⟨m - 1, by omega⟩
    obtain ⟨m', rfl⟩ : ∃ q, m' = q + 1 := ⟨m' - 1, by omega⟩
    have ha8 : a < 8 := by omega
    have hal : rd_al a (γ 3, 0, γ 4, γ 5) := ⟨by omega, fun z => by have : (0 : Nat) = 2 := z.2; omega⟩
    have hc8 := rd_c_le hb a
    have c7 : ¬ (7 : Int32) < nI a := nI_nlt (a := 7) (b := a) (by omega) (by decide)
    have hmv := rc_move h ho (v := a) (by omega)
    have hmp := rc_movePrice (h := hb) ha8
    have hco := rr_costOf (h := hb) ha8
    have hyb := rd_st_bd (κ := κ) (τ := τ) hx0 ho hal
    obtain ⟨-, hey⟩ := rd_de h0 hyb
    have hrb : f_X3_roomBy (ra_nf M) (ra_st γ κ τ) (nI (rd_e (γ 3, 0, γ 4, γ 5))) (nI a) = some (nI (rd_e (rd_st γ κ τ a (γ 3, 0, γ 4, γ 5)))) := by
      rcases rr_roomBy M h hx0 ho ha8 with ⟨_, z⟩ | ⟨z, _⟩
      · exact z
      · exact absurd hal z
    have hnext : ¬ rd_gd γ κ τ hb (γ 3, 0, γ 4, γ 5) tot a → ∃ b, a + 1 ≤ b ∧ b ≤ 7 ∧ rd_gd γ κ τ hb (γ 3, 0, γ 4, γ 5) tot b := by
      intro hn
      obtain ⟨b, b1, b2, b3⟩ := hex
      have : b ≠ a := fun e => hn (by rw [← e]; exact b3)
      exact ⟨b, by omega, b2, b3⟩
    rw [f_X2_firstMove_L25, f_X3_off_L67, if_neg c7, if_neg c7, hmp, hco, hrb]
    simp only [Option.bind_some, rc_copy]
    by_cases cc : rd_c hb a ≤ tot
    · rw [pk_sub cc]
      have n0 : ¬ nI (tot - rd_c hb a) < 0 := nI_pos (by omega)
      obtain ⟨rr, C', e1, e2⟩ := rr_least M h C (hb := hb) hyb (lim := tot - rd_c hb a) (by omega)
      have hmvok := ra_mv_ok (v := a) h ho
      obtain ⟨r, w1, w2, w3, w4, w5, w6, w7, e3, e4⟩ := rc_least hmvok s1 s2 s3 s4 s5 s6 s7 (hb := hb) (mst := tot - rd_c hb a) (used := if a = 5 then 1 else 0) (by omega) (by split <;> omega)
      have e4 := rd_best_cf (ra_mv_cf γ κ τ a) e4
      rw [← ra_mv_st γ κ τ ha8] at e4
      have hrr := rd_best_eq e4 e2
      subst hrr
      have hiff := rd_best_rest ho hal cc (by omega) hmin e4
      have nE : ¬ nI (rd_e (rd_st γ κ τ a (γ 3, 0, γ 4, γ 5))) < 0 := nI_pos (by omega)
      simp only [hmv, Option.bind_some, if_neg n0, if_neg nE]
      by_cases hg : rd_gd γ κ τ hb (γ 3, 0, γ 4, γ 5) tot a
      · have hst0 : ¬ nI (rd_e (rd_st γ κ τ a (γ 3, 0, γ 4, γ 5))) = nI (rd_e (γ 3, 0, γ 4, γ 5)) := fun z => hg.2.2.1 (rd_e_inj h0 hyb hx0 ((nI_eq (by omega) (by omega)).mp z))
        have her : r = nI (tot - rd_c hb a) := hiff.mpr hg.2.2.2
        rw [if_neg hst0, e1, Option.bind_some, if_pos her]
        by_cases c5 : a = 5
        · have x5 : nI a = 5 := by rw [c5]; rfl
          rw [if_pos c5] at e3
          have e3 : f_X1_least s1 s2 s3 s4 s5 s6 s7 (ra_nf (ra_mv γ κ τ a)) (ra_nf κ) (ra_nf τ) 1 (nI (if hb then 1 else 0)) (nI (tot - rd_c hb a)) = _ := e3
          rw [if_pos x5, e3, Option.bind_some, if_pos her]
          exact ⟨_, _, _, _, _, _, _, _, _, _, _, _, rfl, rfl⟩
        · have x5 : ¬ nI a = 5 := fun z => c5 ((nI_eq (b := 5) (by omega) (by decide)).mp z)
          rw [if_neg c5] at e3
          have e3 : f_X1_least s1 s2 s3 s4 s5 s6 s7 (ra_nf (ra_mv γ κ τ a)) (ra_nf κ) (ra_nf τ) 0 (nI (if hb then 1 else 0)) (nI (tot - rd_c hb a)) = _ := e3
          rw [if_neg x5, e3, Option.bind_some, if_pos her]
          exact ⟨_, _, _, _, _, _, _, _, _, _, _, _, rfl, rfl⟩
      · have hex' := hnext hg
        have hner : ¬ r = nI (tot - rd_c hb a) := by
          intro her
          have hoff := hiff.mp her
          have hself : rd_st γ κ τ a (γ 3, 0, γ 4, γ 5) = (γ 3, 0, γ 4, γ 5) := by
            by_cases e : rd_st γ κ τ a (γ 3, 0, γ 4, γ 5) = (γ 3, 0, γ 4, γ 5)
            · exact e
            · exact absurd ⟨hal, cc, e, hoff⟩ hg
          rw [hself] at hoff
          have : ¬ (tot - rd_c hb a < tot) := fun z => hmin _ z hoff
          have ha7 : a = 7 := by
            by_cases e : a = 7
            · exact e
            · have := rd_c_pos (h := hb) e
              omega
          obtain ⟨b, b1, b2, b3⟩ := hex'
          omega
        have hB : ∃ C2, (if nI (rd_e (rd_st γ κ τ a (γ 3, 0, γ 4, γ 5))) = nI (rd_e (γ 3, 0, γ 4, γ 5)) then f_X3_off_L67 (ra_nf M) (ra_st γ κ τ) p1r p2r (nI (if hb then 1 else 0)) (nI (rd_e (γ 3, 0, γ 4, γ 5))) (nI tot) m' (nI a + 1) C else (f_X3_leastFrom (ra_nf M) (ra_st γ κ τ) C (nI (rd_e (rd_st γ κ τ a (γ 3, 0, γ 4, γ 5)))) (nI (tot - rd_c hb a)) (nI (if hb then 1 else 0))).bind fun (q11 : Int32 × (Nat → Int32)) => if q11.1 = nI (tot - rd_c hb a) then (some (Sum.inl (nI a, q11.2))) else f_X3_off_L67 (ra_nf M) (ra_st γ κ τ) p1r p2r (nI (if hb then 1 else 0)) (nI (rd_e (γ 3, 0, γ 4, γ 5))) (nI tot) m' (nI a + 1) q11.2) = f_X3_off_L67 (ra_nf M) (ra_st γ κ τ) p1r p2r (nI (if hb then 1 else 0)) (nI (rd_e (γ 3, 0, γ 4, γ 5))) (nI tot) m' (nI (a + 1)) C2 := by
          rw [nI_1]
          by_cases cs : nI (rd_e (rd_st γ κ τ a (γ 3, 0, γ 4, γ 5))) = nI (rd_e (γ 3, 0, γ 4, γ 5))
          · rw [if_pos cs]
            exact ⟨C, rfl⟩
          · rw [if_neg cs, e1, Option.bind_some, if_neg hner]
            exact ⟨_, rfl⟩
        obtain ⟨C2, hB⟩ := hB
        rw [hB]
        by_cases c5 : a = 5
        · have x5 : nI a = 5 := by rw [c5]; rfl
          rw [if_pos c5] at e3
          have e3 : f_X1_least s1 s2 s3 s4 s5 s6 s7 (ra_nf (ra_mv γ κ τ a)) (ra_nf κ) (ra_nf τ) 1 (nI (if hb then 1 else 0)) (nI (tot - rd_c hb a)) = _ := e3
          rw [if_pos x5, e3, Option.bind_some, if_neg hner, nI_1]
          exact ih (a + 1) m m' _ _ _ _ _ _ _ _ _ _ _ (by omega) (by omega) (by omega) hex'
        · have x5 : ¬ nI a = 5 := fun z => c5 ((nI_eq (b := 5) (by omega) (by decide)).mp z)
          rw [if_neg c5] at e3
          have e3 : f_X1_least s1 s2 s3 s4 s5 s6 s7 (ra_nf (ra_mv γ κ τ a)) (ra_nf κ) (ra_nf τ) 0 (nI (if hb then 1 else 0)) (nI (tot - rd_c hb a)) = _ := e3
          rw [if_neg x5, e3, Option.bind_some, if_neg hner, nI_1]
          exact ih (a + 1) m m' _ _ _ _ _ _ _ _ _ _ _ (by omega) (by omega) (by omega) hex'
    · have n0 : nI tot - nI (rd_c hb a) < 0 := pk_sneg (by omega) (by omega)
      have hng : ¬ rd_gd γ κ τ hb (γ 3, 0, γ 4, γ 5) tot a := fun z => cc z.2.1
      simp only [hmv, Option.bind_some, if_pos n0, nI_1]
      have hcl : ∀ X : Option ((Int32 × (Nat → Int32) × (Nat → Int32) × (Nat → Int32) × (Nat → Int32) × (Nat → Int32) × (Nat → Int32) × (Nat → Int32) × (Nat → Int32) × (Nat → Int32) × (Nat → Int32)) ⊕ (Int32 × (Nat → Int32) × (Nat → Int32) × (Nat → Int32) × (Nat → Int32) × (Nat → Int32) × (Nat → Int32) × (Nat → Int32) × (Nat → Int32) × (Nat → Int32) × (Nat → Int32))), (if nI a = 5 then X else X) = X := fun X => by split <;> rfl
      rw [hcl]
      exact ih (a + 1) m m' _ _ _ _ _ _ _ _ _ _ _ (by omega) (by omega) (by omega) (hnext hng)
end RFirst
end
section
/-! soonest, gentlest -/
section RSoon
variable {γ κ τ : Nat → Nat}
theorem ra_room0 (γ κ τ : Nat → Nat) : f_X3_roomOf (ra_st γ κ τ 4) (ra_st γ κ τ 5) (ra_st γ κ τ 3) 0 = some (nI (rd_e (γ 3, 0, γ 4, γ 5))) := by
  rw [ra_st_lo _ _ _ (by decide), ra_st_lo _ _ _ (by decide), ra_st_lo _ _ _ (by decide)]
  exact rr_roomOf (γ 4) (γ 5) (γ 3) 0
/-- the least, both sides -/
theorem ra_sn0 (M : Nat → Nat) (h : ra_ok γ κ τ) {hb : Bool} {mst : Nat} (hm : mst ≤ 150) (s1 s2 s3 s4 s5 s6 s7 C : Nat → Int32) :
    ∃ r b1 b2 b3 b4 b5 b6 b7 C', f_X1_least s1 s2 s3 s4 s5 s6 s7 (ra_nf γ) (ra_nf κ) (ra_nf τ) 0 (nI (if hb then 1 else 0)) (nI mst) = some (r, b1, b2, b3, b4, b5, b6, b7) ∧
      f_X3_off (ra_nf M) (ra_st γ κ τ) C 0 (nI mst) (nI (if hb then 1 else 0)) = some (r, C') := by
  obtain ⟨h0, h1, h2, h3, h4, h5, h6, h7, h8, h9, h10, h11⟩ := id h
  obtain ⟨r, b1, b2, b3, b4, b5, b6, b7, e1, e2⟩ := rc_least h s1 s2 s3 s4 s5 s6 s7 (hb := hb) (mst := mst) (used := 0) (by omega) (by omega)
  have e1 : f_X1_least s1 s2 s3 s4 s5 s6 s7 (ra_nf γ) (ra_nf κ) (ra_nf τ) 0 (nI (if hb then 1 else 0)) (nI mst) = _ := e1
  unfold f_X3_off
  rw [rr_isOff M γ κ τ (by omega) (by omega), ra_room0]
  by_cases ho : γ 3 < γ 0
  · have hx0 : rd_bd (γ 0) (γ 3, 0, γ 4, γ 5) := ⟨h1, Nat.zero_le _, h6, h7⟩
    obtain ⟨r', C', e3, e4⟩ := rr_least M h C (hb := hb) hx0 (lim := mst) (by omega)
    have := rd_best_eq e2 e4
    subst this
    refine ⟨r, b1, b2, b3, b4, b5, b6, b7, C', e1, ?_⟩
    rw [if_pos ho, Option.bind_some, if_pos (show nI 0 = 0 from rfl), Option.bind_some, e3]
    rfl
  · refine ⟨r, b1, b2, b3, b4, b5, b6, b7, C, e1, ?_⟩
    have er : r = 0 := by
      have hoff : rd_off γ κ τ hb (γ 3, 0, γ 4, γ 5) 0 := ⟨[], (γ 3, 0, γ 4, γ 5), rfl, by show γ 0 ≤ γ 3; omega, rfl⟩
      rcases e2 with ⟨t, a1, a2, a3, a4⟩ | ⟨a1, a2⟩
      · have : t = 0 := by
          by_cases e : t = 0
          · exact e
          · exact absurd hoff (a4 0 (by omega))
        rw [a2, this]
        rfl
      · exact absurd hoff (a2 0 (Nat.zero_le _))
    rw [er, if_neg ho, Option.bind_some, if_neg (show ¬ nI 1 = 0 by decide)]
    rfl
theorem ra_sn1 (G M : Nat → Nat) (h : ra_ok γ κ τ) {hb : Bool} {mst : Nat} (hm : mst ≤ 150) (ta tb tc s1 s2 s3 s4 s5 s6 s7 C : Nat → Int32) :
    ∃ r b1 b2 b3 b4 b5 b6 b7 b8 b9 b10 C', f_X2_firstMove (ra_nf G) (ra_nf γ) (ra_nf κ) (ra_nf τ) ta tb tc s1 s2 s3 s4 s5 s6 s7 (nI (if hb then 1 else 0)) (nI mst) = some (r, b1, b2, b3, b4, b5, b6, b7, b8, b9, b10) ∧
      f_X3_off (ra_nf M) (ra_st γ κ τ) C (nI 1) (nI mst) (nI (if hb then 1 else 0)) = some (r, C') := by
  obtain ⟨h0, h1, h2, h3, h4, h5, h6, h7, h8, h9, h10, h11⟩ := id h
  obtain ⟨r, b1, b2, b3, b4, b5, b6, b7, e1, e2⟩ := rc_least h s1 s2 s3 s4 s5 s6 s7 (hb := hb) (mst := mst) (used := 0) (by omega) (by omega)
  have e1 : f_X1_least s1 s2 s3 s4 s5 s6 s7 (ra_nf γ) (ra_nf κ) (ra_nf τ) 0 (nI (if hb then 1 else 0)) (nI mst) = _ := e1
  unfold f_X3_off f_X2_firstMove
  rw [rr_isOff M γ κ τ (by omega) (by omega), ra_room0, e1, Option.bind_some]
  by_cases ho : γ 3 < γ 0
  · have hx0 : rd_bd (γ 0) (γ 3, 0, γ 4, γ 5) := ⟨h1, Nat.zero_le _, h6, h7⟩
    obtain ⟨r', C', e3, e4⟩ := rr_least M h C (hb := hb) hx0 (lim := mst) (by omega)
    have := rd_best_eq e2 e4
    subst this
    rw [if_pos ho, Option.bind_some, if_pos (show nI 0 = 0 from rfl), Option.bind_some, e3, Option.bind_some, if_neg (show ¬ nI 1 = 0 by decide)]
    rcases e2 with ⟨t, a1, a2, a3, a4⟩ | ⟨a1, a2⟩
    · subst a2
      obtain ⟨l, y, g1, g2, g3⟩ := a3
      have hpos := rd_off_pos (h := hb) l _ y g1 ho g2
      obtain ⟨b, hb7, hgd⟩ := rd_gd_ex (h := hb) ho a4 l y g1 g2 g3
      obtain ⟨r, c1, c2, c3, c4, c5, c6, c7, c8, c9, c10, C2, f1, f2⟩ := ra_fmL G M h ho (hb := hb) (nI mst) (nI 1) (nI mst) (tot := t) (by omega) a4 8 0 rf_fu rf_fu ta tb tc b1 b2 b3 b4 b5 b6 b7 C' rfl (by unfold rf_fu; omega) (by unfold rf_fu; omega) ⟨b, Nat.zero_le _, hb7, hgd⟩
      have f1 : f_X2_firstMove_L25 (ra_nf G) (ra_nf γ) (ra_nf κ) (ra_nf τ) (nI (if hb then 1 else 0)) (nI mst) (nI t) rf_fu 0 ta tb tc b1 b2 b3 b4 b5 b6 b7 = _ := f1
      have f2 : f_X3_off_L67 (ra_nf M) (ra_st γ κ τ) (nI 1) (nI mst) (nI (if hb then 1 else 0)) (nI (rd_e (γ 3, 0, γ 4, γ 5))) (nI t) rf_fu 0 C' = _ := f2
      refine ⟨r, c1, c2, c3, c4, c5, c6, c7, c8, c9, c10, C2, ?_, ?_⟩
      · rw [if_pos (show (0 : Int32) < nI t from nI_lt (a := 0) (b := t) (by omega) (by omega)), f1]
        rfl
      · rw [if_pos (show (0 : Int32) ≤ nI t from nI_pos' (by omega)), f2]
        rfl
    · subst a1
      rw [if_neg (show ¬ (0 : Int32) < -9 by decide), if_neg (show ¬ (0 : Int32) ≤ -9 by decide)]
      exact ⟨_, _, _, _, _, _, _, _, _, _, _, _, rfl, rfl⟩
  · have er : r = 0 := by
      have hoff : rd_off γ κ τ hb (γ 3, 0, γ 4, γ 5) 0 := ⟨[], (γ 3, 0, γ 4, γ 5), rfl, by show γ 0 ≤ γ 3; omega, rfl⟩
      rcases e2 with ⟨t, a1, a2, a3, a4⟩ | ⟨a1, a2⟩
      · have : t = 0 := by
          by_cases e : t = 0
          · exact e
          · exact absurd hoff (a4 0 (by omega))
        rw [a2, this]
        rfl
      · exact absurd hoff (a2 0 (Nat.zero_le _))
    rw [er, if_neg ho, Option.bind_some, if_neg (show ¬ nI 1 = 0 by decide), if_neg (show ¬ nI 1 = 0 by decide), if_neg (show ¬ (0 : Int32) < 0 by decide)]
    exact ⟨_, _, _, _, _, _, _, _, _, _, _, _, rfl, rfl⟩
theorem tm_soonest (G M φ : Nat → Nat) (h : ra_ok γ κ τ) (ta tb tc s1 s2 s3 s4 s5 s6 s7 C : Nat → Int32) (p : Int32) :
    ∃ r b1 b2 b3 b4 b5 b6 b7 b8 b9 b10 C' φ', f_X2_soonest (ra_nf G) (ra_nf γ) (ra_nf κ) (ra_nf τ) ta tb tc s1 s2 s3 s4 s5 s6 s7 (ra_nf φ) p = some (r, b1, b2, b3, b4, b5, b6, b7, b8, b9, b10, ra_nf φ') ∧ f_X3_soonest (ra_nf M) (ra_st γ κ τ) (ra_nf φ) C p = some (r, ra_nf φ', C') := by
  unfold f_X2_soonest f_X3_soonest
  rcases ra_either p with ⟨hp, e1, e2⟩ | ⟨e1, e2⟩
  · rw [e1, e2, Option.bind_some, Option.bind_some, if_neg (show ¬ nI 1 = 0 by decide), if_neg (show ¬ nI 1 = 0 by decide)]
    rcases hp with rfl | rfl
    · obtain ⟨r, b1, b2, b3, b4, b5, b6, b7, C', f1, f2⟩ := ra_sn0 M h (hb := false) (mst := 120) (by decide) s1 s2 s3 s4 s5 s6 s7 C
      have f1 : f_X1_least s1 s2 s3 s4 s5 s6 s7 (ra_nf γ) (ra_nf κ) (ra_nf τ) 0 0 120 = _ := f1
      have f2 : f_X3_off (ra_nf M) (ra_st γ κ τ) C (nI 0) 120 0 = _ := f2
      rw [if_pos (show nI 0 = 0 from rfl), f1, f2]
      exact ⟨_, _, _, _, _, _, _, _, _, _, _, _, _, rfl, rfl⟩
    · obtain ⟨r, b1, b2, b3, b4, b5, b6, b7, b8, b9, b10, C', f1, f2⟩ := ra_sn1 G M h (hb := false) (mst := 120) (by decide) ta tb tc s1 s2 s3 s4 s5 s6 s7 C
      have f1 : f_X2_firstMove (ra_nf G) (ra_nf γ) (ra_nf κ) (ra_nf τ) ta tb tc s1 s2 s3 s4 s5 s6 s7 0 120 = _ := f1
      have f2 : f_X3_off (ra_nf M) (ra_st γ κ τ) C (nI 1) 120 0 = _ := f2
      rw [if_neg (show ¬ nI 1 = 0 by decide), f1, f2]
      exact ⟨_, _, _, _, _, _, _, _, _, _, _, _, _, rfl, rfl⟩
  · rw [e1, e2]
    simp (disch := omega) only [↓reduceIte, ra_lit, ra_nf_ap, ra_st_lo, nI_add, nI_clamp, nI_ltI, nI_leI, nI_eq, Option.bind_some, if_true, if_false, not_false_eq_true, not_true_eq_false, ra_ltT, ra_ltF, ra_leT, ra_leF, ra_eqT, ra_eqF, or_false, false_or, or_true, true_or, and_true, true_and, and_false, false_and, rc_refuse, rr_no]
    exact ⟨_, _, _, _, _, _, _, _, _, _, _, _, _, rfl, rfl⟩
theorem tm_gentlest (G M φ : Nat → Nat) (h : ra_ok γ κ τ) (ta tb tc s1 s2 s3 s4 s5 s6 s7 C : Nat → Int32) (p : Int32) :
    ∃ r b1 b2 b3 b4 b5 b6 b7 b8 b9 b10 C' φ', f_X2_gentlest (ra_nf G) (ra_nf γ) (ra_nf κ) (ra_nf τ) ta tb tc s1 s2 s3 s4 s5 s6 s7 (ra_nf φ) p = some (r, b1, b2, b3, b4, b5, b6, b7, b8, b9, b10, ra_nf φ') ∧ f_X3_gentlest (ra_nf M) (ra_st γ κ τ) (ra_nf φ) C p = some (r, ra_nf φ', C') := by
  unfold f_X2_gentlest f_X3_gentlest
  rcases ra_either p with ⟨hp, e1, e2⟩ | ⟨e1, e2⟩
  · rw [e1, e2, Option.bind_some, Option.bind_some, if_neg (show ¬ nI 1 = 0 by decide), if_neg (show ¬ nI 1 = 0 by decide)]
    rcases hp with rfl | rfl
    · obtain ⟨r, b1, b2, b3, b4, b5, b6, b7, C', f1, f2⟩ := ra_sn0 M h (hb := true) (mst := 60) (by decide) s1 s2 s3 s4 s5 s6 s7 C
      have f1 : f_X1_least s1 s2 s3 s4 s5 s6 s7 (ra_nf γ) (ra_nf κ) (ra_nf τ) 0 1 60 = _ := f1
      have f2 : f_X3_off (ra_nf M) (ra_st γ κ τ) C (nI 0) 60 1 = _ := f2
      rw [if_pos (show nI 0 = 0 from rfl), f1, f2]
      exact ⟨_, _, _, _, _, _, _, _, _, _, _, _, _, rfl, rfl⟩
    · obtain ⟨r, b1, b2, b3, b4, b5, b6, b7, b8, b9, b10, C', f1, f2⟩ := ra_sn1 G M h (hb := true) (mst := 60) (by decide) ta tb tc s1 s2 s3 s4 s5 s6 s7 C
      have f1 : f_X2_firstMove (ra_nf G) (ra_nf γ) (ra_nf κ) (ra_nf τ) ta tb tc s1 s2 s3 s4 s5 s6 s7 1 60 = _ := f1
      have f2 : f_X3_off (ra_nf M) (ra_st γ κ τ) C (nI 1) 60 1 = _ := f2
      rw [if_neg (show ¬ nI 1 = 0 by decide), f1, f2]
      exact ⟨_, _, _, _, _, _, _, _, _, _, _, _, _, rfl, rfl⟩
  · rw [e1, e2]
    simp (disch := omega) only [↓reduceIte, ra_lit, ra_nf_ap, ra_st_lo, nI_add, nI_clamp, nI_ltI, nI_leI, nI_eq, Option.bind_some, if_true, if_false, not_false_eq_true, not_true_eq_false, ra_ltT, ra_ltF, ra_leT, ra_leF, ra_eqT, ra_eqF, or_false, false_or, or_true, true_or, and_true, true_and, and_false, false_and, rc_refuse, rr_no]
    exact ⟨_, _, _, _, _, _, _, _, _, _, _, _, _, rfl, rfl⟩
end RSoon
end
section
/-! what both sides hold between two calls of the law; each call keeps it -/
section LZStep
/-- G, M: whole numbers of the class and of the reference; γ κ τ: the finger; lt: letters; ρ: the row of numbers; b1 b2 b3, im: the image, where one was taken -/
def lz_F (G M γ κ τ lt ρ : Nat → Nat) (b1 b2 b3 im : Nat → Int32) : Prop :=
  ra_ok γ κ τ ∧ γ 8 ≤ 999 ∧ G 0 = M 1 ∧ G 0 ≤ 96 ∧ (∀ j, lt j ≤ 255) ∧ G 1 = M 2 ∧ G 1 ≤ 12 ∧ (∀ j, ρ j ≤ 9) ∧ G 2 = M 0 ∧ G 2 ≤ 1 ∧
  (G 2 = 1 → ∃ γ' κ' τ' : Nat → Nat, b1 = ra_nf γ' ∧ b2 = ra_nf κ' ∧ b3 = ra_nf τ' ∧ im = ra_st γ' κ' τ' ∧ ra_ok γ' κ' τ' ∧ γ' 8 ≤ 999)
variable {G M γ κ τ lt ρ : Nat → Nat} {b1 b2 b3 im : Nat → Int32}
theorem lz_ok (h : lz_F G M γ κ τ lt ρ b1 b2 b3 im) : ra_ok γ κ τ := h.1
theorem lz_8 (h : lz_F G M γ κ τ lt ρ b1 b2 b3 im) : γ 8 ≤ 999 := h.2.1
theorem lz_L (h : lz_F G M γ κ τ lt ρ b1 b2 b3 im) : G 0 = M 1 ∧ G 0 ≤ 96 ∧ (∀ j, lt j ≤ 255) := ⟨h.2.2.1, h.2.2.2.1, h.2.2.2.2.1⟩
theorem lz_R (h : lz_F G M γ κ τ lt ρ b1 b2 b3 im) : G 1 = M 2 ∧ G 1 ≤ 12 ∧ (∀ j, ρ j ≤ 9) := ⟨h.2.2.2.2.2.1, h.2.2.2.2.2.2.1, h.2.2.2.2.2.2.2.1⟩
theorem lz_set (h : lz_F G M γ κ τ lt ρ b1 b2 b3 im) {γ' κ' τ' : Nat → Nat} (h1 : ra_ok γ' κ' τ') (h2 : γ' 8 ≤ 999) : lz_F G M γ' κ' τ' lt ρ b1 b2 b3 im := ⟨h1, h2, h.2.2⟩
theorem lz_hand (h : lz_F G M γ κ τ lt ρ b1 b2 b3 im) {γ' κ' τ' M' : Nat → Nat} (h1 : ra_ok γ' κ' τ') (h2 : γ' 8 ≤ 999) (h3 : M' 0 = M 0) (h4 : M' 2 = M 2) : lz_F (ra_un G 0 0) (ra_un M' 1 0) γ' κ' τ' lt ρ b1 b2 b3 im := by
  obtain ⟨-, -, a1, a2, a3, a4, a5, a6, a7, a8, a9⟩ := h
  refine ⟨h1, h2, ?_, ?_, a3, ?_, ?_, a6, ?_, ?_, ?_⟩
  · rw [ra_us, ra_us]
  · rw [ra_us]
    omega
  · rw [ra_ud _ _ (by decide), ra_ud _ _ (by decide), h4]
    exact a4
  · rw [ra_ud _ _ (by decide)]
    exact a5
  · rw [ra_ud _ _ (by decide), ra_ud _ _ (by decide), h3]
    exact a7
  · rw [ra_ud _ _ (by decide)]
    exact a8
  · rw [ra_ud _ _ (by decide)]
    exact a9
theorem lz_judge (h : lz_F G M γ κ τ lt ρ b1 b2 b3 im) : lz_F (ra_un G 1 0) (ra_un M 2 0) γ κ τ lt ρ b1 b2 b3 im := by
  obtain ⟨h1, h2, a1, a2, a3, a4, a5, a6, a7, a8, a9⟩ := h
  refine ⟨h1, h2, ?_, ?_, a3, ?_, ?_, a6, ?_, ?_, ?_⟩
  · rw [ra_ud _ _ (by decide), ra_ud _ _ (by decide)]
    exact a1
  · rw [ra_ud _ _ (by decide)]
    exact a2
  · rw [ra_us, ra_us]
  · rw [ra_us]
    omega
  · rw [ra_ud _ _ (by decide), ra_ud _ _ (by decide)]
    exact a7
  · rw [ra_ud _ _ (by decide)]
    exact a8
  · rw [ra_ud _ _ (by decide)]
    exact a9
theorem lz_lots (h : lz_F G M γ κ τ lt ρ b1 b2 b3 im) (s s' : Nat) : lz_F (ra_un G 3 s) (ra_un M 6 s') γ κ τ lt ρ b1 b2 b3 im := by
  obtain ⟨h1, h2, a1, a2, a3, a4, a5, a6, a7, a8, a9⟩ := h
  refine ⟨h1, h2, ?_, ?_, a3, ?_, ?_, a6, ?_, ?_, ?_⟩
  · rw [ra_ud _ _ (by decide), ra_ud _ _ (by decide)]
    exact a1
  · rw [ra_ud _ _ (by decide)]
    exact a2
  · rw [ra_ud _ _ (by decide), ra_ud _ _ (by decide)]
    exact a4
  · rw [ra_ud _ _ (by decide)]
    exact a5
  · rw [ra_ud _ _ (by decide), ra_ud _ _ (by decide)]
    exact a7
  · rw [ra_ud _ _ (by decide)]
    exact a8
  · rw [ra_ud _ _ (by decide)]
    exact a9
theorem lz_year (h : lz_F G M γ κ τ lt ρ b1 b2 b3 im) (x y : Nat) : lz_F G (ra_un (ra_un M 4 x) 5 y) γ κ τ lt ρ b1 b2 b3 im := by
  obtain ⟨h1, h2, a1, a2, a3, a4, a5, a6, a7, a8, a9⟩ := h
  refine ⟨h1, h2, ?_, a2, a3, ?_, a5, a6, ?_, a8, a9⟩
  · rw [ra_ud _ _ (by decide), ra_ud _ _ (by decide)]
    exact a1
  · rw [ra_ud _ _ (by decide), ra_ud _ _ (by decide)]
    exact a4
  · rw [ra_ud _ _ (by decide), ra_ud _ _ (by decide)]
    exact a7
theorem lz_image (h : lz_F G M γ κ τ lt ρ b1 b2 b3 im) : lz_F (ra_un G 2 1) (ra_un M 0 1) γ κ τ lt ρ (ra_nf γ) (ra_nf κ) (ra_nf τ) (ra_st γ κ τ) := by
  obtain ⟨h1, h2, a1, a2, a3, a4, a5, a6, a7, a8, a9⟩ := h
  refine ⟨h1, h2, ?_, ?_, a3, ?_, ?_, a6, ?_, ?_, fun _ => ⟨γ, κ, τ, rfl, rfl, rfl, rfl, h1, h2⟩⟩
  · rw [ra_ud _ _ (by decide), ra_ud _ _ (by decide)]
    exact a1
  · rw [ra_ud _ _ (by decide)]
    exact a2
  · rw [ra_ud _ _ (by decide), ra_ud _ _ (by decide)]
    exact a4
  · rw [ra_ud _ _ (by decide)]
    exact a5
  · rw [ra_us, ra_us]
  · rw [ra_us]
    omega
theorem lz_letter (h : lz_F G M γ κ τ lt ρ b1 b2 b3 im) (φ : Nat → Nat) (p : Int32) :
    ∃ r G' M' lt' φ', f_X2_letter (ra_nf G) (ra_nf lt) (ra_nf φ) p = some (r, ra_nf G', ra_nf lt', ra_nf φ') ∧ f_X3_letter (ra_nf M) (ra_nf lt) (ra_nf φ) p = some (r, ra_nf M', ra_nf lt', ra_nf φ') ∧ lz_F G' M' γ κ τ lt' ρ b1 b2 b3 im := by
  have h0 := h
  obtain ⟨h1, h2, a1, a2, a3, a4, a5, a6, a7, a8, a9⟩ := h
  rcases tm_letter G M lt φ rfl a1.symm a2 p with ⟨c, -, e2, e3⟩ | ⟨v, hv, hL, e2, e3⟩
  · exact ⟨_, _, _, _, _, e2, e3, h0⟩
  · refine ⟨_, _, _, _, _, e2, e3, h1, h2, ?_, ?_, ?_, ?_, ?_, a6, ?_, ?_, ?_⟩
    · rw [ra_us, ra_us]
    · rw [ra_us]
      omega
    · intro j
      unfold ra_un
      split
      · omega
      · exact a3 j
    · rw [ra_ud _ _ (by decide), ra_ud _ _ (by decide)]
      exact a4
    · rw [ra_ud _ _ (by decide)]
      exact a5
    · rw [ra_ud _ _ (by decide), ra_ud _ _ (by decide)]
      exact a7
    · rw [ra_ud _ _ (by decide)]
      exact a8
    · rw [ra_ud _ _ (by decide)]
      exact a9
theorem lz_row (h : lz_F G M γ κ τ lt ρ b1 b2 b3 im) (φ : Nat → Nat) (p : Int32) :
    ∃ r G' M' ρ' φ', f_X2_row (ra_nf G) (ra_nf ρ) (ra_nf φ) p = some (r, ra_nf G', ra_nf ρ', ra_nf φ') ∧ f_X3_row (ra_nf M) (ra_nf ρ) (ra_nf φ) p = some (r, ra_nf M', ra_nf ρ', ra_nf φ') ∧ lz_F G' M' γ κ τ lt ρ' b1 b2 b3 im := by
  have h0 := h
  obtain ⟨h1, h2, a1, a2, a3, a4, a5, a6, a7, a8, a9⟩ := h
  rcases tm_row G M ρ φ rfl a4.symm a5 p with ⟨c, -, e2, e3⟩ | ⟨v, hv, hR, e2, e3⟩
  · exact ⟨_, _, _, _, _, e2, e3, h0⟩
  · refine ⟨_, _, _, _, _, e2, e3, h1, h2, ?_, ?_, a3, ?_, ?_, ?_, ?_, ?_, ?_⟩
    · rw [ra_ud _ _ (by decide), ra_ud _ _ (by decide)]
      exact a1
    · rw [ra_ud _ _ (by decide)]
      exact a2
    · rw [ra_us, ra_us]
    · rw [ra_us]
      omega
    · intro j
      unfold ra_un
      split
      · omega
      · exact a6 j
    · rw [ra_ud _ _ (by decide), ra_ud _ _ (by decide)]
      exact a7
    · rw [ra_ud _ _ (by decide)]
      exact a8
    · rw [ra_ud _ _ (by decide)]
      exact a9
theorem lz_on (h : lz_F G M γ κ τ lt ρ b1 b2 b3 im) (φ : Nat → Nat) :
    ∃ r γ' κ' τ' φ', f_X2_on (ra_nf G) (ra_nf γ) (ra_nf κ) (ra_nf τ) b1 b2 b3 (ra_nf φ) = some (r, ra_nf γ', ra_nf κ', ra_nf τ', ra_nf φ') ∧ f_X3_on (ra_nf M) (ra_st γ κ τ) im (ra_nf φ) = some (r, ra_st γ' κ' τ', ra_nf φ') ∧ lz_F G M γ' κ' τ' lt ρ b1 b2 b3 im := by
  have h0 := h
  obtain ⟨h1, h2, a1, a2, a3, a4, a5, a6, a7, a8, a9⟩ := h
  rcases tm_on G M φ (ra_nf γ) (ra_nf κ) (ra_nf τ) b1 b2 b3 (ra_st γ κ τ) im rfl a7.symm a8 with ⟨c, e2, e3⟩ | ⟨c, e2, e3⟩
  · exact ⟨_, _, _, _, _, e2, e3, h0⟩
  · obtain ⟨γ', κ', τ', rfl, rfl, rfl, rfl, c1, c2⟩ := a9 c
    refine ⟨_, γ', κ', τ', _, e2, ?_, lz_set h0 c1 c2⟩
    rw [e3, ra_st_lo _ _ _ (by decide)]
    rfl
def lz_g0 : Nat → Nat := ra_un (ra_un (ra_un (fun _ => 0) 1 180) 2 4) 7 3
end LZStep
end
