theorem hn_X2_allowance : yX2_allowance.cls ≠ "java/lang/invoke/MethodHandle" ∧ yX2_allowance.cls ≠ "java/lang/invoke/VarHandle" ∧ (parseMethodDescriptor yX2_allowance.desc).map (fun d => d.parameters.length) = some 2 := by decide +kernel
theorem hn_X2_at : yX2_at.cls ≠ "java/lang/invoke/MethodHandle" ∧ yX2_at.cls ≠ "java/lang/invoke/VarHandle" ∧ (parseMethodDescriptor yX2_at.desc).map (fun d => d.parameters.length) = some 2 := by decide +kernel
theorem hn_X2_isTry : yX2_isTry.cls ≠ "java/lang/invoke/MethodHandle" ∧ yX2_isTry.cls ≠ "java/lang/invoke/VarHandle" ∧ (parseMethodDescriptor yX2_isTry.desc).map (fun d => d.parameters.length) = some 1 := by decide +kernel
theorem hn_X2_put : yX2_put.cls ≠ "java/lang/invoke/MethodHandle" ∧ yX2_put.cls ≠ "java/lang/invoke/VarHandle" ∧ (parseMethodDescriptor yX2_put.desc).map (fun d => d.parameters.length) = some 3 := by decide +kernel
theorem hn_X2_thickness : yX2_thickness.cls ≠ "java/lang/invoke/MethodHandle" ∧ yX2_thickness.cls ≠ "java/lang/invoke/VarHandle" ∧ (parseMethodDescriptor yX2_thickness.desc).map (fun d => d.parameters.length) = some 5 := by decide +kernel
theorem hv_X0_attempt : yX0_attempt.cls = RX0 ∧ yX0_attempt.cls ≠ "java/lang/invoke/MethodHandle" ∧ yX0_attempt.cls ≠ "java/lang/invoke/VarHandle" ∧ (parseMethodDescriptor yX0_attempt.desc).map (fun d => d.parameters.length) = some 1 := by decide +kernel
theorem hv_X0_change : yX0_change.cls = RX0 ∧ yX0_change.cls ≠ "java/lang/invoke/MethodHandle" ∧ yX0_change.cls ≠ "java/lang/invoke/VarHandle" ∧ (parseMethodDescriptor yX0_change.desc).map (fun d => d.parameters.length) = some 2 := by decide +kernel
theorem hv_X0_coldAhead : yX0_coldAhead.cls = RX0 ∧ yX0_coldAhead.cls ≠ "java/lang/invoke/MethodHandle" ∧ yX0_coldAhead.cls ≠ "java/lang/invoke/VarHandle" ∧ (parseMethodDescriptor yX0_coldAhead.desc).map (fun d => d.parameters.length) = some 1 := by decide +kernel
theorem hv_X0_goesOver : yX0_goesOver.cls = RX0 ∧ yX0_goesOver.cls ≠ "java/lang/invoke/MethodHandle" ∧ yX0_goesOver.cls ≠ "java/lang/invoke/VarHandle" ∧ (parseMethodDescriptor yX0_goesOver.desc).map (fun d => d.parameters.length) = some 1 := by decide +kernel
theorem hv_X0_hasMinutes : yX0_hasMinutes.cls = RX0 ∧ yX0_hasMinutes.cls ≠ "java/lang/invoke/MethodHandle" ∧ yX0_hasMinutes.cls ≠ "java/lang/invoke/VarHandle" ∧ (parseMethodDescriptor yX0_hasMinutes.desc).map (fun d => d.parameters.length) = some 1 := by decide +kernel
theorem hv_X0_isOff : yX0_isOff.cls = RX0 ∧ yX0_isOff.cls ≠ "java/lang/invoke/MethodHandle" ∧ yX0_isOff.cls ≠ "java/lang/invoke/VarHandle" ∧ (parseMethodDescriptor yX0_isOff.desc).map (fun d => d.parameters.length) = some 0 := by decide +kernel
theorem hv_X0_strain : yX0_strain.cls = RX0 ∧ yX0_strain.cls ≠ "java/lang/invoke/MethodHandle" ∧ yX0_strain.cls ≠ "java/lang/invoke/VarHandle" ∧ (parseMethodDescriptor yX0_strain.desc).map (fun d => d.parameters.length) = some 1 := by decide +kernel
theorem hv_X0_thickNow : yX0_thickNow.cls = RX0 ∧ yX0_thickNow.cls ≠ "java/lang/invoke/MethodHandle" ∧ yX0_thickNow.cls ≠ "java/lang/invoke/VarHandle" ∧ (parseMethodDescriptor yX0_thickNow.desc).map (fun d => d.parameters.length) = some 1 := by decide +kernel
theorem kX0_copyFrom_0 : (.fieldLink RX0 9 "RingAndFinger$Finger" "kinds" "[I" : Cond) ∈ wsX0_copyFrom := by decide +kernel
theorem kX0_copyFrom_1 : (.methodLink RX0 49 arraycopyName : Cond) ∈ wsX0_copyFrom := by decide +kernel
theorem kX0_copyFrom_2 : (.native arraycopyName : Cond) ∈ wsX0_copyFrom := by decide +kernel
theorem kX0_copyFrom_3 : (.static arraycopyName : Cond) ∈ wsX0_copyFrom := by decide +kernel
theorem kX0_copyFrom_4 : (.initialized "java/lang/System" : Cond) ∈ wsX0_copyFrom := by decide +kernel
theorem kX0_copyFrom_5 : (.fieldLink RX0 15 "RingAndFinger$Finger" "thicks" "[I" : Cond) ∈ wsX0_copyFrom := by decide +kernel
theorem kX0_copyFrom_6 : (.fieldLink RX0 18 "RingAndFinger$Finger" "parts" "I" : Cond) ∈ wsX0_copyFrom := by decide +kernel
theorem kX0_copyFrom_7 : (.fieldLink RX0 22 "RingAndFinger$Finger" "size" "I" : Cond) ∈ wsX0_copyFrom := by decide +kernel
theorem kX0_copyFrom_8 : (.fieldLink RX0 25 "RingAndFinger$Finger" "broad" "I" : Cond) ∈ wsX0_copyFrom := by decide +kernel
theorem kX0_copyFrom_9 : (.fieldLink RX0 28 "RingAndFinger$Finger" "front" "I" : Cond) ∈ wsX0_copyFrom := by decide +kernel
theorem kX0_copyFrom_10 : (.fieldLink RX0 31 "RingAndFinger$Finger" "swell" "I" : Cond) ∈ wsX0_copyFrom := by decide +kernel
theorem kX0_copyFrom_11 : (.fieldLink RX0 34 "RingAndFinger$Finger" "cold" "I" : Cond) ∈ wsX0_copyFrom := by decide +kernel
theorem kX0_copyFrom_12 : (.fieldLink RX0 37 "RingAndFinger$Finger" "blue" "I" : Cond) ∈ wsX0_copyFrom := by decide +kernel
theorem kX0_copyFrom_13 : (.fieldLink RX0 40 "RingAndFinger$Finger" "heat" "I" : Cond) ∈ wsX0_copyFrom := by decide +kernel
theorem kX0_copyFrom_14 : (.fieldLink RX0 43 "RingAndFinger$Finger" "minute" "I" : Cond) ∈ wsX0_copyFrom := by decide +kernel
theorem kX0_copyFrom_15 : (.fieldLink RX0 46 "RingAndFinger$Finger" "harm" "I" : Cond) ∈ wsX0_copyFrom := by decide +kernel
theorem jX0_copyFrom_X0 : ∀ w ∈ u_ws RX0 TX0 12, w ∈ wsX0_copyFrom := by decide +kernel
set_option maxHeartbeats 8000000 in
set_option maxRecDepth 100000 in
theorem c_X0_copyFrom (l : Launch) (D : va_G) (cA : ClassId) (ad : Nat → Nat) (a_this a_this_kinds a_this_thicks a_o1 a_o1_kinds a_o1_thicks : Nat) (sz : Nat) (g_this f_this_kinds f_this_thicks g_o1 f_o1_kinds f_o1_thicks : Nat → Int32) (q : (Nat → Int32) × (Nat → Int32) × (Nat → Int32)) (hf : f_X0_copyFrom g_this f_this_kinds f_this_thicks g_o1 f_o1_kinds f_o1_thicks = some q) : Met l yX0_copyFrom wsX0_copyFrom ({ frames := 1, cells := 0, slots := 0, locals := 60 } : Room) (va_Pc [.ref a_this, .ref a_o1] (rf_Pre D cA ad [(a_this, .inr (0, rf_o0 a_this_kinds a_this_thicks g_this)), (a_this_kinds, .inl (cA, 6, .inl f_this_kinds)), (a_this_thicks, .inl (cA, 6, .inl f_this_thicks)), (a_o1, .inr (0, rf_o0 a_o1_kinds a_o1_thicks g_o1)), (a_o1_kinds, .inl (cA, 6, .inl f_o1_kinds)), (a_o1_thicks, .inl (cA, 6, .inl f_o1_thicks))] sz)) (va_Qv (fun (_ : Unit) => True) (fun _ t => rf_Post D (va_A [(a_this, .inr (0, rf_o0 a_this_kinds a_this_thicks g_this)), (a_this_kinds, .inl (cA, 6, .inl f_this_kinds)), (a_this_thicks, .inl (cA, 6, .inl f_this_thicks)), (a_o1, .inr (0, rf_o0 a_o1_kinds a_o1_thicks g_o1)), (a_o1_kinds, .inl (cA, 6, .inl f_o1_kinds)), (a_o1_thicks, .inl (cA, 6, .inl f_o1_thicks))] sz) [(a_this, .inr (0, rf_o0 a_this_kinds a_this_thicks q.1)), (a_this_kinds, .inl (cA, 6, .inl q.2.1)), (a_this_thicks, .inl (cA, 6, .inl q.2.2)), (a_o1, .inr (0, rf_o0 a_o1_kinds a_o1_thicks g_o1)), (a_o1_kinds, .inl (cA, 6, .inl f_o1_kinds)), (a_o1_thicks, .inl (cA, 6, .inl f_o1_thicks))] t) (va_A [(a_this, .inr (0, rf_o0 a_this_kinds a_this_thicks g_this)), (a_this_kinds, .inl (cA, 6, .inl f_this_kinds)), (a_this_thicks, .inl (cA, 6, .inl f_this_thicks)), (a_o1, .inr (0, rf_o0 a_o1_kinds a_o1_thicks g_o1)), (a_o1_kinds, .inl (cA, 6, .inl f_o1_kinds)), (a_o1_thicks, .inl (cA, 6, .inl f_o1_thicks))] sz)) 0 0 (va_A [(a_this, .inr (0, rf_o0 a_this_kinds a_this_thicks g_this)), (a_this_kinds, .inl (cA, 6, .inl f_this_kinds)), (a_this_thicks, .inl (cA, 6, .inl f_this_thicks)), (a_o1, .inr (0, rf_o0 a_o1_kinds a_o1_thicks g_o1)), (a_o1_kinds, .inl (cA, 6, .inl f_o1_kinds)), (a_o1_thicks, .inl (cA, 6, .inl f_o1_thicks))] sz) := by
  refine Met.ofW (cc := cX0_copyFrom) (maxL := 2) (ret := none) (by decide) rfl ?_
  intro p e s m args below meth c s₁ B hml hv
  obtain ⟨rfl, hsz, hP, hK, hD0, hE⟩ := hv
  have hx := B.exec
  have hb := B.bytes
  have hr := B.returns
  have hts := atoms_spec (ws := wsX0_copyFrom) B.pre
  have hown : s.vm.findClass RX0 = some m.cls := findClass_of_methodNamed B.named
  have hlocks := B.notSynchronized
  subst hsz
  have hD := hD0.self (sz := s.heap.size)
  generalize hAe : va_A [(a_this, .inr (0, rf_o0 a_this_kinds a_this_thicks g_this)), (a_this_kinds, .inl (cA, 6, .inl f_this_kinds)), (a_this_thicks, .inl (cA, 6, .inl f_this_thicks)), (a_o1, .inr (0, rf_o0 a_o1_kinds a_o1_thicks g_o1)), (a_o1_kinds, .inl (cA, 6, .inl f_o1_kinds)), (a_o1_thicks, .inl (cA, 6, .inl f_o1_thicks))] s.heap.size = A at hD hE ⊢
  have hA : ∀ q : Nat, s.heap.size ≤ q → A q := fun q h => by rw [← hAe]; exact Or.inr h
  have hS : va_S A s.heap s.heap [] := va_S.rf
  have hP : va_P D vwCl [(a_this, .inr (0, rf_o0 a_this_kinds a_this_thicks g_this)), (a_this_kinds, .inl (cA, 6, .inl f_this_kinds)), (a_this_thicks, .inl (cA, 6, .inl f_this_thicks)), (a_o1, .inr (0, rf_o0 a_o1_kinds a_o1_thicks g_o1)), (a_o1_kinds, .inl (cA, 6, .inl f_o1_kinds)), (a_o1_thicks, .inl (cA, 6, .inl f_o1_thicks))] s.heap := hP
  have hl := lv_entry ([.ref a_this, .ref a_o1]) (n := 2) (Nat.le_of_ble_eq_true rfl)
  rw [lg_entry_eq]
  generalize (lg_sl ([.ref a_this, .ref a_o1]) ++ List.replicate (2 - (lg_sl ([.ref a_this, .ref a_o1])).length) Slot.unset).toArray = ls at hl ⊢
  have hl : lv_has ls 2 [(0, .ref a_this), (1, .ref a_o1)] := hl
  rw [f_X0_copyFrom] at hf
  refine lv_aload_n hx hb dX0_copyFrom_0 rfl (lv_at hl 1 rfl) ?_
  refine va_get (D := D) (ci := 0) (v := .ref a_o1_kinds) (C := RX0) (T := TX0) (N := 12) hx hb hts jX0_copyFrom_X0 hown hK hP 3 rfl rfl 0 (by decide) (hts _ kX0_copyFrom_0) (fun _ h9 => h9) rfl dX0_copyFrom_1 ?_
  refine lv_iconst (v := 0) hx hb dX0_copyFrom_4 (by decide) ?_
  refine lv_aload_n hx hb dX0_copyFrom_5 rfl (lv_at hl 0 rfl) ?_
  refine va_get (D := D) (ci := 0) (v := .ref a_this_kinds) (C := RX0) (T := TX0) (N := 12) hx hb hts jX0_copyFrom_X0 hown hK hP 0 rfl rfl 0 (by decide) (hts _ kX0_copyFrom_0) (fun _ h9 => h9) rfl dX0_copyFrom_6 ?_
  refine lv_iconst (v := 0) hx hb dX0_copyFrom_9 (by decide) ?_
  refine lv_bipush (v := 6) hx hb dX0_copyFrom_10 (by decide) ?_
  refine va_copyi hx hb (hml.trans hl.1.symm) hown (hts _ kX0_copyFrom_1) (hts _ kX0_copyFrom_2) (hts _ kX0_copyFrom_3) (hts _ kX0_copyFrom_4) hK hP hD hS 4 1 0 0 rfl rfl rfl rfl rfl (by decide) (by decide) (by decide) (by decide) (by decide) (fun _ _ => rfl) (Nat.le_of_ble_eq_true rfl) (Nat.le_of_ble_eq_true rfl) dX0_copyFrom_12 (fun H locs hP hD hS => ?_)
  obtain ⟨hP, hD⟩ := rf_arrx hP hD 1 rfl f_o1_kinds (fun j hj => rf_cpy (by decide) (by decide) hj)
  have hP : va_P D vwCl [(a_this, .inr (0, rf_o0 a_this_kinds a_this_thicks g_this)), (a_this_kinds, .inl (cA, 6, .inl f_o1_kinds)), (a_this_thicks, .inl (cA, 6, .inl f_this_thicks)), (a_o1, .inr (0, rf_o0 a_o1_kinds a_o1_thicks g_o1)), (a_o1_kinds, .inl (cA, 6, .inl f_o1_kinds)), (a_o1_thicks, .inl (cA, 6, .inl f_o1_thicks))] H := hP
  have hD : va_D A [(a_this, .inr (0, rf_o0 a_this_kinds a_this_thicks g_this)), (a_this_kinds, .inl (cA, 6, .inl f_o1_kinds)), (a_this_thicks, .inl (cA, 6, .inl f_this_thicks)), (a_o1, .inr (0, rf_o0 a_o1_kinds a_o1_thicks g_o1)), (a_o1_kinds, .inl (cA, 6, .inl f_o1_kinds)), (a_o1_thicks, .inl (cA, 6, .inl f_o1_thicks))] := hD
  refine lv_aload_n hx hb dX0_copyFrom_15 rfl (lv_at hl 1 rfl) ?_
  refine va_get (D := D) (ci := 0) (v := .ref a_o1_thicks) (C := RX0) (T := TX0) (N := 12) hx hb hts jX0_copyFrom_X0 hown hK hP 3 rfl rfl 1 (by decide) (hts _ kX0_copyFrom_5) (fun _ h9 => h9) rfl dX0_copyFrom_16 ?_
  refine lv_iconst (v := 0) hx hb dX0_copyFrom_19 (by decide) ?_
  refine lv_aload_n hx hb dX0_copyFrom_20 rfl (lv_at hl 0 rfl) ?_
  refine va_get (D := D) (ci := 0) (v := .ref a_this_thicks) (C := RX0) (T := TX0) (N := 12) hx hb hts jX0_copyFrom_X0 hown hK hP 0 rfl rfl 1 (by decide) (hts _ kX0_copyFrom_5) (fun _ h9 => h9) rfl dX0_copyFrom_21 ?_
  refine lv_iconst (v := 0) hx hb dX0_copyFrom_24 (by decide) ?_
  refine lv_bipush (v := 6) hx hb dX0_copyFrom_25 (by decide) ?_
  refine va_copyi hx hb (hml.trans hl.1.symm) hown (hts _ kX0_copyFrom_1) (hts _ kX0_copyFrom_2) (hts _ kX0_copyFrom_3) (hts _ kX0_copyFrom_4) hK hP hD hS 5 2 0 0 rfl rfl rfl rfl rfl (by decide) (by decide) (by decide) (by decide) (by decide) (fun _ _ => rfl) (Nat.le_of_ble_eq_true rfl) (Nat.le_of_ble_eq_true rfl) dX0_copyFrom_27 (fun H locs hP hD hS => ?_)
  obtain ⟨hP, hD⟩ := rf_arrx hP hD 2 rfl f_o1_thicks (fun j hj => rf_cpy (by decide) (by decide) hj)
  have hP : va_P D vwCl [(a_this, .inr (0, rf_o0 a_this_kinds a_this_thicks g_this)), (a_this_kinds, .inl (cA, 6, .inl f_o1_kinds)), (a_this_thicks, .inl (cA, 6, .inl f_o1_thicks)), (a_o1, .inr (0, rf_o0 a_o1_kinds a_o1_thicks g_o1)), (a_o1_kinds, .inl (cA, 6, .inl f_o1_kinds)), (a_o1_thicks, .inl (cA, 6, .inl f_o1_thicks))] H := hP
  have hD : va_D A [(a_this, .inr (0, rf_o0 a_this_kinds a_this_thicks g_this)), (a_this_kinds, .inl (cA, 6, .inl f_o1_kinds)), (a_this_thicks, .inl (cA, 6, .inl f_o1_thicks)), (a_o1, .inr (0, rf_o0 a_o1_kinds a_o1_thicks g_o1)), (a_o1_kinds, .inl (cA, 6, .inl f_o1_kinds)), (a_o1_thicks, .inl (cA, 6, .inl f_o1_thicks))] := hD
  refine lv_aload_n hx hb dX0_copyFrom_30 rfl (lv_at hl 0 rfl) ?_
  refine lv_aload_n hx hb dX0_copyFrom_31 rfl (lv_at hl 1 rfl) ?_
  refine va_get (D := D) (ci := 0) (v := .int (g_o1 0)) (C := RX0) (T := TX0) (N := 12) hx hb hts jX0_copyFrom_X0 hown hK hP 3 rfl rfl 2 (by decide) (hts _ kX0_copyFrom_6) (fun _ h9 => h9) rfl dX0_copyFrom_32 ?_
  refine va_put (D := D) (ci := 0) (v := .int (g_o1 0)) (ty := .int) (C := RX0) (T := TX0) (N := 12) hx hb hts jX0_copyFrom_X0 tyX0 tyX0_ok nmX0 hown hK hP hD hS 0 rfl rfl 2 (by decide) (hts _ kX0_copyFrom_6) (fun _ h9 => h9) rfl (by decide +kernel) rfl rfl (Nat.le_of_ble_eq_true rfl) dX0_copyFrom_35 (fun H locs hP hD hS => ?_)
  have hP : va_P D vwCl [(a_this, .inr (0, rf_o0 a_this_kinds a_this_thicks (upd g_this 0 (g_o1 0)))), (a_this_kinds, .inl (cA, 6, .inl f_o1_kinds)), (a_this_thicks, .inl (cA, 6, .inl f_o1_thicks)), (a_o1, .inr (0, rf_o0 a_o1_kinds a_o1_thicks g_o1)), (a_o1_kinds, .inl (cA, 6, .inl f_o1_kinds)), (a_o1_thicks, .inl (cA, 6, .inl f_o1_thicks))] H := hP
  have hD : va_D A [(a_this, .inr (0, rf_o0 a_this_kinds a_this_thicks (upd g_this 0 (g_o1 0)))), (a_this_kinds, .inl (cA, 6, .inl f_o1_kinds)), (a_this_thicks, .inl (cA, 6, .inl f_o1_thicks)), (a_o1, .inr (0, rf_o0 a_o1_kinds a_o1_thicks g_o1)), (a_o1_kinds, .inl (cA, 6, .inl f_o1_kinds)), (a_o1_thicks, .inl (cA, 6, .inl f_o1_thicks))] := hD
  refine lv_aload_n hx hb dX0_copyFrom_38 rfl (lv_at hl 0 rfl) ?_
  refine lv_aload_n hx hb dX0_copyFrom_39 rfl (lv_at hl 1 rfl) ?_
  refine va_get (D := D) (ci := 0) (v := .int (g_o1 1)) (C := RX0) (T := TX0) (N := 12) hx hb hts jX0_copyFrom_X0 hown hK hP 3 rfl rfl 3 (by decide) (hts _ kX0_copyFrom_7) (fun _ h9 => h9) rfl dX0_copyFrom_40 ?_
  refine va_put (D := D) (ci := 0) (v := .int (g_o1 1)) (ty := .int) (C := RX0) (T := TX0) (N := 12) hx hb hts jX0_copyFrom_X0 tyX0 tyX0_ok nmX0 hown hK hP hD hS 0 rfl rfl 3 (by decide) (hts _ kX0_copyFrom_7) (fun _ h9 => h9) rfl (by decide +kernel) rfl rfl (Nat.le_of_ble_eq_true rfl) dX0_copyFrom_43 (fun H locs hP hD hS => ?_)
  have hP : va_P D vwCl [(a_this, .inr (0, rf_o0 a_this_kinds a_this_thicks (upd (upd g_this 0 (g_o1 0)) 1 (g_o1 1)))), (a_this_kinds, .inl (cA, 6, .inl f_o1_kinds)), (a_this_thicks, .inl (cA, 6, .inl f_o1_thicks)), (a_o1, .inr (0, rf_o0 a_o1_kinds a_o1_thicks g_o1)), (a_o1_kinds, .inl (cA, 6, .inl f_o1_kinds)), (a_o1_thicks, .inl (cA, 6, .inl f_o1_thicks))] H := hP
  have hD : va_D A [(a_this, .inr (0, rf_o0 a_this_kinds a_this_thicks (upd (upd g_this 0 (g_o1 0)) 1 (g_o1 1)))), (a_this_kinds, .inl (cA, 6, .inl f_o1_kinds)), (a_this_thicks, .inl (cA, 6, .inl f_o1_thicks)), (a_o1, .inr (0, rf_o0 a_o1_kinds a_o1_thicks g_o1)), (a_o1_kinds, .inl (cA, 6, .inl f_o1_kinds)), (a_o1_thicks, .inl (cA, 6, .inl f_o1_thicks))] := hD
  refine lv_aload_n hx hb dX0_copyFrom_46 rfl (lv_at hl 0 rfl) ?_
  refine lv_aload_n hx hb dX0_copyFrom_47 rfl (lv_at hl 1 rfl) ?_
  refine va_get (D := D) (ci := 0) (v := .int (g_o1 2)) (C := RX0) (T := TX0) (N := 12) hx hb hts jX0_copyFrom_X0 hown hK hP 3 rfl rfl 4 (by decide) (hts _ kX0_copyFrom_8) (fun _ h9 => h9) rfl dX0_copyFrom_48 ?_
  refine va_put (D := D) (ci := 0) (v := .int (g_o1 2)) (ty := .int) (C := RX0) (T := TX0) (N := 12) hx hb hts jX0_copyFrom_X0 tyX0 tyX0_ok nmX0 hown hK hP hD hS 0 rfl rfl 4 (by decide) (hts _ kX0_copyFrom_8) (fun _ h9 => h9) rfl (by decide +kernel) rfl rfl (Nat.le_of_ble_eq_true rfl) dX0_copyFrom_51 (fun H locs hP hD hS => ?_)
  have hP : va_P D vwCl [(a_this, .inr (0, rf_o0 a_this_kinds a_this_thicks (upd (upd (upd g_this 0 (g_o1 0)) 1 (g_o1 1)) 2 (g_o1 2)))), (a_this_kinds, .inl (cA, 6, .inl f_o1_kinds)), (a_this_thicks, .inl (cA, 6, .inl f_o1_thicks)), (a_o1, .inr (0, rf_o0 a_o1_kinds a_o1_thicks g_o1)), (a_o1_kinds, .inl (cA, 6, .inl f_o1_kinds)), (a_o1_thicks, .inl (cA, 6, .inl f_o1_thicks))] H := hP
  have hD : va_D A [(a_this, .inr (0, rf_o0 a_this_kinds a_this_thicks (upd (upd (upd g_this 0 (g_o1 0)) 1 (g_o1 1)) 2 (g_o1 2)))), (a_this_kinds, .inl (cA, 6, .inl f_o1_kinds)), (a_this_thicks, .inl (cA, 6, .inl f_o1_thicks)), (a_o1, .inr (0, rf_o0 a_o1_kinds a_o1_thicks g_o1)), (a_o1_kinds, .inl (cA, 6, .inl f_o1_kinds)), (a_o1_thicks, .inl (cA, 6, .inl f_o1_thicks))] := hD
  refine lv_aload_n hx hb dX0_copyFrom_54 rfl (lv_at hl 0 rfl) ?_
  refine lv_aload_n hx hb dX0_copyFrom_55 rfl (lv_at hl 1 rfl) ?_
  refine va_get (D := D) (ci := 0) (v := .int (g_o1 3)) (C := RX0) (T := TX0) (N := 12) hx hb hts jX0_copyFrom_X0 hown hK hP 3 rfl rfl 5 (by decide) (hts _ kX0_copyFrom_9) (fun _ h9 => h9) rfl dX0_copyFrom_56 ?_
  refine va_put (D := D) (ci := 0) (v := .int (g_o1 3)) (ty := .int) (C := RX0) (T := TX0) (N := 12) hx hb hts jX0_copyFrom_X0 tyX0 tyX0_ok nmX0 hown hK hP hD hS 0 rfl rfl 5 (by decide) (hts _ kX0_copyFrom_9) (fun _ h9 => h9) rfl (by decide +kernel) rfl rfl (Nat.le_of_ble_eq_true rfl) dX0_copyFrom_59 (fun H locs hP hD hS => ?_)
  have hP : va_P D vwCl [(a_this, .inr (0, rf_o0 a_this_kinds a_this_thicks (upd (upd (upd (upd g_this 0 (g_o1 0)) 1 (g_o1 1)) 2 (g_o1 2)) 3 (g_o1 3)))), (a_this_kinds, .inl (cA, 6, .inl f_o1_kinds)), (a_this_thicks, .inl (cA, 6, .inl f_o1_thicks)), (a_o1, .inr (0, rf_o0 a_o1_kinds a_o1_thicks g_o1)), (a_o1_kinds, .inl (cA, 6, .inl f_o1_kinds)), (a_o1_thicks, .inl (cA, 6, .inl f_o1_thicks))] H := hP
  have hD : va_D A [(a_this, .inr (0, rf_o0 a_this_kinds a_this_thicks (upd (upd (upd (upd g_this 0 (g_o1 0)) 1 (g_o1 1)) 2 (g_o1 2)) 3 (g_o1 3)))), (a_this_kinds, .inl (cA, 6, .inl f_o1_kinds)), (a_this_thicks, .inl (cA, 6, .inl f_o1_thicks)), (a_o1, .inr (0, rf_o0 a_o1_kinds a_o1_thicks g_o1)), (a_o1_kinds, .inl (cA, 6, .inl f_o1_kinds)), (a_o1_thicks, .inl (cA, 6, .inl f_o1_thicks))] := hD
  refine lv_aload_n hx hb dX0_copyFrom_62 rfl (lv_at hl 0 rfl) ?_
  refine lv_aload_n hx hb dX0_copyFrom_63 rfl (lv_at hl 1 rfl) ?_
  refine va_get (D := D) (ci := 0) (v := .int (g_o1 4)) (C := RX0) (T := TX0) (N := 12) hx hb hts jX0_copyFrom_X0 hown hK hP 3 rfl rfl 6 (by decide) (hts _ kX0_copyFrom_10) (fun _ h9 => h9) rfl dX0_copyFrom_64 ?_
  refine va_put (D := D) (ci := 0) (v := .int (g_o1 4)) (ty := .int) (C := RX0) (T := TX0) (N := 12) hx hb hts jX0_copyFrom_X0 tyX0 tyX0_ok nmX0 hown hK hP hD hS 0 rfl rfl 6 (by decide) (hts _ kX0_copyFrom_10) (fun _ h9 => h9) rfl (by decide +kernel) rfl rfl (Nat.le_of_ble_eq_true rfl) dX0_copyFrom_67 (fun H locs hP hD hS => ?_)
  have hP : va_P D vwCl [(a_this, .inr (0, rf_o0 a_this_kinds a_this_thicks (upd (upd (upd (upd (upd g_this 0 (g_o1 0)) 1 (g_o1 1)) 2 (g_o1 2)) 3 (g_o1 3)) 4 (g_o1 4)))), (a_this_kinds, .inl (cA, 6, .inl f_o1_kinds)), (a_this_thicks, .inl (cA, 6, .inl f_o1_thicks)), (a_o1, .inr (0, rf_o0 a_o1_kinds a_o1_thicks g_o1)), (a_o1_kinds, .inl (cA, 6, .inl f_o1_kinds)), (a_o1_thicks, .inl (cA, 6, .inl f_o1_thicks))] H := hP
  have hD : va_D A [(a_this, .inr (0, rf_o0 a_this_kinds a_this_thicks (upd (upd (upd (upd (upd g_this 0 (g_o1 0)) 1 (g_o1 1)) 2 (g_o1 2)) 3 (g_o1 3)) 4 (g_o1 4)))), (a_this_kinds, .inl (cA, 6, .inl f_o1_kinds)), (a_this_thicks, .inl (cA, 6, .inl f_o1_thicks)), (a_o1, .inr (0, rf_o0 a_o1_kinds a_o1_thicks g_o1)), (a_o1_kinds, .inl (cA, 6, .inl f_o1_kinds)), (a_o1_thicks, .inl (cA, 6, .inl f_o1_thicks))] := hD
  refine lv_aload_n hx hb dX0_copyFrom_70 rfl (lv_at hl 0 rfl) ?_
  refine lv_aload_n hx hb dX0_copyFrom_71 rfl (lv_at hl 1 rfl) ?_
  refine va_get (D := D) (ci := 0) (v := .int (g_o1 5)) (C := RX0) (T := TX0) (N := 12) hx hb hts jX0_copyFrom_X0 hown hK hP 3 rfl rfl 7 (by decide) (hts _ kX0_copyFrom_11) (fun _ h9 => h9) rfl dX0_copyFrom_72 ?_
  refine va_put (D := D) (ci := 0) (v := .int (g_o1 5)) (ty := .int) (C := RX0) (T := TX0) (N := 12) hx hb hts jX0_copyFrom_X0 tyX0 tyX0_ok nmX0 hown hK hP hD hS 0 rfl rfl 7 (by decide) (hts _ kX0_copyFrom_11) (fun _ h9 => h9) rfl (by decide +kernel) rfl rfl (Nat.le_of_ble_eq_true rfl) dX0_copyFrom_75 (fun H locs hP hD hS => ?_)
  have hP : va_P D vwCl [(a_this, .inr (0, rf_o0 a_this_kinds a_this_thicks (upd (upd (upd (upd (upd (upd g_this 0 (g_o1 0)) 1 (g_o1 1)) 2 (g_o1 2)) 3 (g_o1 3)) 4 (g_o1 4)) 5 (g_o1 5)))), (a_this_kinds, .inl (cA, 6, .inl f_o1_kinds)), (a_this_thicks, .inl (cA, 6, .inl f_o1_thicks)), (a_o1, .inr (0, rf_o0 a_o1_kinds a_o1_thicks g_o1)), (a_o1_kinds, .inl (cA, 6, .inl f_o1_kinds)), (a_o1_thicks, .inl (cA, 6, .inl f_o1_thicks))] H := hP
  have hD : va_D A [(a_this, .inr (0, rf_o0 a_this_kinds a_this_thicks (upd (upd (upd (upd (upd (upd g_this 0 (g_o1 0)) 1 (g_o1 1)) 2 (g_o1 2)) 3 (g_o1 3)) 4 (g_o1 4)) 5 (g_o1 5)))), (a_this_kinds, .inl (cA, 6, .inl f_o1_kinds)), (a_this_thicks, .inl (cA, 6, .inl f_o1_thicks)), (a_o1, .inr (0, rf_o0 a_o1_kinds a_o1_thicks g_o1)), (a_o1_kinds, .inl (cA, 6, .inl f_o1_kinds)), (a_o1_thicks, .inl (cA, 6, .inl f_o1_thicks))] := hD
  refine lv_aload_n hx hb dX0_copyFrom_78 rfl (lv_at hl 0 rfl) ?_
  refine lv_aload_n hx hb dX0_copyFrom_79 rfl (lv_at hl 1 rfl) ?_
  refine va_get (D := D) (ci := 0) (v := .int (g_o1 6)) (C := RX0) (T := TX0) (N := 12) hx hb hts jX0_copyFrom_X0 hown hK hP 3 rfl rfl 8 (by decide) (hts _ kX0_copyFrom_12) (fun _ h9 => h9) rfl dX0_copyFrom_80 ?_
  refine va_put (D := D) (ci := 0) (v := .int (g_o1 6)) (ty := .int) (C := RX0) (T := TX0) (N := 12) hx hb hts jX0_copyFrom_X0 tyX0 tyX0_ok nmX0 hown hK hP hD hS 0 rfl rfl 8 (by decide) (hts _ kX0_copyFrom_12) (fun _ h9 => h9) rfl (by decide +kernel) rfl rfl (Nat.le_of_ble_eq_true rfl) dX0_copyFrom_83 (fun H locs hP hD hS => ?_)
  have hP : va_P D vwCl [(a_this, .inr (0, rf_o0 a_this_kinds a_this_thicks (upd (upd (upd (upd (upd (upd (upd g_this 0 (g_o1 0)) 1 (g_o1 1)) 2 (g_o1 2)) 3 (g_o1 3)) 4 (g_o1 4)) 5 (g_o1 5)) 6 (g_o1 6)))), (a_this_kinds, .inl (cA, 6, .inl f_o1_kinds)), (a_this_thicks, .inl (cA, 6, .inl f_o1_thicks)), (a_o1, .inr (0, rf_o0 a_o1_kinds a_o1_thicks g_o1)), (a_o1_kinds, .inl (cA, 6, .inl f_o1_kinds)), (a_o1_thicks, .inl (cA, 6, .inl f_o1_thicks))] H := hP
  have hD : va_D A [(a_this, .inr (0, rf_o0 a_this_kinds a_this_thicks (upd (upd (upd (upd (upd (upd (upd g_this 0 (g_o1 0)) 1 (g_o1 1)) 2 (g_o1 2)) 3 (g_o1 3)) 4 (g_o1 4)) 5 (g_o1 5)) 6 (g_o1 6)))), (a_this_kinds, .inl (cA, 6, .inl f_o1_kinds)), (a_this_thicks, .inl (cA, 6, .inl f_o1_thicks)), (a_o1, .inr (0, rf_o0 a_o1_kinds a_o1_thicks g_o1)), (a_o1_kinds, .inl (cA, 6, .inl f_o1_kinds)), (a_o1_thicks, .inl (cA, 6, .inl f_o1_thicks))] := hD
  refine lv_aload_n hx hb dX0_copyFrom_86 rfl (lv_at hl 0 rfl) ?_
  refine lv_aload_n hx hb dX0_copyFrom_87 rfl (lv_at hl 1 rfl) ?_
  refine va_get (D := D) (ci := 0) (v := .int (g_o1 7)) (C := RX0) (T := TX0) (N := 12) hx hb hts jX0_copyFrom_X0 hown hK hP 3 rfl rfl 9 (by decide) (hts _ kX0_copyFrom_13) (fun _ h9 => h9) rfl dX0_copyFrom_88 ?_
  refine va_put (D := D) (ci := 0) (v := .int (g_o1 7)) (ty := .int) (C := RX0) (T := TX0) (N := 12) hx hb hts jX0_copyFrom_X0 tyX0 tyX0_ok nmX0 hown hK hP hD hS 0 rfl rfl 9 (by decide) (hts _ kX0_copyFrom_13) (fun _ h9 => h9) rfl (by decide +kernel) rfl rfl (Nat.le_of_ble_eq_true rfl) dX0_copyFrom_91 (fun H locs hP hD hS => ?_)
  have hP : va_P D vwCl [(a_this, .inr (0, rf_o0 a_this_kinds a_this_thicks (upd (upd (upd (upd (upd (upd (upd (upd g_this 0 (g_o1 0)) 1 (g_o1 1)) 2 (g_o1 2)) 3 (g_o1 3)) 4 (g_o1 4)) 5 (g_o1 5)) 6 (g_o1 6)) 7 (g_o1 7)))), (a_this_kinds, .inl (cA, 6, .inl f_o1_kinds)), (a_this_thicks, .inl (cA, 6, .inl f_o1_thicks)), (a_o1, .inr (0, rf_o0 a_o1_kinds a_o1_thicks g_o1)), (a_o1_kinds, .inl (cA, 6, .inl f_o1_kinds)), (a_o1_thicks, .inl (cA, 6, .inl f_o1_thicks))] H := hP
  have hD : va_D A [(a_this, .inr (0, rf_o0 a_this_kinds a_this_thicks (upd (upd (upd (upd (upd (upd (upd (upd g_this 0 (g_o1 0)) 1 (g_o1 1)) 2 (g_o1 2)) 3 (g_o1 3)) 4 (g_o1 4)) 5 (g_o1 5)) 6 (g_o1 6)) 7 (g_o1 7)))), (a_this_kinds, .inl (cA, 6, .inl f_o1_kinds)), (a_this_thicks, .inl (cA, 6, .inl f_o1_thicks)), (a_o1, .inr (0, rf_o0 a_o1_kinds a_o1_thicks g_o1)), (a_o1_kinds, .inl (cA, 6, .inl f_o1_kinds)), (a_o1_thicks, .inl (cA, 6, .inl f_o1_thicks))] := hD
  refine lv_aload_n hx hb dX0_copyFrom_94 rfl (lv_at hl 0 rfl) ?_
  refine lv_aload_n hx hb dX0_copyFrom_95 rfl (lv_at hl 1 rfl) ?_
  refine va_get (D := D) (ci := 0) (v := .int (g_o1 8)) (C := RX0) (T := TX0) (N := 12) hx hb hts jX0_copyFrom_X0 hown hK hP 3 rfl rfl 10 (by decide) (hts _ kX0_copyFrom_14) (fun _ h9 => h9) rfl dX0_copyFrom_96 ?_
  refine va_put (D := D) (ci := 0) (v := .int (g_o1 8)) (ty := .int) (C := RX0) (T := TX0) (N := 12) hx hb hts jX0_copyFrom_X0 tyX0 tyX0_ok nmX0 hown hK hP hD hS 0 rfl rfl 10 (by decide) (hts _ kX0_copyFrom_14) (fun _ h9 => h9) rfl (by decide +kernel) rfl rfl (Nat.le_of_ble_eq_true rfl) dX0_copyFrom_99 (fun H locs hP hD hS => ?_)
  have hP : va_P D vwCl [(a_this, .inr (0, rf_o0 a_this_kinds a_this_thicks (upd (upd (upd (upd (upd (upd (upd (upd (upd g_this 0 (g_o1 0)) 1 (g_o1 1)) 2 (g_o1 2)) 3 (g_o1 3)) 4 (g_o1 4)) 5 (g_o1 5)) 6 (g_o1 6)) 7 (g_o1 7)) 8 (g_o1 8)))), (a_this_kinds, .inl (cA, 6, .inl f_o1_kinds)), (a_this_thicks, .inl (cA, 6, .inl f_o1_thicks)), (a_o1, .inr (0, rf_o0 a_o1_kinds a_o1_thicks g_o1)), (a_o1_kinds, .inl (cA, 6, .inl f_o1_kinds)), (a_o1_thicks, .inl (cA, 6, .inl f_o1_thicks))] H := hP
  have hD : va_D A [(a_this, .inr (0, rf_o0 a_this_kinds a_this_thicks (upd (upd (upd (upd (upd (upd (upd (upd (upd g_this 0 (g_o1 0)) 1 (g_o1 1)) 2 (g_o1 2)) 3 (g_o1 3)) 4 (g_o1 4)) 5 (g_o1 5)) 6 (g_o1 6)) 7 (g_o1 7)) 8 (g_o1 8)))), (a_this_kinds, .inl (cA, 6, .inl f_o1_kinds)), (a_this_thicks, .inl (cA, 6, .inl f_o1_thicks)), (a_o1, .inr (0, rf_o0 a_o1_kinds a_o1_thicks g_o1)), (a_o1_kinds, .inl (cA, 6, .inl f_o1_kinds)), (a_o1_thicks, .inl (cA, 6, .inl f_o1_thicks))] := hD
  refine lv_aload_n hx hb dX0_copyFrom_102 rfl (lv_at hl 0 rfl) ?_
  refine lv_aload_n hx hb dX0_copyFrom_103 rfl (lv_at hl 1 rfl) ?_
  refine va_get (D := D) (ci := 0) (v := .int (g_o1 9)) (C := RX0) (T := TX0) (N := 12) hx hb hts jX0_copyFrom_X0 hown hK hP 3 rfl rfl 11 (by decide) (hts _ kX0_copyFrom_15) (fun _ h9 => h9) rfl dX0_copyFrom_104 ?_
  refine va_put (D := D) (ci := 0) (v := .int (g_o1 9)) (ty := .int) (C := RX0) (T := TX0) (N := 12) hx hb hts jX0_copyFrom_X0 tyX0 tyX0_ok nmX0 hown hK hP hD hS 0 rfl rfl 11 (by decide) (hts _ kX0_copyFrom_15) (fun _ h9 => h9) rfl (by decide +kernel) rfl rfl (Nat.le_of_ble_eq_true rfl) dX0_copyFrom_107 (fun H locs hP hD hS => ?_)
  have hP : va_P D vwCl [(a_this, .inr (0, rf_o0 a_this_kinds a_this_thicks (upd (upd (upd (upd (upd (upd (upd (upd (upd (upd g_this 0 (g_o1 0)) 1 (g_o1 1)) 2 (g_o1 2)) 3 (g_o1 3)) 4 (g_o1 4)) 5 (g_o1 5)) 6 (g_o1 6)) 7 (g_o1 7)) 8 (g_o1 8)) 9 (g_o1 9)))), (a_this_kinds, .inl (cA, 6, .inl f_o1_kinds)), (a_this_thicks, .inl (cA, 6, .inl f_o1_thicks)), (a_o1, .inr (0, rf_o0 a_o1_kinds a_o1_thicks g_o1)), (a_o1_kinds, .inl (cA, 6, .inl f_o1_kinds)), (a_o1_thicks, .inl (cA, 6, .inl f_o1_thicks))] H := hP
  have hD : va_D A [(a_this, .inr (0, rf_o0 a_this_kinds a_this_thicks (upd (upd (upd (upd (upd (upd (upd (upd (upd (upd g_this 0 (g_o1 0)) 1 (g_o1 1)) 2 (g_o1 2)) 3 (g_o1 3)) 4 (g_o1 4)) 5 (g_o1 5)) 6 (g_o1 6)) 7 (g_o1 7)) 8 (g_o1 8)) 9 (g_o1 9)))), (a_this_kinds, .inl (cA, 6, .inl f_o1_kinds)), (a_this_thicks, .inl (cA, 6, .inl f_o1_thicks)), (a_o1, .inr (0, rf_o0 a_o1_kinds a_o1_thicks g_o1)), (a_o1_kinds, .inl (cA, 6, .inl f_o1_kinds)), (a_o1_thicks, .inl (cA, 6, .inl f_o1_thicks))] := hD
  have hP : va_P D vwCl [(a_this, .inr (0, rf_o0 a_this_kinds a_this_thicks g_o1)), (a_this_kinds, .inl (cA, 6, .inl f_o1_kinds)), (a_this_thicks, .inl (cA, 6, .inl f_o1_thicks)), (a_o1, .inr (0, rf_o0 a_o1_kinds a_o1_thicks g_o1)), (a_o1_kinds, .inl (cA, 6, .inl f_o1_kinds)), (a_o1_thicks, .inl (cA, 6, .inl f_o1_thicks))] H := hP
  have hD : va_D A [(a_this, .inr (0, rf_o0 a_this_kinds a_this_thicks g_o1)), (a_this_kinds, .inl (cA, 6, .inl f_o1_kinds)), (a_this_thicks, .inl (cA, 6, .inl f_o1_thicks)), (a_o1, .inr (0, rf_o0 a_o1_kinds a_o1_thicks g_o1)), (a_o1_kinds, .inl (cA, 6, .inl f_o1_kinds)), (a_o1_thicks, .inl (cA, 6, .inl f_o1_thicks))] := hD
  obtain rfl := Option.some.inj hf
  exact W.vret hx hb hr (fun t ht hW => ⟨⟨(), rfl, trivial, rf_mk ht hP hD⟩, hS.F ht⟩) hS.2.2 dX0_copyFrom_110
theorem kX0_isOff_0 : (.fieldLink RX0 28 "RingAndFinger$Finger" "front" "I" : Cond) ∈ wsX0_isOff := by decide +kernel
theorem kX0_isOff_1 : (.fieldLink RX0 18 "RingAndFinger$Finger" "parts" "I" : Cond) ∈ wsX0_isOff := by decide +kernel
theorem jX0_isOff_X0 : ∀ w ∈ u_ws RX0 TX0 12, w ∈ wsX0_isOff := by decide +kernel
set_option maxHeartbeats 8000000 in
set_option maxRecDepth 100000 in
theorem c_X0_isOff (l : Launch) (D : va_G) (cA : ClassId) (ad : Nat → Nat) (a_this a_this_kinds a_this_thicks : Nat) (sz : Nat) (g_this : Nat → Int32) (q : Int32) (hf : f_X0_isOff g_this = some q) : Met l yX0_isOff wsX0_isOff ({ frames := 0, cells := 0, slots := 0, locals := 0 } : Room) (va_Pc [.ref a_this] (rf_Pre D cA ad [(a_this, .inr (0, rf_o0 a_this_kinds a_this_thicks g_this))] sz)) (va_Qi (fun (r : Int32) (_ : Unit) => r = q) (fun _ t => rf_Post D (va_A [(a_this, .inr (0, rf_o0 a_this_kinds a_this_thicks g_this))] sz) [(a_this, .inr (0, rf_o0 a_this_kinds a_this_thicks g_this))] t) (va_A [(a_this, .inr (0, rf_o0 a_this_kinds a_this_thicks g_this))] sz)) 0 0 (va_A [(a_this, .inr (0, rf_o0 a_this_kinds a_this_thicks g_this))] sz) := by
  refine Met.ofW (cc := cX0_isOff) (maxL := 1) (ret := (some .boolean)) (by decide) rfl ?_
  intro p e s m args below meth c s₁ B hml hv
  obtain ⟨rfl, hsz, hP, hK, hD0, hE⟩ := hv
  have hx := B.exec
  have hb := B.bytes
  have hr := B.returns
  have hts := atoms_spec (ws := wsX0_isOff) B.pre
  have hown : s.vm.findClass RX0 = some m.cls := findClass_of_methodNamed B.named
  have hlocks := B.notSynchronized
  subst hsz
  have hD := hD0.self (sz := s.heap.size)
  generalize hAe : va_A [(a_this, .inr (0, rf_o0 a_this_kinds a_this_thicks g_this))] s.heap.size = A at hD hE ⊢
  have hA : ∀ q : Nat, s.heap.size ≤ q → A q := fun q h => by rw [← hAe]; exact Or.inr h
  have hS : va_S A s.heap s.heap [] := va_S.rf
  have hP : va_P D vwCl [(a_this, .inr (0, rf_o0 a_this_kinds a_this_thicks g_this))] s.heap := hP
  have hl := lv_entry ([.ref a_this]) (n := 1) (Nat.le_of_ble_eq_true rfl)
  rw [lg_entry_eq]
  generalize (lg_sl ([.ref a_this]) ++ List.replicate (1 - (lg_sl ([.ref a_this])).length) Slot.unset).toArray = ls at hl ⊢
  have hl : lv_has ls 1 [(0, .ref a_this)] := hl
  rw [f_X0_isOff] at hf
  refine lv_aload_n hx hb dX0_isOff_0 rfl (lv_at hl 0 rfl) ?_
  refine va_get (D := D) (ci := 0) (v := .int (g_this 3)) (C := RX0) (T := TX0) (N := 12) hx hb hts jX0_isOff_X0 hown hK hP 0 rfl rfl 5 (by decide) (hts _ kX0_isOff_0) (fun _ h9 => h9) rfl dX0_isOff_1 ?_
  refine lv_aload_n hx hb dX0_isOff_4 rfl (lv_at hl 0 rfl) ?_
  refine va_get (D := D) (ci := 0) (v := .int (g_this 0)) (C := RX0) (T := TX0) (N := 12) hx hb hts jX0_isOff_X0 hown hK hP 0 rfl rfl 2 (by decide) (hts _ kX0_isOff_1) (fun _ h9 => h9) rfl dX0_isOff_5 ?_
  refine lv_icmp_lt (tgt := 15) hx hb dX0_isOff_8 (by decide) (fun c1 => ?_) (fun c1 => ?_)
  · have hf := rf_ifp hf c1
    refine lv_iconst (v := 0) hx hb dX0_isOff_15 (by decide) ?_
    obtain rfl := Option.some.inj hf
    exact W.zret (v := 0) hx hb hr rfl (fun t ht hW => ⟨⟨0, (), rfl, rfl, rf_mk ht hP hD⟩, hS.F ht⟩) hS.2.2 dX0_isOff_16
  · have hf := rf_ifn hf c1
    refine lv_iconst (v := 1) hx hb dX0_isOff_11 (by decide) ?_
    refine lv_goto (tgt := 16) hx hb dX0_isOff_12 (by decide) ?_
    obtain rfl := Option.some.inj hf
    exact W.zret (v := 1) hx hb hr rfl (fun t ht hW => ⟨⟨1, (), rfl, rfl, rf_mk ht hP hD⟩, hS.F ht⟩) hS.2.2 dX0_isOff_16
theorem kX0_hasMinutes_0 : (.fieldLink RX0 43 "RingAndFinger$Finger" "minute" "I" : Cond) ∈ wsX0_hasMinutes := by decide +kernel
theorem jX0_hasMinutes_X0 : ∀ w ∈ u_ws RX0 TX0 12, w ∈ wsX0_hasMinutes := by decide +kernel
set_option maxHeartbeats 8000000 in
set_option maxRecDepth 100000 in
theorem c_X0_hasMinutes (l : Launch) (D : va_G) (cA : ClassId) (ad : Nat → Nat) (a_this a_this_kinds a_this_thicks : Nat) (sz : Nat) (g_this : Nat → Int32) (p1 : Int32) (q : Int32) (hf : f_X0_hasMinutes g_this p1 = some q) : Met l yX0_hasMinutes wsX0_hasMinutes ({ frames := 0, cells := 0, slots := 0, locals := 0 } : Room) (va_Pc [.ref a_this, .int p1] (rf_Pre D cA ad [(a_this, .inr (0, rf_o0 a_this_kinds a_this_thicks g_this))] sz)) (va_Qi (fun (r : Int32) (_ : Unit) => r = q) (fun _ t => rf_Post D (va_A [(a_this, .inr (0, rf_o0 a_this_kinds a_this_thicks g_this))] sz) [(a_this, .inr (0, rf_o0 a_this_kinds a_this_thicks g_this))] t) (va_A [(a_this, .inr (0, rf_o0 a_this_kinds a_this_thicks g_this))] sz)) 0 0 (va_A [(a_this, .inr (0, rf_o0 a_this_kinds a_this_thicks g_this))] sz) := by
  refine Met.ofW (cc := cX0_hasMinutes) (maxL := 2) (ret := (some .boolean)) (by decide) rfl ?_
  intro p e s m args below meth c s₁ B hml hv
  obtain ⟨rfl, hsz, hP, hK, hD0, hE⟩ := hv
  have hx := B.exec
  have hb := B.bytes
  have hr := B.returns
  have hts := atoms_spec (ws := wsX0_hasMinutes) B.pre
  have hown : s.vm.findClass RX0 = some m.cls := findClass_of_methodNamed B.named
  have hlocks := B.notSynchronized
  subst hsz
  have hD := hD0.self (sz := s.heap.size)
  generalize hAe : va_A [(a_this, .inr (0, rf_o0 a_this_kinds a_this_thicks g_this))] s.heap.size = A at hD hE ⊢
  have hA : ∀ q : Nat, s.heap.size ≤ q → A q := fun q h => by rw [← hAe]; exact Or.inr h
  have hS : va_S A s.heap s.heap [] := va_S.rf
  have hP : va_P D vwCl [(a_this, .inr (0, rf_o0 a_this_kinds a_this_thicks g_this))] s.heap := hP
  have hl := lv_entry ([.ref a_this, .int p1]) (n := 2) (Nat.le_of_ble_eq_true rfl)
  rw [lg_entry_eq]
  generalize (lg_sl ([.ref a_this, .int p1]) ++ List.replicate (2 - (lg_sl ([.ref a_this, .int p1])).length) Slot.unset).toArray = ls at hl ⊢
  have hl : lv_has ls 2 [(0, .ref a_this), (1, .int p1)] := hl
  rw [f_X0_hasMinutes] at hf
  refine lv_aload_n hx hb dX0_hasMinutes_0 rfl (lv_at hl 0 rfl) ?_
  refine va_get (D := D) (ci := 0) (v := .int (g_this 8)) (C := RX0) (T := TX0) (N := 12) hx hb hts jX0_hasMinutes_X0 hown hK hP 0 rfl rfl 10 (by decide) (hts _ kX0_hasMinutes_0) (fun _ h9 => h9) rfl dX0_hasMinutes_1 ?_
  refine lv_iload_n hx hb dX0_hasMinutes_4 rfl (lv_at hl 1 rfl) ?_
  refine lv_iadd hx hb dX0_hasMinutes_5 ?_
  refine lv_sipush (v := 999) hx hb dX0_hasMinutes_6 (by decide) ?_
  refine lv_icmp_gt (tgt := 16) hx hb dX0_hasMinutes_9 (by decide) (fun c1 => ?_) (fun c1 => ?_)
  · have hf := rf_ifp hf c1
    refine lv_iconst (v := 0) hx hb dX0_hasMinutes_16 (by decide) ?_
    obtain rfl := Option.some.inj hf
    exact W.zret (v := 0) hx hb hr rfl (fun t ht hW => ⟨⟨0, (), rfl, rfl, rf_mk ht hP hD⟩, hS.F ht⟩) hS.2.2 dX0_hasMinutes_17
  · have hf := rf_ifn hf c1
    refine lv_iconst (v := 1) hx hb dX0_hasMinutes_12 (by decide) ?_
    refine lv_goto (tgt := 17) hx hb dX0_hasMinutes_13 (by decide) ?_
    obtain rfl := Option.some.inj hf
    exact W.zret (v := 1) hx hb hr rfl (fun t ht hW => ⟨⟨1, (), rfl, rfl, rf_mk ht hP hD⟩, hS.F ht⟩) hS.2.2 dX0_hasMinutes_17

set_option maxHeartbeats 8000000 in
set_option maxRecDepth 100000 in
theorem c_X2_at (l : Launch) (D : va_G) (cA : ClassId) (ad : Nat → Nat) (a_o0 : Nat) (sz : Nat) (n_o0 : Nat) (f_o0 : Nat → Int32) (p1 : Int32) (q : Int32) (hf : f_X2_at n_o0 f_o0 p1 = some q) : Met l yX2_at wsX2_at ({ frames := 0, cells := 0, slots := 0, locals := 0 } : Room) (va_Pc [.ref a_o0, .int p1] (rf_Pre D cA ad [(a_o0, .inl (cA, n_o0, .inl f_o0))] sz)) (va_Qi (fun (r : Int32) (_ : Unit) => r = q) (fun _ t => rf_Post D (va_A [(a_o0, .inl (cA, n_o0, .inl f_o0))] sz) [(a_o0, .inl (cA, n_o0, .inl f_o0))] t) (va_A [(a_o0, .inl (cA, n_o0, .inl f_o0))] sz)) 0 0 (va_A [(a_o0, .inl (cA, n_o0, .inl f_o0))] sz) := by
  refine Met.ofW (cc := cX2_at) (maxL := 2) (ret := (some .int)) (by decide) rfl ?_
  intro p e s m args below meth c s₁ B hml hv
  obtain ⟨rfl, hsz, hP, hK, hD0, hE⟩ := hv
  have hx := B.exec
  have hb := B.bytes
  have hr := B.returns
  have hts := atoms_spec (ws := wsX2_at) B.pre
  have hown : s.vm.findClass RX2 = some m.cls := findClass_of_methodNamed B.named
  have hlocks := B.notSynchronized
  subst hsz
  have hD := hD0.self (sz := s.heap.size)
  generalize hAe : va_A [(a_o0, .inl (cA, n_o0, .inl f_o0))] s.heap.size = A at hD hE ⊢
  have hA : ∀ q : Nat, s.heap.size ≤ q → A q := fun q h => by rw [← hAe]; exact Or.inr h
  have hS : va_S A s.heap s.heap [] := va_S.rf
  have hP : va_P D vwCl [(a_o0, .inl (cA, n_o0, .inl f_o0))] s.heap := hP
  have hl := lv_entry ([.ref a_o0, .int p1]) (n := 2) (Nat.le_of_ble_eq_true rfl)
  rw [lg_entry_eq]
  generalize (lg_sl ([.ref a_o0, .int p1]) ++ List.replicate (2 - (lg_sl ([.ref a_o0, .int p1])).length) Slot.unset).toArray = ls at hl ⊢
  have hl : lv_has ls 2 [(0, .ref a_o0), (1, .int p1)] := hl
  rw [f_X2_at] at hf
  refine lv_iload_n hx hb dX2_at_0 rfl (lv_at hl 1 rfl) ?_
  refine lv_if_lt (tgt := 16) hx hb dX2_at_1 (by decide) (fun c1 => ?_) (fun c1 => ?_)
  · have hf := rf_ifp hf c1
    refine lv_iconst (v := 0) hx hb dX2_at_16 (by decide) ?_
    obtain rfl := Option.some.inj hf
    exact W.iret (v := 0) hx hb hr (fun t ht hW => ⟨⟨0, (), rfl, rfl, rf_mk ht hP hD⟩, hS.F ht⟩) hS.2.2 dX2_at_17
  · have hf := rf_ifn hf c1
    refine lv_iload_n hx hb dX2_at_4 rfl (lv_at hl 1 rfl) ?_
    refine lv_aload_n hx hb dX2_at_5 rfl (lv_at hl 0 rfl) ?_
    refine va_alen (v := (Int32.ofNat n_o0)) hx hb hK hP 0 0 rfl rfl rfl dX2_at_6 ?_
    refine lv_icmp_ge (tgt := 16) hx hb dX2_at_7 (by decide) (fun c2 => ?_) (fun c2 => ?_)
    · have hf := rf_ifp hf c2
      refine lv_iconst (v := 0) hx hb dX2_at_16 (by decide) ?_
      obtain rfl := Option.some.inj hf
      exact W.iret (v := 0) hx hb hr (fun t ht hW => ⟨⟨0, (), rfl, rfl, rf_mk ht hP hD⟩, hS.F ht⟩) hS.2.2 dX2_at_17
    · have hf := rf_ifn hf c2
      refine lv_aload_n hx hb dX2_at_10 rfl (lv_at hl 0 rfl) ?_
      refine lv_iload_n hx hb dX2_at_11 rfl (lv_at hl 1 rfl) ?_
      obtain ⟨c3, hf⟩ := rf_chk hf
      refine va_iald hx hb hK hP 0 0 rfl rfl c3 dX2_at_12 ?_
      refine lv_goto (tgt := 17) hx hb dX2_at_13 (by decide) ?_
      obtain rfl := Option.some.inj hf
      exact W.iret (v := (f_o0 (p1.toNatClampNeg))) hx hb hr (fun t ht hW => ⟨⟨(f_o0 (p1.toNatClampNeg)), (), rfl, rfl, rf_mk ht hP hD⟩, hS.F ht⟩) hS.2.2 dX2_at_17
set_option maxHeartbeats 8000000 in
set_option maxRecDepth 100000 in
theorem c_X2_at_T (l : Launch) (D : va_G) (cA : ClassId) (ad : Nat → Nat) (a_o0 : Nat) (sz : Nat) (n_o0 : Nat) (f_o0 : Nat → Int32) (p1 : Int32) (q : Int32) (hf : f_X2_at n_o0 f_o0 p1 = some q) : Met l yX2_at wsX2_at ({ frames := 0, cells := 0, slots := 0, locals := 0 } : Room) (va_Pc [.ref a_o0, .int p1] (rf_PreT a_o0 n_o0 f_o0 sz)) (va_Qi (fun (r : Int32) (_ : Unit) => r = q) (fun _ _ => True) (va_A [] sz)) 0 0 (va_A [] sz) := by
  refine Met.ofW (cc := cX2_at) (maxL := 2) (ret := (some .int)) (by decide) rfl ?_
  intro p e s m args below meth c s₁ B hml hv
  obtain ⟨rfl, hsz, hT⟩ := hv
  have hx := B.exec
  have hb := B.bytes
  have hr := B.returns
  have hlocks := B.notSynchronized
  subst hsz
  generalize hAe : va_A [] s.heap.size = A at hT ⊢
  have hS : va_S A s.heap s.heap [] := va_S.rf
  have hl := lv_entry ([.ref a_o0, .int p1]) (n := 2) (Nat.le_of_ble_eq_true rfl)
  rw [lg_entry_eq]
  generalize (lg_sl ([.ref a_o0, .int p1]) ++ List.replicate (2 - (lg_sl ([.ref a_o0, .int p1])).length) Slot.unset).toArray = ls at hl ⊢
  have hl : lv_has ls 2 [(0, .ref a_o0), (1, .int p1)] := hl
  rw [f_X2_at] at hf
  refine lv_iload_n hx hb dX2_at_0 rfl (lv_at hl 1 rfl) ?_
  refine lv_if_lt (tgt := 16) hx hb dX2_at_1 (by decide) (fun c1 => ?_) (fun c1 => ?_)
  · have hf := rf_ifp hf c1
    refine lv_iconst (v := 0) hx hb dX2_at_16 (by decide) ?_
    obtain rfl := Option.some.inj hf
    exact W.iret (v := 0) hx hb hr (fun t ht hW => ⟨⟨0, (), rfl, rfl, trivial⟩, hS.F ht⟩) hS.2.2 dX2_at_17
  · have hf := rf_ifn hf c1
    refine lv_iload_n hx hb dX2_at_4 rfl (lv_at hl 1 rfl) ?_
    refine lv_aload_n hx hb dX2_at_5 rfl (lv_at hl 0 rfl) ?_
    refine va_tlen (v := (Int32.ofNat n_o0)) hx hb hT hS rfl dX2_at_6 ?_
    refine lv_icmp_ge (tgt := 16) hx hb dX2_at_7 (by decide) (fun c2 => ?_) (fun c2 => ?_)
    · have hf := rf_ifp hf c2
      refine lv_iconst (v := 0) hx hb dX2_at_16 (by decide) ?_
      obtain rfl := Option.some.inj hf
      exact W.iret (v := 0) hx hb hr (fun t ht hW => ⟨⟨0, (), rfl, rfl, trivial⟩, hS.F ht⟩) hS.2.2 dX2_at_17
    · have hf := rf_ifn hf c2
      refine lv_aload_n hx hb dX2_at_10 rfl (lv_at hl 0 rfl) ?_
      refine lv_iload_n hx hb dX2_at_11 rfl (lv_at hl 1 rfl) ?_
      obtain ⟨c3, hf⟩ := rf_chk hf
      refine va_ti hx hb hT hS c3 rfl dX2_at_12 ?_
      refine lv_goto (tgt := 17) hx hb dX2_at_13 (by decide) ?_
      obtain rfl := Option.some.inj hf
      exact W.iret (v := (f_o0 (p1.toNatClampNeg))) hx hb hr (fun t ht hW => ⟨⟨(f_o0 (p1.toNatClampNeg)), (), rfl, rfl, trivial⟩, hS.F ht⟩) hS.2.2 dX2_at_17
theorem kX2_thickness_0 : (.methodLink RX2 175 Lib.Math.max.name : Cond) ∈ wsX2_thickness := by decide +kernel
theorem kX2_thickness_1 : (.static Lib.Math.max.name : Cond) ∈ wsX2_thickness := by decide +kernel
theorem kX2_thickness_2 : (.initialized "java/lang/Math" : Cond) ∈ wsX2_thickness := by decide +kernel
theorem kX2_thickness_3 : (.code Lib.Math.max.name Lib.Math.max.code 2 (some .int) : Cond) ∈ wsX2_thickness := by decide +kernel
set_option maxHeartbeats 8000000 in
set_option maxRecDepth 100000 in
theorem c_X2_thickness (l : Launch) (D : va_G) (cA : ClassId) (ad : Nat → Nat) (sz : Nat) (p0 p1 p2 p3 p4 : Int32) (q : Int32) (hf : f_X2_thickness p0 p1 p2 p3 p4 = some q) : Met l yX2_thickness wsX2_thickness ({ frames := 1, cells := 0, slots := 0, locals := 21 } : Room) (va_Pc [.int p0, .int p1, .int p2, .int p3, .int p4] (rf_Pre D cA ad [] sz)) (va_Qi (fun (r : Int32) (_ : Unit) => r = q) (fun _ t => rf_Post D (va_A [] sz) [] t) (va_A [] sz)) 0 0 (va_A [] sz) := by
  refine Met.ofW (cc := cX2_thickness) (maxL := 7) (ret := (some .int)) (by decide) rfl ?_
  intro p e s m args below meth c s₁ B hml hv
  obtain ⟨rfl, hsz, hP, hK, hD0, hE⟩ := hv
  have hx := B.exec
  have hb := B.bytes
  have hr := B.returns
  have hts := atoms_spec (ws := wsX2_thickness) B.pre
  have hown : s.vm.findClass RX2 = some m.cls := findClass_of_methodNamed B.named
  have hlocks := B.notSynchronized
  subst hsz
  have hD := hD0.self (sz := s.heap.size)
  generalize hAe : va_A [] s.heap.size = A at hD hE ⊢
  have hA : ∀ q : Nat, s.heap.size ≤ q → A q := fun q h => by rw [← hAe]; exact Or.inr h
  have hS : va_S A s.heap s.heap [] := va_S.rf
  have hP : va_P D vwCl [] s.heap := hP
  have hl := lv_entry ([.int p0, .int p1, .int p2, .int p3, .int p4]) (n := 7) (Nat.le_of_ble_eq_true rfl)
  rw [lg_entry_eq]
  generalize (lg_sl ([.int p0, .int p1, .int p2, .int p3, .int p4]) ++ List.replicate (7 - (lg_sl ([.int p0, .int p1, .int p2, .int p3, .int p4])).length) Slot.unset).toArray = ls at hl ⊢
  have hl : lv_has ls 7 [(0, .int p0), (1, .int p1), (2, .int p2), (3, .int p3), (4, .int p4)] := hl
  rw [f_X2_thickness] at hf
  refine lv_iconst (v := 0) hx hb dX2_thickness_0 (by decide) ?_
  refine lv_iload_n hx hb dX2_thickness_1 rfl (lv_at hl 1 rfl) ?_
  refine lv_iload_n hx hb dX2_thickness_2 rfl (lv_at hl 2 rfl) ?_
  refine lv_iadd hx hb dX2_thickness_3 ?_
  refine lv_iload_n hx hb dX2_thickness_4 rfl (lv_at hl 3 rfl) ?_
  refine lv_isub hx hb dX2_thickness_5 ?_
  refine va_mmax hx hb (hml.trans hl.1.symm) hown (hts _ kX2_thickness_0) (hts _ kX2_thickness_1) (hts _ kX2_thickness_2) (hts _ kX2_thickness_3) (Nat.le_of_ble_eq_true rfl) (Nat.le_of_ble_eq_true rfl) (Nat.zero_le _) (Nat.zero_le _) dX2_thickness_6 ?_
  refine lv_topi (fun v1 ev1 => ?_)
  have hf := rf_bindv hf ev1
  clear ev1
  refine lv_istore (lv' := [(5, .int v1), (0, .int p0), (1, .int p1), (2, .int p2), (3, .int p3), (4, .int p4)]) hx hb dX2_thickness_9 hl (by decide) rfl (fun ls hl => ?_)
  refine lv_iconst (v := 0) hx hb dX2_thickness_11 (by decide) ?_
  refine lv_iload_n hx hb dX2_thickness_12 rfl (lv_at hl 2 rfl) ?_
  refine lv_iload_n hx hb dX2_thickness_13 rfl (lv_at hl 3 rfl) ?_
  refine lv_iconst (v := 2) hx hb dX2_thickness_14 (by decide) ?_
  refine lv_idiv hx hb dX2_thickness_15 (by decide) ?_
  refine lv_iadd hx hb dX2_thickness_16 ?_
  refine lv_iload_n hx hb dX2_thickness_17 rfl (lv_at hl 4 rfl) ?_
  refine lv_iconst (v := 4) hx hb dX2_thickness_18 (by decide) ?_
  refine lv_idiv hx hb dX2_thickness_19 (by decide) ?_
  refine lv_isub hx hb dX2_thickness_20 ?_
  refine va_mmax hx hb (hml.trans hl.1.symm) hown (hts _ kX2_thickness_0) (hts _ kX2_thickness_1) (hts _ kX2_thickness_2) (hts _ kX2_thickness_3) (Nat.le_of_ble_eq_true rfl) (Nat.le_of_ble_eq_true rfl) (Nat.zero_le _) (Nat.zero_le _) dX2_thickness_21 ?_
  refine lv_topi (fun v2 ev2 => ?_)
  have hf := rf_bindv hf ev2
  clear ev2
  refine lv_istore (lv' := [(6, .int v2), (5, .int v1), (0, .int p0), (1, .int p1), (2, .int p2), (3, .int p3), (4, .int p4)]) hx hb dX2_thickness_24 hl (by decide) rfl (fun ls hl => ?_)
  refine lv_iload_n hx hb dX2_thickness_26 rfl (lv_at hl 2 rfl) ?_
  by_cases c3 : p0 = 1
  · have hf := rf_ifp hf c3
    refine rf_tabC (off := 33) (tgt := 60) hx hb dX2_thickness_27 c3 (by decide) (by decide) (by decide) (by decide) ?_
    refine lv_iload hx hb dX2_thickness_60 (lv_at hl 0 rfl) ?_
    obtain rfl := Option.some.inj hf
    exact W.iret (v := v2) hx hb hr (fun t ht hW => ⟨⟨v2, (), rfl, rfl, rf_mk ht hP hD⟩, hS.F ht⟩) hS.2.2 dX2_thickness_62
  · have hf := rf_ifn hf c3
    by_cases c4 : p0 = 2
    · have hf := rf_ifp hf c4
      refine rf_tabC (off := 36) (tgt := 63) hx hb dX2_thickness_27 c4 (by decide) (by decide) (by decide) (by decide) ?_
      refine lv_iload hx hb dX2_thickness_63 (lv_at hl 1 rfl) ?_
      refine lv_iload_n hx hb dX2_thickness_65 rfl (lv_at hl 4 rfl) ?_
      refine lv_iadd hx hb dX2_thickness_66 ?_
      obtain rfl := Option.some.inj hf
      exact W.iret (v := (v1 + p2)) hx hb hr (fun t ht hW => ⟨⟨(v1 + p2), (), rfl, rfl, rf_mk ht hP hD⟩, hS.F ht⟩) hS.2.2 dX2_thickness_67
    · have hf := rf_ifn hf c4
      by_cases c5 : p0 = 3
      · have hf := rf_ifp hf c5
        refine rf_tabC (off := 41) (tgt := 68) hx hb dX2_thickness_27 c5 (by decide) (by decide) (by decide) (by decide) ?_
        refine lv_iload hx hb dX2_thickness_68 (lv_at hl 1 rfl) ?_
        refine lv_iload_n hx hb dX2_thickness_70 rfl (lv_at hl 4 rfl) ?_
        refine lv_iadd hx hb dX2_thickness_71 ?_
        refine lv_iload_n hx hb dX2_thickness_72 rfl (lv_at hl 4 rfl) ?_
        refine lv_bipush (v := 9) hx hb dX2_thickness_73 (by decide) ?_
        refine lv_icmp_le (tgt := 82) hx hb dX2_thickness_75 (by decide) (fun c6 => ?_) (fun c6 => ?_)
        · have hf := rf_ifp hf c6
          refine lv_iconst (v := 0) hx hb dX2_thickness_82 (by decide) ?_
          refine lv_iadd hx hb dX2_thickness_83 ?_
          obtain rfl := Option.some.inj hf
          exact W.iret (v := ((v1 + p2) + 0)) hx hb hr (fun t ht hW => ⟨⟨((v1 + p2) + 0), (), rfl, rfl, rf_mk ht hP hD⟩, hS.F ht⟩) hS.2.2 dX2_thickness_84
        · have hf := rf_ifn hf c6
          refine lv_iconst (v := 3) hx hb dX2_thickness_78 (by decide) ?_
          refine lv_goto (tgt := 83) hx hb dX2_thickness_79 (by decide) ?_
          refine lv_iadd hx hb dX2_thickness_83 ?_
          obtain rfl := Option.some.inj hf
          exact W.iret (v := ((v1 + p2) + 3)) hx hb hr (fun t ht hW => ⟨⟨((v1 + p2) + 3), (), rfl, rfl, rf_mk ht hP hD⟩, hS.F ht⟩) hS.2.2 dX2_thickness_84
      · have hf := rf_ifn hf c5
        by_cases c7 : p0 = 4
        · have hf := rf_ifp hf c7
          refine rf_tabC (off := 58) (tgt := 85) hx hb dX2_thickness_27 c7 (by decide) (by decide) (by decide) (by decide) ?_
          refine lv_iload hx hb dX2_thickness_85 (lv_at hl 0 rfl) ?_
          refine lv_iload hx hb dX2_thickness_87 (lv_at hl 6 rfl) ?_
          refine lv_iadd hx hb dX2_thickness_89 ?_
          obtain rfl := Option.some.inj hf
          exact W.iret (v := (v2 + p4)) hx hb hr (fun t ht hW => ⟨⟨(v2 + p4), (), rfl, rfl, rf_mk ht hP hD⟩, hS.F ht⟩) hS.2.2 dX2_thickness_90
        · have hf := rf_ifn hf c7
          by_cases c8 : p0 = 5
          · have hf := rf_ifp hf c8
            refine rf_tabC (off := 64) (tgt := 91) hx hb dX2_thickness_27 c8 (by decide) (by decide) (by decide) (by decide) ?_
            refine lv_iconst (v := 0) hx hb dX2_thickness_91 (by decide) ?_
            refine lv_iload hx hb dX2_thickness_92 (lv_at hl 0 rfl) ?_
            refine lv_iload hx hb dX2_thickness_94 (lv_at hl 6 rfl) ?_
            refine lv_iadd hx hb dX2_thickness_96 ?_
            refine lv_bipush (v := 10) hx hb dX2_thickness_97 (by decide) ?_
            refine lv_isub hx hb dX2_thickness_99 ?_
            refine va_mmax hx hb (hml.trans hl.1.symm) hown (hts _ kX2_thickness_0) (hts _ kX2_thickness_1) (hts _ kX2_thickness_2) (hts _ kX2_thickness_3) (Nat.le_of_ble_eq_true rfl) (Nat.le_of_ble_eq_true rfl) (Nat.zero_le _) (Nat.zero_le _) dX2_thickness_100 ?_
            refine lv_topi (fun v9 ev9 => ?_)
            have hf := rf_bindv hf ev9
            clear ev9
            obtain rfl := Option.some.inj hf
            exact W.iret (v := v9) hx hb hr (fun t ht hW => ⟨⟨v9, (), rfl, rfl, rf_mk ht hP hD⟩, hS.F ht⟩) hS.2.2 dX2_thickness_103
          · have hf := rf_ifn hf c8
            refine rf_tabD (tgt := 104) (ks := [1, 2, 3, 4, 5]) hx hb dX2_thickness_27 (by intro z hz; simp only [List.mem_cons, List.not_mem_nil, or_false] at hz; rcases hz with rfl | rfl | rfl | rfl | rfl <;> assumption) (by decide) (by decide) ?_
            refine lv_iload hx hb dX2_thickness_104 (lv_at hl 1 rfl) ?_
            obtain rfl := Option.some.inj hf
            exact W.iret (v := v1) hx hb hr (fun t ht hW => ⟨⟨v1, (), rfl, rfl, rf_mk ht hP hD⟩, hS.F ht⟩) hS.2.2 dX2_thickness_106
theorem kX0_thickNow_0 : (.fieldLink RX0 9 "RingAndFinger$Finger" "kinds" "[I" : Cond) ∈ wsX0_thickNow := by decide +kernel
theorem kX0_thickNow_1 : (.initialized RX2 : Cond) ∈ wsX0_thickNow := by decide +kernel
theorem kX0_thickNow_2 : (.static yX2_at : Cond) ∈ wsX0_thickNow := by decide +kernel
theorem kX0_thickNow_3 : (.fieldLink RX0 15 "RingAndFinger$Finger" "thicks" "[I" : Cond) ∈ wsX0_thickNow := by decide +kernel
theorem kX0_thickNow_4 : (.fieldLink RX0 31 "RingAndFinger$Finger" "swell" "I" : Cond) ∈ wsX0_thickNow := by decide +kernel
theorem kX0_thickNow_5 : (.fieldLink RX0 34 "RingAndFinger$Finger" "cold" "I" : Cond) ∈ wsX0_thickNow := by decide +kernel
theorem kX0_thickNow_6 : (.fieldLink RX0 40 "RingAndFinger$Finger" "heat" "I" : Cond) ∈ wsX0_thickNow := by decide +kernel
theorem kX0_thickNow_7 : (.static yX2_thickness : Cond) ∈ wsX0_thickNow := by decide +kernel
theorem jX0_thickNow_X0 : ∀ w ∈ u_ws RX0 TX0 12, w ∈ wsX0_thickNow := by decide +kernel
set_option maxHeartbeats 8000000 in
set_option maxRecDepth 100000 in
theorem c_X0_thickNow (l : Launch) (D : va_G) (cA : ClassId) (ad : Nat → Nat) (a_this a_this_kinds a_this_thicks : Nat) (sz : Nat) (g_this f_this_kinds f_this_thicks : Nat → Int32) (p1 : Int32) (q : Int32) (hf : f_X0_thickNow g_this f_this_kinds f_this_thicks p1 = some q) : Met l yX0_thickNow wsX0_thickNow ({ frames := 2, cells := 0, slots := 0, locals := 47 } : Room) (va_Pc [.ref a_this, .int p1] (rf_Pre D cA ad [(a_this, .inr (0, rf_o0 a_this_kinds a_this_thicks g_this)), (a_this_kinds, .inl (cA, 6, .inl f_this_kinds)), (a_this_thicks, .inl (cA, 6, .inl f_this_thicks))] sz)) (va_Qi (fun (r : Int32) (_ : Unit) => r = q) (fun _ t => rf_Post D (va_A [(a_this, .inr (0, rf_o0 a_this_kinds a_this_thicks g_this)), (a_this_kinds, .inl (cA, 6, .inl f_this_kinds)), (a_this_thicks, .inl (cA, 6, .inl f_this_thicks))] sz) [(a_this, .inr (0, rf_o0 a_this_kinds a_this_thicks g_this)), (a_this_kinds, .inl (cA, 6, .inl f_this_kinds)), (a_this_thicks, .inl (cA, 6, .inl f_this_thicks))] t) (va_A [(a_this, .inr (0, rf_o0 a_this_kinds a_this_thicks g_this)), (a_this_kinds, .inl (cA, 6, .inl f_this_kinds)), (a_this_thicks, .inl (cA, 6, .inl f_this_thicks))] sz)) 0 0 (va_A [(a_this, .inr (0, rf_o0 a_this_kinds a_this_thicks g_this)), (a_this_kinds, .inl (cA, 6, .inl f_this_kinds)), (a_this_thicks, .inl (cA, 6, .inl f_this_thicks))] sz) := by
  refine Met.ofW (cc := cX0_thickNow) (maxL := 2) (ret := (some .int)) (by decide) rfl ?_
  intro p e s m args below meth c s₁ B hml hv
  obtain ⟨rfl, hsz, hP, hK, hD0, hE⟩ := hv
  have hx := B.exec
  have hb := B.bytes
  have hr := B.returns
  have hts := atoms_spec (ws := wsX0_thickNow) B.pre
  have hown : s.vm.findClass RX0 = some m.cls := findClass_of_methodNamed B.named
  have hlocks := B.notSynchronized
  subst hsz
  have hD := hD0.self (sz := s.heap.size)
  generalize hAe : va_A [(a_this, .inr (0, rf_o0 a_this_kinds a_this_thicks g_this)), (a_this_kinds, .inl (cA, 6, .inl f_this_kinds)), (a_this_thicks, .inl (cA, 6, .inl f_this_thicks))] s.heap.size = A at hD hE ⊢
  have hA : ∀ q : Nat, s.heap.size ≤ q → A q := fun q h => by rw [← hAe]; exact Or.inr h
  have hS : va_S A s.heap s.heap [] := va_S.rf
  have hP : va_P D vwCl [(a_this, .inr (0, rf_o0 a_this_kinds a_this_thicks g_this)), (a_this_kinds, .inl (cA, 6, .inl f_this_kinds)), (a_this_thicks, .inl (cA, 6, .inl f_this_thicks))] s.heap := hP
  have hl := lv_entry ([.ref a_this, .int p1]) (n := 2) (Nat.le_of_ble_eq_true rfl)
  rw [lg_entry_eq]
  generalize (lg_sl ([.ref a_this, .int p1]) ++ List.replicate (2 - (lg_sl ([.ref a_this, .int p1])).length) Slot.unset).toArray = ls at hl ⊢
  have hl : lv_has ls 2 [(0, .ref a_this), (1, .int p1)] := hl
  rw [f_X0_thickNow] at hf
  refine lv_aload_n hx hb dX0_thickNow_0 rfl (lv_at hl 0 rfl) ?_
  refine va_get (D := D) (ci := 0) (v := .ref a_this_kinds) (C := RX0) (T := TX0) (N := 12) hx hb hts jX0_thickNow_X0 hown hK hP 0 rfl rfl 0 (by decide) (hts _ kX0_thickNow_0) (fun _ h9 => h9) rfl dX0_thickNow_1 ?_
  refine lv_iload_n hx hb dX0_thickNow_4 rfl (lv_at hl 1 rfl) ?_
  obtain ⟨q1, hq1, hf⟩ := rf_bindq hf
  refine rf_Ni (As := [.ref a_this_kinds, .int p1]) (rest := []) (wr := [(a_this, .inr (0, rf_o0 a_this_kinds a_this_thicks g_this)), (a_this_thicks, .inl (cA, 6, .inl f_this_thicks))]) (wn := [(a_this, .inr (0, rf_o0 a_this_kinds a_this_thicks g_this)), (a_this_kinds, .inl (cA, 6, .inl f_this_kinds)), (a_this_thicks, .inl (cA, 6, .inl f_this_thicks))]) ⟨hx, hb, hml, hown, hts⟩ hK hP hD hS hA hE (c_X2_at l D cA ad a_this_kinds s.heap.size 6 f_this_kinds p1 q1 hq1) ⟨va_cnB (host := "RingAndFinger") 2 hts gX0_thickNow_X2_at_n55 rfl rfl rfl (hE.1 0 _ rfl) (hts _ kX0_thickNow_1) hn_X2_at ⟨Nat.le_of_ble_eq_true rfl, Nat.le_of_ble_eq_true rfl⟩, (hts _ kX0_thickNow_2), trivial⟩ [1] [0, 2] [0, 2, 1] rfl rfl rfl rfl (by decide) rfl rfl rfl rfl hl.1 (Nat.le_of_ble_eq_true rfl) dX0_thickNow_5 ⟨Nat.zero_le _, Nat.zero_le _⟩ (fun H locs hP hD hS => ?_)
  refine lv_aload_n hx hb dX0_thickNow_8 rfl (lv_at hl 0 rfl) ?_
  refine va_get (D := D) (ci := 0) (v := .ref a_this_thicks) (C := RX0) (T := TX0) (N := 12) hx hb hts jX0_thickNow_X0 hown hK hP 0 rfl rfl 1 (by decide) (hts _ kX0_thickNow_3) (fun _ h9 => h9) rfl dX0_thickNow_9 ?_
  refine lv_iload_n hx hb dX0_thickNow_12 rfl (lv_at hl 1 rfl) ?_
  obtain ⟨q2, hq2, hf⟩ := rf_bindq hf
  refine rf_Ni (As := [.ref a_this_thicks, .int p1]) (rest := [.int q1]) (wr := [(a_this, .inr (0, rf_o0 a_this_kinds a_this_thicks g_this)), (a_this_kinds, .inl (cA, 6, .inl f_this_kinds))]) (wn := [(a_this, .inr (0, rf_o0 a_this_kinds a_this_thicks g_this)), (a_this_kinds, .inl (cA, 6, .inl f_this_kinds)), (a_this_thicks, .inl (cA, 6, .inl f_this_thicks))]) ⟨hx, hb, hml, hown, hts⟩ hK hP hD hS hA hE (c_X2_at l D cA ad a_this_thicks H.size 6 f_this_thicks p1 q2 hq2) ⟨va_cnB (host := "RingAndFinger") 2 hts gX0_thickNow_X2_at_n55 rfl rfl rfl (hE.1 0 _ rfl) (hts _ kX0_thickNow_1) hn_X2_at ⟨Nat.le_of_ble_eq_true rfl, Nat.le_of_ble_eq_true rfl⟩, (hts _ kX0_thickNow_2), trivial⟩ [2] [0, 1] [0, 1, 2] rfl rfl rfl rfl (by decide) rfl rfl rfl rfl hl.1 (Nat.le_of_ble_eq_true rfl) dX0_thickNow_13 ⟨Nat.zero_le _, Nat.zero_le _⟩ (fun H locs hP hD hS => ?_)
  refine lv_aload_n hx hb dX0_thickNow_16 rfl (lv_at hl 0 rfl) ?_
  refine va_get (D := D) (ci := 0) (v := .int (g_this 4)) (C := RX0) (T := TX0) (N := 12) hx hb hts jX0_thickNow_X0 hown hK hP 0 rfl rfl 6 (by decide) (hts _ kX0_thickNow_4) (fun _ h9 => h9) rfl dX0_thickNow_17 ?_
  refine lv_aload_n hx hb dX0_thickNow_20 rfl (lv_at hl 0 rfl) ?_
  refine va_get (D := D) (ci := 0) (v := .int (g_this 5)) (C := RX0) (T := TX0) (N := 12) hx hb hts jX0_thickNow_X0 hown hK hP 0 rfl rfl 7 (by decide) (hts _ kX0_thickNow_5) (fun _ h9 => h9) rfl dX0_thickNow_21 ?_
  refine lv_aload_n hx hb dX0_thickNow_24 rfl (lv_at hl 0 rfl) ?_
  refine va_get (D := D) (ci := 0) (v := .int (g_this 7)) (C := RX0) (T := TX0) (N := 12) hx hb hts jX0_thickNow_X0 hown hK hP 0 rfl rfl 9 (by decide) (hts _ kX0_thickNow_6) (fun _ h9 => h9) rfl dX0_thickNow_25 ?_
  obtain ⟨q3, hq3, hf⟩ := rf_bindq hf
  refine rf_Ni (As := [.int q1, .int q2, .int (g_this 4), .int (g_this 5), .int (g_this 7)]) (rest := []) (wr := [(a_this, .inr (0, rf_o0 a_this_kinds a_this_thicks g_this)), (a_this_kinds, .inl (cA, 6, .inl f_this_kinds)), (a_this_thicks, .inl (cA, 6, .inl f_this_thicks))]) (wn := [(a_this, .inr (0, rf_o0 a_this_kinds a_this_thicks g_this)), (a_this_kinds, .inl (cA, 6, .inl f_this_kinds)), (a_this_thicks, .inl (cA, 6, .inl f_this_thicks))]) ⟨hx, hb, hml, hown, hts⟩ hK hP hD hS hA hE (c_X2_thickness l D cA ad H.size q1 q2 (g_this 4) (g_this 5) (g_this 7) q3 hq3) ⟨va_cnB (host := "RingAndFinger") 5 hts gX0_thickNow_X2_thickness_n59 rfl rfl rfl (hE.1 1 _ rfl) (hts _ kX0_thickNow_1) hn_X2_thickness ⟨Nat.le_of_ble_eq_true rfl, Nat.le_of_ble_eq_true rfl⟩, (hts _ kX0_thickNow_7), trivial⟩ [] [0, 1, 2] [0, 1, 2] rfl rfl rfl rfl (by decide) rfl rfl rfl rfl hl.1 (Nat.le_of_ble_eq_true rfl) dX0_thickNow_28 ⟨Nat.zero_le _, Nat.zero_le _⟩ (fun H locs hP hD hS => ?_)
  obtain rfl := Option.some.inj hf
  exact W.iret (v := q3) hx hb hr (fun t ht hW => ⟨⟨q3, (), rfl, rfl, rf_mk ht hP hD⟩, hS.F ht⟩) hS.2.2 dX0_thickNow_31
theorem kX0_thickestNow_0 : (.fieldLink RX0 18 "RingAndFinger$Finger" "parts" "I" : Cond) ∈ wsX0_thickestNow := by decide +kernel
theorem kX0_thickestNow_1 : (.methodLink RX0 67 Lib.Math.max.name : Cond) ∈ wsX0_thickestNow := by decide +kernel
theorem kX0_thickestNow_2 : (.static Lib.Math.max.name : Cond) ∈ wsX0_thickestNow := by decide +kernel
theorem kX0_thickestNow_3 : (.initialized "java/lang/Math" : Cond) ∈ wsX0_thickestNow := by decide +kernel
theorem kX0_thickestNow_4 : (.code Lib.Math.max.name Lib.Math.max.code 2 (some .int) : Cond) ∈ wsX0_thickestNow := by decide +kernel
theorem jX0_thickestNow_X0 : ∀ w ∈ u_ws RX0 TX0 12, w ∈ wsX0_thickestNow := by decide +kernel
set_option maxHeartbeats 8000000 in
set_option maxRecDepth 100000 in
theorem c_X0_thickestNow (l : Launch) (D : va_G) (cA : ClassId) (ad : Nat → Nat) (a_this a_this_kinds a_this_thicks : Nat) (sz : Nat) (g_this f_this_kinds f_this_thicks : Nat → Int32) (q : Int32) (hf : f_X0_thickestNow g_this f_this_kinds f_this_thicks = some q) : Met l yX0_thickestNow wsX0_thickestNow ({ frames := 3, cells := 0, slots := 0, locals := 68 } : Room) (va_Pc [.ref a_this] (rf_Pre D cA ad [(a_this, .inr (0, rf_o0 a_this_kinds a_this_thicks g_this)), (a_this_kinds, .inl (cA, 6, .inl f_this_kinds)), (a_this_thicks, .inl (cA, 6, .inl f_this_thicks))] sz)) (va_Qi (fun (r : Int32) (_ : Unit) => r = q) (fun _ t => rf_Post D (va_A [(a_this, .inr (0, rf_o0 a_this_kinds a_this_thicks g_this)), (a_this_kinds, .inl (cA, 6, .inl f_this_kinds)), (a_this_thicks, .inl (cA, 6, .inl f_this_thicks))] sz) [(a_this, .inr (0, rf_o0 a_this_kinds a_this_thicks g_this)), (a_this_kinds, .inl (cA, 6, .inl f_this_kinds)), (a_this_thicks, .inl (cA, 6, .inl f_this_thicks))] t) (va_A [(a_this, .inr (0, rf_o0 a_this_kinds a_this_thicks g_this)), (a_this_kinds, .inl (cA, 6, .inl f_this_kinds)), (a_this_thicks, .inl (cA, 6, .inl f_this_thicks))] sz)) 0 0 (va_A [(a_this, .inr (0, rf_o0 a_this_kinds a_this_thicks g_this)), (a_this_kinds, .inl (cA, 6, .inl f_this_kinds)), (a_this_thicks, .inl (cA, 6, .inl f_this_thicks))] sz) := by
  refine Met.ofW (cc := cX0_thickestNow) (maxL := 3) (ret := (some .int)) (by decide) rfl ?_
  intro p e s m args below meth c s₁ B hml hv
  obtain ⟨rfl, hsz, hP, hK, hD0, hE⟩ := hv
  have hx := B.exec
  have hb := B.bytes
  have hr := B.returns
  have hts := atoms_spec (ws := wsX0_thickestNow) B.pre
  have hown : s.vm.findClass RX0 = some m.cls := findClass_of_methodNamed B.named
  have hlocks := B.notSynchronized
  subst hsz
  have hD := hD0.self (sz := s.heap.size)
  generalize hAe : va_A [(a_this, .inr (0, rf_o0 a_this_kinds a_this_thicks g_this)), (a_this_kinds, .inl (cA, 6, .inl f_this_kinds)), (a_this_thicks, .inl (cA, 6, .inl f_this_thicks))] s.heap.size = A at hD hE ⊢
  have hA : ∀ q : Nat, s.heap.size ≤ q → A q := fun q h => by rw [← hAe]; exact Or.inr h
  have hS : va_S A s.heap s.heap [] := va_S.rf
  have hP : va_P D vwCl [(a_this, .inr (0, rf_o0 a_this_kinds a_this_thicks g_this)), (a_this_kinds, .inl (cA, 6, .inl f_this_kinds)), (a_this_thicks, .inl (cA, 6, .inl f_this_thicks))] s.heap := hP
  have hl := lv_entry ([.ref a_this]) (n := 3) (Nat.le_of_ble_eq_true rfl)
  rw [lg_entry_eq]
  generalize (lg_sl ([.ref a_this]) ++ List.replicate (3 - (lg_sl ([.ref a_this])).length) Slot.unset).toArray = ls at hl ⊢
  have hl : lv_has ls 3 [(0, .ref a_this)] := hl
  have key_4 : ∀ (n : Nat) (x1 x2 : Int32) (ql : Int32 × Int32), f_X0_thickestNow_L4 g_this f_this_kinds f_this_thicks n x1 x2 = some ql → ∀ (H : Heap) (locs : List Loc) (ls : Array Slot), va_P D vwCl [(a_this, .inr (0, rf_o0 a_this_kinds a_this_thicks g_this)), (a_this_kinds, .inl (cA, 6, .inl f_this_kinds)), (a_this_thicks, .inl (cA, 6, .inl f_this_thicks))] H → va_D A [(a_this, .inr (0, rf_o0 a_this_kinds a_this_thicks g_this)), (a_this_kinds, .inl (cA, 6, .inl f_this_kinds)), (a_this_thicks, .inl (cA, 6, .inl f_this_thicks))] → va_S A s.heap H locs → lv_has ls 3 [(0, .ref a_this), (1, .int x1), (2, .int x2)] → (∀ (H : Heap) (locs : List Loc) (ls : Array Slot), va_P D vwCl [(a_this, .inr (0, rf_o0 a_this_kinds a_this_thicks g_this)), (a_this_kinds, .inl (cA, 6, .inl f_this_kinds)), (a_this_thicks, .inl (cA, 6, .inl f_this_thicks))] H → va_D A [(a_this, .inr (0, rf_o0 a_this_kinds a_this_thicks g_this)), (a_this_kinds, .inl (cA, 6, .inl f_this_kinds)), (a_this_thicks, .inl (cA, 6, .inl f_this_thicks))] → va_S A s.heap H locs → lv_has ls 3 [(0, .ref a_this), (1, .int ql.1), (2, .int ql.2)] → W p l e (headSpec wsX0_thickestNow ({ frames := 3, cells := 0, slots := 0, locals := 68 } : Room)).room s m ([.ref a_this] : List Value).toArray below meth c H locs 0 0 (MQ below (va_Qi (fun (r : Int32) (_ : Unit) => r = q) (fun _ t => rf_Post D A [(a_this, .inr (0, rf_o0 a_this_kinds a_this_thicks g_this)), (a_this_kinds, .inl (cA, 6, .inl f_this_kinds)), (a_this_thicks, .inl (cA, 6, .inl f_this_thicks))] t) A) ([.ref a_this] : List Value).toArray s 0 0 A) (F0 m 28 ls [])) → W p l e (headSpec wsX0_thickestNow ({ frames := 3, cells := 0, slots := 0, locals := 68 } : Room)).room s m ([.ref a_this] : List Value).toArray below meth c H locs 0 0 (MQ below (va_Qi (fun (r : Int32) (_ : Unit) => r = q) (fun _ t => rf_Post D A [(a_this, .inr (0, rf_o0 a_this_kinds a_this_thicks g_this)), (a_this_kinds, .inl (cA, 6, .inl f_this_kinds)), (a_this_thicks, .inl (cA, 6, .inl f_this_thicks))] t) A) ([.ref a_this] : List Value).toArray s 0 0 A) (F0 m 4 ls []) := by
    intro n
    induction n with
    | zero =>
      intro x1 x2 ql hf H locs ls hP hD hS hl kx
      exact absurd (show (none : Option (Int32 × Int32)) = some ql from hf) (fun h9 => by cases h9)
    | succ n ih =>
      intro x1 x2 ql hf H locs ls hP hD hS hl kx
      rw [f_X0_thickestNow_L4] at hf
      refine lv_iload_n hx hb dX0_thickestNow_4 rfl (lv_at hl 2 rfl) ?_
      refine lv_aload_n hx hb dX0_thickestNow_5 rfl (lv_at hl 0 rfl) ?_
      refine va_get (D := D) (ci := 0) (v := .int (g_this 0)) (C := RX0) (T := TX0) (N := 12) hx hb hts jX0_thickestNow_X0 hown hK hP 0 rfl rfl 2 (by decide) (hts _ kX0_thickestNow_0) (fun _ h9 => h9) rfl dX0_thickestNow_6 ?_
      refine lv_icmp_ge (tgt := 28) hx hb dX0_thickestNow_9 (by decide) (fun c1 => ?_) (fun c1 => ?_)
      · have hf := rf_ifp hf c1
        obtain rfl := Option.some.inj hf
        exact kx _ _ _ hP hD hS (lv_sub hl [0, 1, 2] rfl)
      · have hf := rf_ifn hf c1
        refine lv_iload_n hx hb dX0_thickestNow_12 rfl (lv_at hl 1 rfl) ?_
        refine lv_aload_n hx hb dX0_thickestNow_13 rfl (lv_at hl 0 rfl) ?_
        refine lv_iload_n hx hb dX0_thickestNow_14 rfl (lv_at hl 2 rfl) ?_
        obtain ⟨q2, hq2, hf⟩ := rf_bindq hf
        refine rf_Vi (As := [.int x2]) (rest := [.int x1]) (wr := []) (wn := [(a_this, .inr (0, rf_o0 a_this_kinds a_this_thicks g_this)), (a_this_kinds, .inl (cA, 6, .inl f_this_kinds)), (a_this_thicks, .inl (cA, 6, .inl f_this_thicks))]) ⟨hx, hb, hml, hown, hts⟩ hK hP hD hS hA hE (c_X0_thickNow l D cA ad a_this a_this_kinds a_this_thicks H.size g_this f_this_kinds f_this_thicks x2 q2 hq2) (cwV 1 hts gX0_thickestNow_X0_thickNow rfl rfl rfl hv_X0_thickNow ⟨Nat.le_of_ble_eq_true rfl, Nat.le_of_ble_eq_true rfl⟩) [0, 1, 2] [] [0, 1, 2] rfl rfl rfl rfl (by decide) rfl rfl 0 0 rfl rfl rfl rfl rfl hl.1 (Nat.le_of_ble_eq_true rfl) dX0_thickestNow_15 ⟨Nat.zero_le _, Nat.zero_le _⟩ (fun H locs hP hD hS => ?_)
        refine va_mmax hx hb (hml.trans hl.1.symm) hown (hts _ kX0_thickestNow_1) (hts _ kX0_thickestNow_2) (hts _ kX0_thickestNow_3) (hts _ kX0_thickestNow_4) (Nat.le_of_ble_eq_true rfl) (Nat.le_of_ble_eq_true rfl) (Nat.zero_le _) (Nat.zero_le _) dX0_thickestNow_18 ?_
        refine lv_topi (fun v3 ev3 => ?_)
        have hf := rf_bindv hf ev3
        clear ev3
        refine lv_istore_n (lv' := [(1, .int v3), (0, .ref a_this), (2, .int x2)]) hx hb dX0_thickestNow_21 rfl hl (by decide) rfl (fun ls hl => ?_)
        obtain ⟨v4, ev4⟩ : ∃ y : Int32, y = x2 + 1 := ⟨_, rfl⟩
        have hf := rf_bindv hf ev4
        refine lv_iinc (v := v4) (lv' := [(2, .int v4), (1, .int v3), (0, .ref a_this)]) hx hb dX0_thickestNow_22 hl (k := 2) rfl (by rw [ev4]; rfl) (by decide) rfl (fun ls hl => ?_)
        clear ev4
        refine lv_goto (tgt := 4) hx hb dX0_thickestNow_25 (by decide) ?_
        exact ih v3 v4 ql hf _ _ _ hP hD hS (lv_sub hl [2, 1, 0] rfl) kx
  rw [f_X0_thickestNow] at hf
  refine lv_iconst (v := (-1)) hx hb dX0_thickestNow_0 (by decide) ?_
  refine lv_istore_n (lv' := [(1, .int (-1)), (0, .ref a_this)]) hx hb dX0_thickestNow_1 rfl hl (by decide) rfl (fun ls hl => ?_)
  refine lv_iconst (v := 0) hx hb dX0_thickestNow_2 (by decide) ?_
  refine lv_istore_n (lv' := [(2, .int 0), (1, .int (-1)), (0, .ref a_this)]) hx hb dX0_thickestNow_3 rfl hl (by decide) rfl (fun ls hl => ?_)
  obtain ⟨q5, hq5, hf⟩ := rf_bindq hf
  refine key_4 rf_fu (-1) 0 q5 hq5 _ _ _ hP hD hS (lv_sub hl [2, 1, 0] rfl) (fun H locs ls hP hD hS hl => ?_)
  refine lv_iload_n hx hb dX0_thickestNow_28 rfl (lv_at hl 1 rfl) ?_
  obtain rfl := Option.some.inj hf
  exact W.iret (v := q5.1) hx hb hr (fun t ht hW => ⟨⟨q5.1, (), rfl, rfl, rf_mk ht hP hD⟩, hS.F ht⟩) hS.2.2 dX0_thickestNow_29
theorem kX0_coldAhead_0 : (.fieldLink RX0 34 "RingAndFinger$Finger" "cold" "I" : Cond) ∈ wsX0_coldAhead := by decide +kernel
theorem kX0_coldAhead_1 : (.methodLink RX0 73 Lib.Math.min.name : Cond) ∈ wsX0_coldAhead := by decide +kernel
theorem kX0_coldAhead_2 : (.static Lib.Math.min.name : Cond) ∈ wsX0_coldAhead := by decide +kernel
theorem kX0_coldAhead_3 : (.initialized "java/lang/Math" : Cond) ∈ wsX0_coldAhead := by decide +kernel
theorem kX0_coldAhead_4 : (.code Lib.Math.min.name Lib.Math.min.code 2 (some .int) : Cond) ∈ wsX0_coldAhead := by decide +kernel
theorem jX0_coldAhead_X0 : ∀ w ∈ u_ws RX0 TX0 12, w ∈ wsX0_coldAhead := by decide +kernel
set_option maxHeartbeats 8000000 in
set_option maxRecDepth 100000 in
theorem c_X0_coldAhead (l : Launch) (D : va_G) (cA : ClassId) (ad : Nat → Nat) (a_this a_this_kinds a_this_thicks : Nat) (sz : Nat) (g_this : Nat → Int32) (p1 : Int32) (q : Int32) (hf : f_X0_coldAhead g_this p1 = some q) : Met l yX0_coldAhead wsX0_coldAhead ({ frames := 1, cells := 0, slots := 0, locals := 21 } : Room) (va_Pc [.ref a_this, .int p1] (rf_Pre D cA ad [(a_this, .inr (0, rf_o0 a_this_kinds a_this_thicks g_this))] sz)) (va_Qi (fun (r : Int32) (_ : Unit) => r = q) (fun _ t => rf_Post D (va_A [(a_this, .inr (0, rf_o0 a_this_kinds a_this_thicks g_this))] sz) [(a_this, .inr (0, rf_o0 a_this_kinds a_this_thicks g_this))] t) (va_A [(a_this, .inr (0, rf_o0 a_this_kinds a_this_thicks g_this))] sz)) 0 0 (va_A [(a_this, .inr (0, rf_o0 a_this_kinds a_this_thicks g_this))] sz) := by
  refine Met.ofW (cc := cX0_coldAhead) (maxL := 2) (ret := (some .int)) (by decide) rfl ?_
  intro p e s m args below meth c s₁ B hml hv
  obtain ⟨rfl, hsz, hP, hK, hD0, hE⟩ := hv
  have hx := B.exec
  have hb := B.bytes
  have hr := B.returns
  have hts := atoms_spec (ws := wsX0_coldAhead) B.pre
  have hown : s.vm.findClass RX0 = some m.cls := findClass_of_methodNamed B.named
  have hlocks := B.notSynchronized
  subst hsz
  have hD := hD0.self (sz := s.heap.size)
  generalize hAe : va_A [(a_this, .inr (0, rf_o0 a_this_kinds a_this_thicks g_this))] s.heap.size = A at hD hE ⊢
  have hA : ∀ q : Nat, s.heap.size ≤ q → A q := fun q h => by rw [← hAe]; exact Or.inr h
  have hS : va_S A s.heap s.heap [] := va_S.rf
  have hP : va_P D vwCl [(a_this, .inr (0, rf_o0 a_this_kinds a_this_thicks g_this))] s.heap := hP
  have hl := lv_entry ([.ref a_this, .int p1]) (n := 2) (Nat.le_of_ble_eq_true rfl)
  rw [lg_entry_eq]
  generalize (lg_sl ([.ref a_this, .int p1]) ++ List.replicate (2 - (lg_sl ([.ref a_this, .int p1])).length) Slot.unset).toArray = ls at hl ⊢
  have hl : lv_has ls 2 [(0, .ref a_this), (1, .int p1)] := hl
  rw [f_X0_coldAhead] at hf
  refine lv_iload_n hx hb dX0_coldAhead_0 rfl (lv_at hl 1 rfl) ?_
  refine lv_bipush (v := 6) hx hb dX0_coldAhead_1 (by decide) ?_
  refine lv_icmp_ne (tgt := 21) hx hb dX0_coldAhead_3 (by decide) (fun c1 => ?_) (fun c1 => ?_)
  · have hf := rf_ifn hf c1
    refine lv_aload_n hx hb dX0_coldAhead_21 rfl (lv_at hl 0 rfl) ?_
    refine va_get (D := D) (ci := 0) (v := .int (g_this 5)) (C := RX0) (T := TX0) (N := 12) hx hb hts jX0_coldAhead_X0 hown hK hP 0 rfl rfl 7 (by decide) (hts _ kX0_coldAhead_0) (fun _ h9 => h9) rfl dX0_coldAhead_22 ?_
    obtain rfl := Option.some.inj hf
    exact W.iret (v := (g_this 5)) hx hb hr (fun t ht hW => ⟨⟨(g_this 5), (), rfl, rfl, rf_mk ht hP hD⟩, hS.F ht⟩) hS.2.2 dX0_coldAhead_25
  · have hf := rf_ifp hf c1
    refine lv_bipush (v := 20) hx hb dX0_coldAhead_6 (by decide) ?_
    refine lv_aload_n hx hb dX0_coldAhead_8 rfl (lv_at hl 0 rfl) ?_
    refine va_get (D := D) (ci := 0) (v := .int (g_this 5)) (C := RX0) (T := TX0) (N := 12) hx hb hts jX0_coldAhead_X0 hown hK hP 0 rfl rfl 7 (by decide) (hts _ kX0_coldAhead_0) (fun _ h9 => h9) rfl dX0_coldAhead_9 ?_
    refine lv_bipush (v := 8) hx hb dX0_coldAhead_12 (by decide) ?_
    refine lv_iadd hx hb dX0_coldAhead_14 ?_
    refine va_mmin hx hb (hml.trans hl.1.symm) hown (hts _ kX0_coldAhead_1) (hts _ kX0_coldAhead_2) (hts _ kX0_coldAhead_3) (hts _ kX0_coldAhead_4) (Nat.le_of_ble_eq_true rfl) (Nat.le_of_ble_eq_true rfl) (Nat.zero_le _) (Nat.zero_le _) dX0_coldAhead_15 ?_
    refine lv_topi (fun v2 ev2 => ?_)
    have hf := rf_bindv hf ev2
    clear ev2
    refine lv_goto (tgt := 25) hx hb dX0_coldAhead_18 (by decide) ?_
    obtain rfl := Option.some.inj hf
    exact W.iret (v := v2) hx hb hr (fun t ht hW => ⟨⟨v2, (), rfl, rfl, rf_mk ht hP hD⟩, hS.F ht⟩) hS.2.2 dX0_coldAhead_25

set_option maxHeartbeats 8000000 in
set_option maxRecDepth 100000 in
theorem c_X2_allowance (l : Launch) (D : va_G) (cA : ClassId) (ad : Nat → Nat) (sz : Nat) (p0 p1 : Int32) (q : Int32) (hf : f_X2_allowance p0 p1 = some q) : Met l yX2_allowance wsX2_allowance ({ frames := 0, cells := 0, slots := 0, locals := 0 } : Room) (va_Pc [.int p0, .int p1] (rf_Pre D cA ad [] sz)) (va_Qi (fun (r : Int32) (_ : Unit) => r = q) (fun _ t => rf_Post D (va_A [] sz) [] t) (va_A [] sz)) 0 0 (va_A [] sz) := by
  refine Met.ofW (cc := cX2_allowance) (maxL := 2) (ret := (some .int)) (by decide) rfl ?_
  intro p e s m args below meth c s₁ B hml hv
  obtain ⟨rfl, hsz, hP, hK, hD0, hE⟩ := hv
  have hx := B.exec
  have hb := B.bytes
  have hr := B.returns
  have hts := atoms_spec (ws := wsX2_allowance) B.pre
  have hown : s.vm.findClass RX2 = some m.cls := findClass_of_methodNamed B.named
  have hlocks := B.notSynchronized
  subst hsz
  have hD := hD0.self (sz := s.heap.size)
  generalize hAe : va_A [] s.heap.size = A at hD hE ⊢
  have hA : ∀ q : Nat, s.heap.size ≤ q → A q := fun q h => by rw [← hAe]; exact Or.inr h
  have hS : va_S A s.heap s.heap [] := va_S.rf
  have hP : va_P D vwCl [] s.heap := hP
  have hl := lv_entry ([.int p0, .int p1]) (n := 2) (Nat.le_of_ble_eq_true rfl)
  rw [lg_entry_eq]
  generalize (lg_sl ([.int p0, .int p1]) ++ List.replicate (2 - (lg_sl ([.int p0, .int p1])).length) Slot.unset).toArray = ls at hl ⊢
  have hl : lv_has ls 2 [(0, .int p0), (1, .int p1)] := hl
  rw [f_X2_allowance] at hf
  refine lv_iload_n hx hb dX2_allowance_0 rfl (lv_at hl 0 rfl) ?_
  by_cases c1 : p0 = 1
  · have hf := rf_ifp hf c1
    refine rf_tabC (off := 39) (tgt := 40) hx hb dX2_allowance_1 c1 (by decide) (by decide) (by decide) (by decide) ?_
    refine lv_iconst (v := 4) hx hb dX2_allowance_40 (by decide) ?_
    obtain rfl := Option.some.inj hf
    exact W.iret (v := 4) hx hb hr (fun t ht hW => ⟨⟨4, (), rfl, rfl, rf_mk ht hP hD⟩, hS.F ht⟩) hS.2.2 dX2_allowance_41
  · have hf := rf_ifn hf c1
    by_cases c2 : p0 = 2
    · have hf := rf_ifp hf c2
      refine rf_tabC (off := 41) (tgt := 42) hx hb dX2_allowance_1 c2 (by decide) (by decide) (by decide) (by decide) ?_
      refine lv_bipush (v := 7) hx hb dX2_allowance_42 (by decide) ?_
      obtain rfl := Option.some.inj hf
      exact W.iret (v := 7) hx hb hr (fun t ht hW => ⟨⟨7, (), rfl, rfl, rf_mk ht hP hD⟩, hS.F ht⟩) hS.2.2 dX2_allowance_44
    · have hf := rf_ifn hf c2
      by_cases c3 : p0 = 3
      · have hf := rf_ifp hf c3
        refine rf_tabC (off := 44) (tgt := 45) hx hb dX2_allowance_1 c3 (by decide) (by decide) (by decide) (by decide) ?_
        refine lv_bipush (v := 9) hx hb dX2_allowance_45 (by decide) ?_
        refine lv_iload_n hx hb dX2_allowance_47 rfl (lv_at hl 1 rfl) ?_
        refine lv_isub hx hb dX2_allowance_48 ?_
        obtain rfl := Option.some.inj hf
        exact W.iret (v := (9 - p1)) hx hb hr (fun t ht hW => ⟨⟨(9 - p1), (), rfl, rfl, rf_mk ht hP hD⟩, hS.F ht⟩) hS.2.2 dX2_allowance_49
      · have hf := rf_ifn hf c3
        by_cases c4 : p0 = 4
        · have hf := rf_ifp hf c4
          refine rf_tabC (off := 49) (tgt := 50) hx hb dX2_allowance_1 c4 (by decide) (by decide) (by decide) (by decide) ?_
          refine lv_bipush (v := 6) hx hb dX2_allowance_50 (by decide) ?_
          obtain rfl := Option.some.inj hf
          exact W.iret (v := 6) hx hb hr (fun t ht hW => ⟨⟨6, (), rfl, rfl, rf_mk ht hP hD⟩, hS.F ht⟩) hS.2.2 dX2_allowance_52
        · have hf := rf_ifn hf c4
          by_cases c5 : p0 = 5
          · have hf := rf_ifp hf c5
            refine rf_tabC (off := 52) (tgt := 53) hx hb dX2_allowance_1 c5 (by decide) (by decide) (by decide) (by decide) ?_
            refine lv_bipush (v := 15) hx hb dX2_allowance_53 (by decide) ?_
            obtain rfl := Option.some.inj hf
            exact W.iret (v := 15) hx hb hr (fun t ht hW => ⟨⟨15, (), rfl, rfl, rf_mk ht hP hD⟩, hS.F ht⟩) hS.2.2 dX2_allowance_55
          · have hf := rf_ifn hf c5
            by_cases c6 : p0 = 6
            · have hf := rf_ifp hf c6
              refine rf_tabC (off := 39) (tgt := 40) hx hb dX2_allowance_1 c6 (by decide) (by decide) (by decide) (by decide) ?_
              refine lv_iconst (v := 4) hx hb dX2_allowance_40 (by decide) ?_
              obtain rfl := Option.some.inj hf
              exact W.iret (v := 4) hx hb hr (fun t ht hW => ⟨⟨4, (), rfl, rfl, rf_mk ht hP hD⟩, hS.F ht⟩) hS.2.2 dX2_allowance_41
            · have hf := rf_ifn hf c6
              refine rf_tabD (tgt := 56) (ks := [1, 2, 3, 4, 5, 6]) hx hb dX2_allowance_1 (by intro z hz; simp only [List.mem_cons, List.not_mem_nil, or_false] at hz; rcases hz with rfl | rfl | rfl | rfl | rfl | rfl <;> assumption) (by decide) (by decide) ?_
              refine lv_iconst (v := 0) hx hb dX2_allowance_56 (by decide) ?_
              obtain rfl := Option.some.inj hf
              exact W.iret (v := 0) hx hb hr (fun t ht hW => ⟨⟨0, (), rfl, rfl, rf_mk ht hP hD⟩, hS.F ht⟩) hS.2.2 dX2_allowance_57
theorem kX0_goesOver_0 : (.fieldLink RX0 9 "RingAndFinger$Finger" "kinds" "[I" : Cond) ∈ wsX0_goesOver := by decide +kernel
theorem kX0_goesOver_1 : (.fieldLink RX0 28 "RingAndFinger$Finger" "front" "I" : Cond) ∈ wsX0_goesOver := by decide +kernel
theorem kX0_goesOver_2 : (.initialized RX2 : Cond) ∈ wsX0_goesOver := by decide +kernel
theorem kX0_goesOver_3 : (.static yX2_at : Cond) ∈ wsX0_goesOver := by decide +kernel
theorem kX0_goesOver_4 : (.fieldLink RX0 15 "RingAndFinger$Finger" "thicks" "[I" : Cond) ∈ wsX0_goesOver := by decide +kernel
theorem kX0_goesOver_5 : (.fieldLink RX0 31 "RingAndFinger$Finger" "swell" "I" : Cond) ∈ wsX0_goesOver := by decide +kernel
theorem kX0_goesOver_6 : (.fieldLink RX0 40 "RingAndFinger$Finger" "heat" "I" : Cond) ∈ wsX0_goesOver := by decide +kernel
theorem kX0_goesOver_7 : (.static yX2_thickness : Cond) ∈ wsX0_goesOver := by decide +kernel
theorem kX0_goesOver_8 : (.fieldLink RX0 22 "RingAndFinger$Finger" "size" "I" : Cond) ∈ wsX0_goesOver := by decide +kernel
theorem kX0_goesOver_9 : (.fieldLink RX0 25 "RingAndFinger$Finger" "broad" "I" : Cond) ∈ wsX0_goesOver := by decide +kernel
theorem kX0_goesOver_10 : (.static yX2_allowance : Cond) ∈ wsX0_goesOver := by decide +kernel
theorem jX0_goesOver_X0 : ∀ w ∈ u_ws RX0 TX0 12, w ∈ wsX0_goesOver := by decide +kernel
set_option maxHeartbeats 8000000 in
set_option maxRecDepth 100000 in
theorem c_X0_goesOver (l : Launch) (D : va_G) (cA : ClassId) (ad : Nat → Nat) (a_this a_this_kinds a_this_thicks : Nat) (sz : Nat) (g_this f_this_kinds f_this_thicks : Nat → Int32) (p1 : Int32) (q : Int32) (hf : f_X0_goesOver g_this f_this_kinds f_this_thicks p1 = some q) : Met l yX0_goesOver wsX0_goesOver ({ frames := 2, cells := 0, slots := 0, locals := 47 } : Room) (va_Pc [.ref a_this, .int p1] (rf_Pre D cA ad [(a_this, .inr (0, rf_o0 a_this_kinds a_this_thicks g_this)), (a_this_kinds, .inl (cA, 6, .inl f_this_kinds)), (a_this_thicks, .inl (cA, 6, .inl f_this_thicks))] sz)) (va_Qi (fun (r : Int32) (_ : Unit) => r = q) (fun _ t => rf_Post D (va_A [(a_this, .inr (0, rf_o0 a_this_kinds a_this_thicks g_this)), (a_this_kinds, .inl (cA, 6, .inl f_this_kinds)), (a_this_thicks, .inl (cA, 6, .inl f_this_thicks))] sz) [(a_this, .inr (0, rf_o0 a_this_kinds a_this_thicks g_this)), (a_this_kinds, .inl (cA, 6, .inl f_this_kinds)), (a_this_thicks, .inl (cA, 6, .inl f_this_thicks))] t) (va_A [(a_this, .inr (0, rf_o0 a_this_kinds a_this_thicks g_this)), (a_this_kinds, .inl (cA, 6, .inl f_this_kinds)), (a_this_thicks, .inl (cA, 6, .inl f_this_thicks))] sz)) 0 0 (va_A [(a_this, .inr (0, rf_o0 a_this_kinds a_this_thicks g_this)), (a_this_kinds, .inl (cA, 6, .inl f_this_kinds)), (a_this_thicks, .inl (cA, 6, .inl f_this_thicks))] sz) := by
  refine Met.ofW (cc := cX0_goesOver) (maxL := 3) (ret := (some .boolean)) (by decide) rfl ?_
  intro p e s m args below meth c s₁ B hml hv
  obtain ⟨rfl, hsz, hP, hK, hD0, hE⟩ := hv
  have hx := B.exec
  have hb := B.bytes
  have hr := B.returns
  have hts := atoms_spec (ws := wsX0_goesOver) B.pre
  have hown : s.vm.findClass RX0 = some m.cls := findClass_of_methodNamed B.named
  have hlocks := B.notSynchronized
  subst hsz
  have hD := hD0.self (sz := s.heap.size)
  generalize hAe : va_A [(a_this, .inr (0, rf_o0 a_this_kinds a_this_thicks g_this)), (a_this_kinds, .inl (cA, 6, .inl f_this_kinds)), (a_this_thicks, .inl (cA, 6, .inl f_this_thicks))] s.heap.size = A at hD hE ⊢
  have hA : ∀ q : Nat, s.heap.size ≤ q → A q := fun q h => by rw [← hAe]; exact Or.inr h
  have hS : va_S A s.heap s.heap [] := va_S.rf
  have hP : va_P D vwCl [(a_this, .inr (0, rf_o0 a_this_kinds a_this_thicks g_this)), (a_this_kinds, .inl (cA, 6, .inl f_this_kinds)), (a_this_thicks, .inl (cA, 6, .inl f_this_thicks))] s.heap := hP
  have hl := lv_entry ([.ref a_this, .int p1]) (n := 3) (Nat.le_of_ble_eq_true rfl)
  rw [lg_entry_eq]
  generalize (lg_sl ([.ref a_this, .int p1]) ++ List.replicate (3 - (lg_sl ([.ref a_this, .int p1])).length) Slot.unset).toArray = ls at hl ⊢
  have hl : lv_has ls 3 [(0, .ref a_this), (1, .int p1)] := hl
  rw [f_X0_goesOver] at hf
  refine lv_aload_n hx hb dX0_goesOver_0 rfl (lv_at hl 0 rfl) ?_
  obtain ⟨q1, hq1, hf⟩ := rf_bindq hf
  refine rf_Vi (As := []) (rest := []) (wr := [(a_this_kinds, .inl (cA, 6, .inl f_this_kinds)), (a_this_thicks, .inl (cA, 6, .inl f_this_thicks))]) (wn := [(a_this, .inr (0, rf_o0 a_this_kinds a_this_thicks g_this)), (a_this_kinds, .inl (cA, 6, .inl f_this_kinds)), (a_this_thicks, .inl (cA, 6, .inl f_this_thicks))]) ⟨hx, hb, hml, hown, hts⟩ hK hP hD hS hA hE (c_X0_isOff l D cA ad a_this a_this_kinds a_this_thicks s.heap.size g_this q1 hq1) (cwV 0 hts gX0_goesOver_X0_isOff rfl rfl rfl hv_X0_isOff ⟨Nat.le_of_ble_eq_true rfl, Nat.le_of_ble_eq_true rfl⟩) [0] [1, 2] [2, 0, 1] rfl rfl rfl rfl (by decide) rfl rfl 0 0 rfl rfl rfl rfl rfl hl.1 (Nat.le_of_ble_eq_true rfl) dX0_goesOver_1 ⟨Nat.zero_le _, Nat.zero_le _⟩ (fun H locs hP hD hS => ?_)
  refine lv_if_eq (tgt := 9) hx hb dX0_goesOver_4 (by decide) (fun c2 => ?_) (fun c2 => ?_)
  · have hf := rf_ifp hf c2
    refine lv_aload_n hx hb dX0_goesOver_9 rfl (lv_at hl 0 rfl) ?_
    refine va_get (D := D) (ci := 0) (v := .ref a_this_kinds) (C := RX0) (T := TX0) (N := 12) hx hb hts jX0_goesOver_X0 hown hK hP 0 rfl rfl 0 (by decide) (hts _ kX0_goesOver_0) (fun _ h9 => h9) rfl dX0_goesOver_10 ?_
    refine lv_aload_n hx hb dX0_goesOver_13 rfl (lv_at hl 0 rfl) ?_
    refine va_get (D := D) (ci := 0) (v := .int (g_this 3)) (C := RX0) (T := TX0) (N := 12) hx hb hts jX0_goesOver_X0 hown hK hP 0 rfl rfl 5 (by decide) (hts _ kX0_goesOver_1) (fun _ h9 => h9) rfl dX0_goesOver_14 ?_
    obtain ⟨q3, hq3, hf⟩ := rf_bindq hf
    refine rf_Ni (As := [.ref a_this_kinds, .int (g_this 3)]) (rest := []) (wr := [(a_this, .inr (0, rf_o0 a_this_kinds a_this_thicks g_this)), (a_this_thicks, .inl (cA, 6, .inl f_this_thicks))]) (wn := [(a_this, .inr (0, rf_o0 a_this_kinds a_this_thicks g_this)), (a_this_kinds, .inl (cA, 6, .inl f_this_kinds)), (a_this_thicks, .inl (cA, 6, .inl f_this_thicks))]) ⟨hx, hb, hml, hown, hts⟩ hK hP hD hS hA hE (c_X2_at l D cA ad a_this_kinds H.size 6 f_this_kinds (g_this 3) q3 hq3) ⟨va_cnB (host := "RingAndFinger") 2 hts gX0_goesOver_X2_at_n55 rfl rfl rfl (hE.1 0 _ rfl) (hts _ kX0_goesOver_2) hn_X2_at ⟨Nat.le_of_ble_eq_true rfl, Nat.le_of_ble_eq_true rfl⟩, (hts _ kX0_goesOver_3), trivial⟩ [1] [0, 2] [0, 2, 1] rfl rfl rfl rfl (by decide) rfl rfl rfl rfl hl.1 (Nat.le_of_ble_eq_true rfl) dX0_goesOver_17 ⟨Nat.zero_le _, Nat.zero_le _⟩ (fun H locs hP hD hS => ?_)
    refine lv_aload_n hx hb dX0_goesOver_20 rfl (lv_at hl 0 rfl) ?_
    refine va_get (D := D) (ci := 0) (v := .ref a_this_thicks) (C := RX0) (T := TX0) (N := 12) hx hb hts jX0_goesOver_X0 hown hK hP 0 rfl rfl 1 (by decide) (hts _ kX0_goesOver_4) (fun _ h9 => h9) rfl dX0_goesOver_21 ?_
    refine lv_aload_n hx hb dX0_goesOver_24 rfl (lv_at hl 0 rfl) ?_
    refine va_get (D := D) (ci := 0) (v := .int (g_this 3)) (C := RX0) (T := TX0) (N := 12) hx hb hts jX0_goesOver_X0 hown hK hP 0 rfl rfl 5 (by decide) (hts _ kX0_goesOver_1) (fun _ h9 => h9) rfl dX0_goesOver_25 ?_
    obtain ⟨q4, hq4, hf⟩ := rf_bindq hf
    refine rf_Ni (As := [.ref a_this_thicks, .int (g_this 3)]) (rest := [.int q3]) (wr := [(a_this, .inr (0, rf_o0 a_this_kinds a_this_thicks g_this)), (a_this_kinds, .inl (cA, 6, .inl f_this_kinds))]) (wn := [(a_this, .inr (0, rf_o0 a_this_kinds a_this_thicks g_this)), (a_this_kinds, .inl (cA, 6, .inl f_this_kinds)), (a_this_thicks, .inl (cA, 6, .inl f_this_thicks))]) ⟨hx, hb, hml, hown, hts⟩ hK hP hD hS hA hE (c_X2_at l D cA ad a_this_thicks H.size 6 f_this_thicks (g_this 3) q4 hq4) ⟨va_cnB (host := "RingAndFinger") 2 hts gX0_goesOver_X2_at_n55 rfl rfl rfl (hE.1 0 _ rfl) (hts _ kX0_goesOver_2) hn_X2_at ⟨Nat.le_of_ble_eq_true rfl, Nat.le_of_ble_eq_true rfl⟩, (hts _ kX0_goesOver_3), trivial⟩ [2] [0, 1] [0, 1, 2] rfl rfl rfl rfl (by decide) rfl rfl rfl rfl hl.1 (Nat.le_of_ble_eq_true rfl) dX0_goesOver_28 ⟨Nat.zero_le _, Nat.zero_le _⟩ (fun H locs hP hD hS => ?_)
    refine lv_aload_n hx hb dX0_goesOver_31 rfl (lv_at hl 0 rfl) ?_
    refine va_get (D := D) (ci := 0) (v := .int (g_this 4)) (C := RX0) (T := TX0) (N := 12) hx hb hts jX0_goesOver_X0 hown hK hP 0 rfl rfl 6 (by decide) (hts _ kX0_goesOver_5) (fun _ h9 => h9) rfl dX0_goesOver_32 ?_
    refine lv_aload_n hx hb dX0_goesOver_35 rfl (lv_at hl 0 rfl) ?_
    refine lv_iload_n hx hb dX0_goesOver_36 rfl (lv_at hl 1 rfl) ?_
    obtain ⟨q5, hq5, hf⟩ := rf_bindq hf
    refine rf_Vi (As := [.int p1]) (rest := [.int (g_this 4), .int q4, .int q3]) (wr := [(a_this_kinds, .inl (cA, 6, .inl f_this_kinds)), (a_this_thicks, .inl (cA, 6, .inl f_this_thicks))]) (wn := [(a_this, .inr (0, rf_o0 a_this_kinds a_this_thicks g_this)), (a_this_kinds, .inl (cA, 6, .inl f_this_kinds)), (a_this_thicks, .inl (cA, 6, .inl f_this_thicks))]) ⟨hx, hb, hml, hown, hts⟩ hK hP hD hS hA hE (c_X0_coldAhead l D cA ad a_this a_this_kinds a_this_thicks H.size g_this p1 q5 hq5) (cwV 1 hts gX0_goesOver_X0_coldAhead rfl rfl rfl hv_X0_coldAhead ⟨Nat.le_of_ble_eq_true rfl, Nat.le_of_ble_eq_true rfl⟩) [0] [1, 2] [2, 0, 1] rfl rfl rfl rfl (by decide) rfl rfl 0 0 rfl rfl rfl rfl rfl hl.1 (Nat.le_of_ble_eq_true rfl) dX0_goesOver_37 ⟨Nat.zero_le _, Nat.zero_le _⟩ (fun H locs hP hD hS => ?_)
    refine lv_aload_n hx hb dX0_goesOver_40 rfl (lv_at hl 0 rfl) ?_
    refine va_get (D := D) (ci := 0) (v := .int (g_this 7)) (C := RX0) (T := TX0) (N := 12) hx hb hts jX0_goesOver_X0 hown hK hP 0 rfl rfl 9 (by decide) (hts _ kX0_goesOver_6) (fun _ h9 => h9) rfl dX0_goesOver_41 ?_
    obtain ⟨q6, hq6, hf⟩ := rf_bindq hf
    refine rf_Ni (As := [.int q3, .int q4, .int (g_this 4), .int q5, .int (g_this 7)]) (rest := []) (wr := [(a_this, .inr (0, rf_o0 a_this_kinds a_this_thicks g_this)), (a_this_kinds, .inl (cA, 6, .inl f_this_kinds)), (a_this_thicks, .inl (cA, 6, .inl f_this_thicks))]) (wn := [(a_this, .inr (0, rf_o0 a_this_kinds a_this_thicks g_this)), (a_this_kinds, .inl (cA, 6, .inl f_this_kinds)), (a_this_thicks, .inl (cA, 6, .inl f_this_thicks))]) ⟨hx, hb, hml, hown, hts⟩ hK hP hD hS hA hE (c_X2_thickness l D cA ad H.size q3 q4 (g_this 4) q5 (g_this 7) q6 hq6) ⟨va_cnB (host := "RingAndFinger") 5 hts gX0_goesOver_X2_thickness_n59 rfl rfl rfl (hE.1 1 _ rfl) (hts _ kX0_goesOver_2) hn_X2_thickness ⟨Nat.le_of_ble_eq_true rfl, Nat.le_of_ble_eq_true rfl⟩, (hts _ kX0_goesOver_7), trivial⟩ [] [0, 1, 2] [0, 1, 2] rfl rfl rfl rfl (by decide) rfl rfl rfl rfl hl.1 (Nat.le_of_ble_eq_true rfl) dX0_goesOver_44 ⟨Nat.zero_le _, Nat.zero_le _⟩ (fun H locs hP hD hS => ?_)
    refine lv_istore_n (lv' := [(2, .int q6), (0, .ref a_this), (1, .int p1)]) hx hb dX0_goesOver_47 rfl hl (by decide) rfl (fun ls hl => ?_)
    refine lv_iload_n hx hb dX0_goesOver_48 rfl (lv_at hl 0 rfl) ?_
    refine lv_aload_n hx hb dX0_goesOver_49 rfl (lv_at hl 1 rfl) ?_
    refine va_get (D := D) (ci := 0) (v := .int (g_this 1)) (C := RX0) (T := TX0) (N := 12) hx hb hts jX0_goesOver_X0 hown hK hP 0 rfl rfl 3 (by decide) (hts _ kX0_goesOver_8) (fun _ h9 => h9) rfl dX0_goesOver_50 ?_
    refine lv_iload_n hx hb dX0_goesOver_53 rfl (lv_at hl 2 rfl) ?_
    refine lv_aload_n hx hb dX0_goesOver_54 rfl (lv_at hl 1 rfl) ?_
    refine va_get (D := D) (ci := 0) (v := .int (g_this 2)) (C := RX0) (T := TX0) (N := 12) hx hb hts jX0_goesOver_X0 hown hK hP 0 rfl rfl 4 (by decide) (hts _ kX0_goesOver_9) (fun _ h9 => h9) rfl dX0_goesOver_55 ?_
    obtain ⟨q7, hq7, hf⟩ := rf_bindq hf
    refine rf_Ni (As := [.int p1, .int (g_this 2)]) (rest := [.int (g_this 1), .int q6]) (wr := [(a_this, .inr (0, rf_o0 a_this_kinds a_this_thicks g_this)), (a_this_kinds, .inl (cA, 6, .inl f_this_kinds)), (a_this_thicks, .inl (cA, 6, .inl f_this_thicks))]) (wn := [(a_this, .inr (0, rf_o0 a_this_kinds a_this_thicks g_this)), (a_this_kinds, .inl (cA, 6, .inl f_this_kinds)), (a_this_thicks, .inl (cA, 6, .inl f_this_thicks))]) ⟨hx, hb, hml, hown, hts⟩ hK hP hD hS hA hE (c_X2_allowance l D cA ad H.size p1 (g_this 2) q7 hq7) ⟨va_cnB (host := "RingAndFinger") 2 hts gX0_goesOver_X2_allowance_n83 rfl rfl rfl (hE.1 2 _ rfl) (hts _ kX0_goesOver_2) hn_X2_allowance ⟨Nat.le_of_ble_eq_true rfl, Nat.le_of_ble_eq_true rfl⟩, (hts _ kX0_goesOver_10), trivial⟩ [] [0, 1, 2] [0, 1, 2] rfl rfl rfl rfl (by decide) rfl rfl rfl rfl hl.1 (Nat.le_of_ble_eq_true rfl) dX0_goesOver_58 ⟨Nat.zero_le _, Nat.zero_le _⟩ (fun H locs hP hD hS => ?_)
    refine lv_iadd hx hb dX0_goesOver_61 ?_
    refine lv_icmp_gt (tgt := 69) hx hb dX0_goesOver_62 (by decide) (fun c8 => ?_) (fun c8 => ?_)
    · have hf := rf_ifp hf c8
      refine lv_iconst (v := 0) hx hb dX0_goesOver_69 (by decide) ?_
      obtain rfl := Option.some.inj hf
      exact W.zret (v := 0) hx hb hr rfl (fun t ht hW => ⟨⟨0, (), rfl, rfl, rf_mk ht hP hD⟩, hS.F ht⟩) hS.2.2 dX0_goesOver_70
    · have hf := rf_ifn hf c8
      refine lv_iconst (v := 1) hx hb dX0_goesOver_65 (by decide) ?_
      refine lv_goto (tgt := 70) hx hb dX0_goesOver_66 (by decide) ?_
      obtain rfl := Option.some.inj hf
      exact W.zret (v := 1) hx hb hr rfl (fun t ht hW => ⟨⟨1, (), rfl, rfl, rf_mk ht hP hD⟩, hS.F ht⟩) hS.2.2 dX0_goesOver_70
  · have hf := rf_ifn hf c2
    refine lv_iconst (v := 0) hx hb dX0_goesOver_7 (by decide) ?_
    obtain rfl := Option.some.inj hf
    exact W.zret (v := 0) hx hb hr rfl (fun t ht hW => ⟨⟨0, (), rfl, rfl, rf_mk ht hP hD⟩, hS.F ht⟩) hS.2.2 dX0_goesOver_8
theorem kX0_strain_0 : (.fieldLink RX0 34 "RingAndFinger$Finger" "cold" "I" : Cond) ∈ wsX0_strain := by decide +kernel
theorem kX0_strain_1 : (.fieldLink RX0 31 "RingAndFinger$Finger" "swell" "I" : Cond) ∈ wsX0_strain := by decide +kernel
theorem kX0_strain_2 : (.initialized RX2 : Cond) ∈ wsX0_strain := by decide +kernel
theorem kX0_strain_3 : (.static yX2_at : Cond) ∈ wsX0_strain := by decide +kernel
theorem kX0_strain_4 : (.methodLink RX0 73 Lib.Math.min.name : Cond) ∈ wsX0_strain := by decide +kernel
theorem kX0_strain_5 : (.static Lib.Math.min.name : Cond) ∈ wsX0_strain := by decide +kernel
theorem kX0_strain_6 : (.initialized "java/lang/Math" : Cond) ∈ wsX0_strain := by decide +kernel
theorem kX0_strain_7 : (.code Lib.Math.min.name Lib.Math.min.code 2 (some .int) : Cond) ∈ wsX0_strain := by decide +kernel
theorem kX0_strain_8 : (.fieldLink RX0 46 "RingAndFinger$Finger" "harm" "I" : Cond) ∈ wsX0_strain := by decide +kernel
theorem kX0_strain_9 : (.fieldLink RX0 43 "RingAndFinger$Finger" "minute" "I" : Cond) ∈ wsX0_strain := by decide +kernel
theorem kX0_strain_10 : (.fieldLink RX0 37 "RingAndFinger$Finger" "blue" "I" : Cond) ∈ wsX0_strain := by decide +kernel
theorem jX0_strain_X0 : ∀ w ∈ u_ws RX0 TX0 12, w ∈ wsX0_strain := by decide +kernel
set_option maxHeartbeats 8000000 in
set_option maxRecDepth 100000 in
theorem c_X0_strain (l : Launch) (D : va_G) (cA : ClassId) (ad : Nat → Nat) (a_this a_this_kinds a_this_thicks : Nat) (sz : Nat) (g_this : Nat → Int32) (p1 : Int32) (q : (Nat → Int32)) (hf : f_X0_strain g_this p1 = some q) : Met l yX0_strain wsX0_strain ({ frames := 2, cells := 0, slots := 0, locals := 42 } : Room) (va_Pc [.ref a_this, .int p1] (rf_Pre D cA ad [(a_this, .inr (0, rf_o0 a_this_kinds a_this_thicks g_this))] sz)) (va_Qv (fun (_ : Unit) => True) (fun _ t => rf_Post D (va_A [(a_this, .inr (0, rf_o0 a_this_kinds a_this_thicks g_this))] sz) [(a_this, .inr (0, rf_o0 a_this_kinds a_this_thicks q))] t) (va_A [(a_this, .inr (0, rf_o0 a_this_kinds a_this_thicks g_this))] sz)) 0 0 (va_A [(a_this, .inr (0, rf_o0 a_this_kinds a_this_thicks g_this))] sz) := by
  refine Met.ofW (cc := cX0_strain) (maxL := 2) (ret := none) (by decide) rfl ?_
  intro p e s m args below meth c s₁ B hml hv
  obtain ⟨rfl, hsz, hP, hK, hD0, hE⟩ := hv
  have hx := B.exec
  have hb := B.bytes
  have hr := B.returns
  have hts := atoms_spec (ws := wsX0_strain) B.pre
  have hown : s.vm.findClass RX0 = some m.cls := findClass_of_methodNamed B.named
  have hlocks := B.notSynchronized
  subst hsz
  have hD := hD0.self (sz := s.heap.size)
  generalize hAe : va_A [(a_this, .inr (0, rf_o0 a_this_kinds a_this_thicks g_this))] s.heap.size = A at hD hE ⊢
  have hA : ∀ q : Nat, s.heap.size ≤ q → A q := fun q h => by rw [← hAe]; exact Or.inr h
  have hS : va_S A s.heap s.heap [] := va_S.rf
  have hP : va_P D vwCl [(a_this, .inr (0, rf_o0 a_this_kinds a_this_thicks g_this))] s.heap := hP
  have hl := lv_entry ([.ref a_this, .int p1]) (n := 2) (Nat.le_of_ble_eq_true rfl)
  rw [lg_entry_eq]
  generalize (lg_sl ([.ref a_this, .int p1]) ++ List.replicate (2 - (lg_sl ([.ref a_this, .int p1])).length) Slot.unset).toArray = ls at hl ⊢
  have hl : lv_has ls 2 [(0, .ref a_this), (1, .int p1)] := hl
  rw [f_X0_strain] at hf
  refine lv_aload_n hx hb dX0_strain_0 rfl (lv_at hl 0 rfl) ?_
  refine lv_aload_n hx hb dX0_strain_1 rfl (lv_at hl 0 rfl) ?_
  refine lv_iload_n hx hb dX0_strain_2 rfl (lv_at hl 1 rfl) ?_
  obtain ⟨q1, hq1, hf⟩ := rf_bindq hf
  refine rf_Vi (As := [.int p1]) (rest := [.ref a_this]) (wr := []) (wn := [(a_this, .inr (0, rf_o0 a_this_kinds a_this_thicks g_this))]) ⟨hx, hb, hml, hown, hts⟩ hK hP hD hS hA hE (c_X0_coldAhead l D cA ad a_this a_this_kinds a_this_thicks s.heap.size g_this p1 q1 hq1) (cwV 1 hts gX0_strain_X0_coldAhead rfl rfl rfl hv_X0_coldAhead ⟨Nat.le_of_ble_eq_true rfl, Nat.le_of_ble_eq_true rfl⟩) [0] [] [0] rfl rfl rfl rfl (by decide) rfl rfl 0 0 rfl rfl rfl rfl rfl hl.1 (Nat.le_of_ble_eq_true rfl) dX0_strain_3 ⟨Nat.zero_le _, Nat.zero_le _⟩ (fun H locs hP hD hS => ?_)
  refine va_put (D := D) (ci := 0) (v := .int q1) (ty := .int) (C := RX0) (T := TX0) (N := 12) hx hb hts jX0_strain_X0 tyX0 tyX0_ok nmX0 hown hK hP hD hS 0 rfl rfl 7 (by decide) (hts _ kX0_strain_0) (fun _ h9 => h9) rfl (by decide +kernel) rfl rfl (Nat.le_of_ble_eq_true rfl) dX0_strain_6 (fun H locs hP hD hS => ?_)
  have hP : va_P D vwCl [(a_this, .inr (0, rf_o0 a_this_kinds a_this_thicks (upd g_this 5 q1)))] H := hP
  have hD : va_D A [(a_this, .inr (0, rf_o0 a_this_kinds a_this_thicks (upd g_this 5 q1)))] := hD
  refine lv_aload_n hx hb dX0_strain_9 rfl (lv_at hl 0 rfl) ?_
  refine lv_bipush (v := 30) hx hb dX0_strain_10 (by decide) ?_
  refine lv_aload_n hx hb dX0_strain_12 rfl (lv_at hl 0 rfl) ?_
  refine va_get (D := D) (ci := 0) (v := .int (g_this 4)) (C := RX0) (T := TX0) (N := 12) hx hb hts jX0_strain_X0 hown hK hP 0 rfl rfl 6 (by decide) (hts _ kX0_strain_1) (fun _ h9 => h9) rfl dX0_strain_13 ?_
  refine va_getsN (v := .ref (ad 3)) (host := "RingAndFinger") hx hb (hE.2.2 3 _ rfl).1 hS hown (va_Nw.use rfl (hE.2.1 0 _ rfl)) (fun _ h9 => h9) dX0_strain_16 ?_
  refine lv_iload_n hx hb dX0_strain_19 rfl (lv_at hl 1 rfl) ?_
  obtain ⟨q2, hq2, hf⟩ := rf_bindq hf
  refine rf_NiT (As := [.ref (ad 3), .int p1]) (rest := [.int (g_this 4), .int 30, .ref a_this]) ⟨hx, hb, hml, hown, hts⟩ hK hP hD hS hA hE (c_X2_at_T l D cA ad (ad 3) H.size 8 rf_a3 p1 q2 hq2) ⟨va_cnB (host := "RingAndFinger") 2 hts gX0_strain_X2_at_n55 rfl rfl rfl (hE.1 0 _ rfl) (hts _ kX0_strain_2) hn_X2_at ⟨Nat.le_of_ble_eq_true rfl, Nat.le_of_ble_eq_true rfl⟩, (hts _ kX0_strain_3), trivial⟩ rfl rfl hl.1 (Nat.le_of_ble_eq_true rfl) dX0_strain_20 ⟨Nat.zero_le _, Nat.zero_le _⟩ (hE.2.2 3 _ rfl).2 (fun H locs hP hD hS => ?_)
  refine lv_iadd hx hb dX0_strain_23 ?_
  refine va_mmin hx hb (hml.trans hl.1.symm) hown (hts _ kX0_strain_4) (hts _ kX0_strain_5) (hts _ kX0_strain_6) (hts _ kX0_strain_7) (Nat.le_of_ble_eq_true rfl) (Nat.le_of_ble_eq_true rfl) (Nat.zero_le _) (Nat.zero_le _) dX0_strain_24 ?_
  refine lv_topi (fun v3 ev3 => ?_)
  have hf := rf_bindv hf ev3
  clear ev3
  refine va_put (D := D) (ci := 0) (v := .int v3) (ty := .int) (C := RX0) (T := TX0) (N := 12) hx hb hts jX0_strain_X0 tyX0 tyX0_ok nmX0 hown hK hP hD hS 0 rfl rfl 6 (by decide) (hts _ kX0_strain_1) (fun _ h9 => h9) rfl (by decide +kernel) rfl rfl (Nat.le_of_ble_eq_true rfl) dX0_strain_27 (fun H locs hP hD hS => ?_)
  have hP : va_P D vwCl [(a_this, .inr (0, rf_o0 a_this_kinds a_this_thicks (upd (upd g_this 5 q1) 4 v3)))] H := hP
  have hD : va_D A [(a_this, .inr (0, rf_o0 a_this_kinds a_this_thicks (upd (upd g_this 5 q1) 4 v3)))] := hD
  refine lv_aload_n hx hb dX0_strain_30 rfl (lv_at hl 0 rfl) ?_
  refine lv_dup hx hb dX0_strain_31 rfl ?_
  refine va_get (D := D) (ci := 0) (v := .int (g_this 9)) (C := RX0) (T := TX0) (N := 12) hx hb hts jX0_strain_X0 hown hK hP 0 rfl rfl 11 (by decide) (hts _ kX0_strain_8) (fun _ h9 => h9) rfl dX0_strain_32 ?_
  refine va_getsN (v := .ref (ad 4)) (host := "RingAndFinger") hx hb (hE.2.2 4 _ rfl).1 hS hown (va_Nw.use rfl (hE.2.1 1 _ rfl)) (fun _ h9 => h9) dX0_strain_35 ?_
  refine lv_iload_n hx hb dX0_strain_38 rfl (lv_at hl 1 rfl) ?_
  obtain ⟨q4, hq4, hf⟩ := rf_bindq hf
  refine rf_NiT (As := [.ref (ad 4), .int p1]) (rest := [.int (g_this 9), .ref a_this]) ⟨hx, hb, hml, hown, hts⟩ hK hP hD hS hA hE (c_X2_at_T l D cA ad (ad 4) H.size 8 rf_a4 p1 q4 hq4) ⟨va_cnB (host := "RingAndFinger") 2 hts gX0_strain_X2_at_n55 rfl rfl rfl (hE.1 0 _ rfl) (hts _ kX0_strain_2) hn_X2_at ⟨Nat.le_of_ble_eq_true rfl, Nat.le_of_ble_eq_true rfl⟩, (hts _ kX0_strain_3), trivial⟩ rfl rfl hl.1 (Nat.le_of_ble_eq_true rfl) dX0_strain_39 ⟨Nat.zero_le _, Nat.zero_le _⟩ (hE.2.2 4 _ rfl).2 (fun H locs hP hD hS => ?_)
  refine lv_iadd hx hb dX0_strain_42 ?_
  refine lv_topi (fun v5 ev5 => ?_)
  have hf := rf_bindv hf ev5
  clear ev5
  refine va_put (D := D) (ci := 0) (v := .int v5) (ty := .int) (C := RX0) (T := TX0) (N := 12) hx hb hts jX0_strain_X0 tyX0 tyX0_ok nmX0 hown hK hP hD hS 0 rfl rfl 11 (by decide) (hts _ kX0_strain_8) (fun _ h9 => h9) rfl (by decide +kernel) rfl rfl (Nat.le_of_ble_eq_true rfl) dX0_strain_43 (fun H locs hP hD hS => ?_)
  have hP : va_P D vwCl [(a_this, .inr (0, rf_o0 a_this_kinds a_this_thicks (upd (upd (upd g_this 5 q1) 4 v3) 9 v5)))] H := hP
  have hD : va_D A [(a_this, .inr (0, rf_o0 a_this_kinds a_this_thicks (upd (upd (upd g_this 5 q1) 4 v3) 9 v5)))] := hD
  refine lv_aload_n hx hb dX0_strain_46 rfl (lv_at hl 0 rfl) ?_
  refine lv_dup hx hb dX0_strain_47 rfl ?_
  refine va_get (D := D) (ci := 0) (v := .int (g_this 8)) (C := RX0) (T := TX0) (N := 12) hx hb hts jX0_strain_X0 hown hK hP 0 rfl rfl 10 (by decide) (hts _ kX0_strain_9) (fun _ h9 => h9) rfl dX0_strain_48 ?_
  refine va_getsN (v := .ref (ad 2)) (host := "RingAndFinger") hx hb (hE.2.2 2 _ rfl).1 hS hown (va_Nw.use rfl (hE.2.1 2 _ rfl)) (fun _ h9 => h9) dX0_strain_51 ?_
  refine lv_iload_n hx hb dX0_strain_54 rfl (lv_at hl 1 rfl) ?_
  obtain ⟨q6, hq6, hf⟩ := rf_bindq hf
  refine rf_NiT (As := [.ref (ad 2), .int p1]) (rest := [.int (g_this 8), .ref a_this]) ⟨hx, hb, hml, hown, hts⟩ hK hP hD hS hA hE (c_X2_at_T l D cA ad (ad 2) H.size 8 rf_a2 p1 q6 hq6) ⟨va_cnB (host := "RingAndFinger") 2 hts gX0_strain_X2_at_n55 rfl rfl rfl (hE.1 0 _ rfl) (hts _ kX0_strain_2) hn_X2_at ⟨Nat.le_of_ble_eq_true rfl, Nat.le_of_ble_eq_true rfl⟩, (hts _ kX0_strain_3), trivial⟩ rfl rfl hl.1 (Nat.le_of_ble_eq_true rfl) dX0_strain_55 ⟨Nat.zero_le _, Nat.zero_le _⟩ (hE.2.2 2 _ rfl).2 (fun H locs hP hD hS => ?_)
  refine lv_iadd hx hb dX0_strain_58 ?_
  refine lv_topi (fun v7 ev7 => ?_)
  have hf := rf_bindv hf ev7
  clear ev7
  refine va_put (D := D) (ci := 0) (v := .int v7) (ty := .int) (C := RX0) (T := TX0) (N := 12) hx hb hts jX0_strain_X0 tyX0 tyX0_ok nmX0 hown hK hP hD hS 0 rfl rfl 10 (by decide) (hts _ kX0_strain_9) (fun _ h9 => h9) rfl (by decide +kernel) rfl rfl (Nat.le_of_ble_eq_true rfl) dX0_strain_59 (fun H locs hP hD hS => ?_)
  have hP : va_P D vwCl [(a_this, .inr (0, rf_o0 a_this_kinds a_this_thicks (upd (upd (upd (upd g_this 5 q1) 4 v3) 9 v5) 8 v7)))] H := hP
  have hD : va_D A [(a_this, .inr (0, rf_o0 a_this_kinds a_this_thicks (upd (upd (upd (upd g_this 5 q1) 4 v3) 9 v5) 8 v7)))] := hD
  refine lv_iload_n hx hb dX0_strain_62 rfl (lv_at hl 1 rfl) ?_
  refine lv_iconst (v := 5) hx hb dX0_strain_63 (by decide) ?_
  refine lv_icmp_ne (tgt := 82) hx hb dX0_strain_64 (by decide) (fun c8 => ?_) (fun c8 => ?_)
  · have hf := rf_ifn hf c8
    obtain rfl := Option.some.inj hf
    exact W.vret hx hb hr (fun t ht hW => ⟨⟨(), rfl, trivial, rf_mk ht hP hD⟩, hS.F ht⟩) hS.2.2 dX0_strain_82
  · have hf := rf_ifp hf c8
    refine lv_aload_n hx hb dX0_strain_67 rfl (lv_at hl 0 rfl) ?_
    refine lv_bipush (v := 99) hx hb dX0_strain_68 (by decide) ?_
    refine lv_aload_n hx hb dX0_strain_70 rfl (lv_at hl 0 rfl) ?_
    refine va_get (D := D) (ci := 0) (v := .int (g_this 6)) (C := RX0) (T := TX0) (N := 12) hx hb hts jX0_strain_X0 hown hK hP 0 rfl rfl 8 (by decide) (hts _ kX0_strain_10) (fun _ h9 => h9) rfl dX0_strain_71 ?_
    refine lv_iconst (v := 5) hx hb dX0_strain_74 (by decide) ?_
    refine lv_iadd hx hb dX0_strain_75 ?_
    refine va_mmin hx hb (hml.trans hl.1.symm) hown (hts _ kX0_strain_4) (hts _ kX0_strain_5) (hts _ kX0_strain_6) (hts _ kX0_strain_7) (Nat.le_of_ble_eq_true rfl) (Nat.le_of_ble_eq_true rfl) (Nat.zero_le _) (Nat.zero_le _) dX0_strain_76 ?_
    refine lv_topi (fun v9 ev9 => ?_)
    have hf := rf_bindv hf ev9
    clear ev9
    refine va_put (D := D) (ci := 0) (v := .int v9) (ty := .int) (C := RX0) (T := TX0) (N := 12) hx hb hts jX0_strain_X0 tyX0 tyX0_ok nmX0 hown hK hP hD hS 0 rfl rfl 8 (by decide) (hts _ kX0_strain_10) (fun _ h9 => h9) rfl (by decide +kernel) rfl rfl (Nat.le_of_ble_eq_true rfl) dX0_strain_79 (fun H locs hP hD hS => ?_)
    have hP : va_P D vwCl [(a_this, .inr (0, rf_o0 a_this_kinds a_this_thicks (upd (upd (upd (upd (upd g_this 5 q1) 4 v3) 9 v5) 8 v7) 6 v9)))] H := hP
    have hD : va_D A [(a_this, .inr (0, rf_o0 a_this_kinds a_this_thicks (upd (upd (upd (upd (upd g_this 5 q1) 4 v3) 9 v5) 8 v7) 6 v9)))] := hD
    obtain rfl := Option.some.inj hf
    exact W.vret hx hb hr (fun t ht hW => ⟨⟨(), rfl, trivial, rf_mk ht hP hD⟩, hS.F ht⟩) hS.2.2 dX0_strain_82
theorem kX0_attempt_0 : (.fieldLink RX0 28 "RingAndFinger$Finger" "front" "I" : Cond) ∈ wsX0_attempt := by decide +kernel
theorem jX0_attempt_X0 : ∀ w ∈ u_ws RX0 TX0 12, w ∈ wsX0_attempt := by decide +kernel
set_option maxHeartbeats 8000000 in
set_option maxRecDepth 100000 in
theorem c_X0_attempt (l : Launch) (D : va_G) (cA : ClassId) (ad : Nat → Nat) (a_this a_this_kinds a_this_thicks : Nat) (sz : Nat) (g_this f_this_kinds f_this_thicks : Nat → Int32) (p1 : Int32) (q : Int32 × (Nat → Int32)) (hf : f_X0_attempt g_this f_this_kinds f_this_thicks p1 = some q) : Met l yX0_attempt wsX0_attempt ({ frames := 3, cells := 0, slots := 0, locals := 69 } : Room) (va_Pc [.ref a_this, .int p1] (rf_Pre D cA ad [(a_this, .inr (0, rf_o0 a_this_kinds a_this_thicks g_this)), (a_this_kinds, .inl (cA, 6, .inl f_this_kinds)), (a_this_thicks, .inl (cA, 6, .inl f_this_thicks))] sz)) (va_Qi (fun (r : Int32) (_ : Unit) => r = q.1) (fun _ t => rf_Post D (va_A [(a_this, .inr (0, rf_o0 a_this_kinds a_this_thicks g_this)), (a_this_kinds, .inl (cA, 6, .inl f_this_kinds)), (a_this_thicks, .inl (cA, 6, .inl f_this_thicks))] sz) [(a_this, .inr (0, rf_o0 a_this_kinds a_this_thicks q.2)), (a_this_kinds, .inl (cA, 6, .inl f_this_kinds)), (a_this_thicks, .inl (cA, 6, .inl f_this_thicks))] t) (va_A [(a_this, .inr (0, rf_o0 a_this_kinds a_this_thicks g_this)), (a_this_kinds, .inl (cA, 6, .inl f_this_kinds)), (a_this_thicks, .inl (cA, 6, .inl f_this_thicks))] sz)) 0 0 (va_A [(a_this, .inr (0, rf_o0 a_this_kinds a_this_thicks g_this)), (a_this_kinds, .inl (cA, 6, .inl f_this_kinds)), (a_this_thicks, .inl (cA, 6, .inl f_this_thicks))] sz) := by
  refine Met.ofW (cc := cX0_attempt) (maxL := 3) (ret := (some .boolean)) (by decide) rfl ?_
  intro p e s m args below meth c s₁ B hml hv
  obtain ⟨rfl, hsz, hP, hK, hD0, hE⟩ := hv
  have hx := B.exec
  have hb := B.bytes
  have hr := B.returns
  have hts := atoms_spec (ws := wsX0_attempt) B.pre
  have hown : s.vm.findClass RX0 = some m.cls := findClass_of_methodNamed B.named
  have hlocks := B.notSynchronized
  subst hsz
  have hD := hD0.self (sz := s.heap.size)
  generalize hAe : va_A [(a_this, .inr (0, rf_o0 a_this_kinds a_this_thicks g_this)), (a_this_kinds, .inl (cA, 6, .inl f_this_kinds)), (a_this_thicks, .inl (cA, 6, .inl f_this_thicks))] s.heap.size = A at hD hE ⊢
  have hA : ∀ q : Nat, s.heap.size ≤ q → A q := fun q h => by rw [← hAe]; exact Or.inr h
  have hS : va_S A s.heap s.heap [] := va_S.rf
  have hP : va_P D vwCl [(a_this, .inr (0, rf_o0 a_this_kinds a_this_thicks g_this)), (a_this_kinds, .inl (cA, 6, .inl f_this_kinds)), (a_this_thicks, .inl (cA, 6, .inl f_this_thicks))] s.heap := hP
  have hl := lv_entry ([.ref a_this, .int p1]) (n := 3) (Nat.le_of_ble_eq_true rfl)
  rw [lg_entry_eq]
  generalize (lg_sl ([.ref a_this, .int p1]) ++ List.replicate (3 - (lg_sl ([.ref a_this, .int p1])).length) Slot.unset).toArray = ls at hl ⊢
  have hl : lv_has ls 3 [(0, .ref a_this), (1, .int p1)] := hl
  rw [f_X0_attempt] at hf
  refine lv_aload_n hx hb dX0_attempt_0 rfl (lv_at hl 0 rfl) ?_
  refine lv_iload_n hx hb dX0_attempt_1 rfl (lv_at hl 1 rfl) ?_
  obtain ⟨q1, hq1, hf⟩ := rf_bindq hf
  refine rf_Vi (As := [.int p1]) (rest := []) (wr := []) (wn := [(a_this, .inr (0, rf_o0 a_this_kinds a_this_thicks g_this)), (a_this_kinds, .inl (cA, 6, .inl f_this_kinds)), (a_this_thicks, .inl (cA, 6, .inl f_this_thicks))]) ⟨hx, hb, hml, hown, hts⟩ hK hP hD hS hA hE (c_X0_goesOver l D cA ad a_this a_this_kinds a_this_thicks s.heap.size g_this f_this_kinds f_this_thicks p1 q1 hq1) (cwV 1 hts gX0_attempt_X0_goesOver rfl rfl rfl hv_X0_goesOver ⟨Nat.le_of_ble_eq_true rfl, Nat.le_of_ble_eq_true rfl⟩) [0, 1, 2] [] [0, 1, 2] rfl rfl rfl rfl (by decide) rfl rfl 0 0 rfl rfl rfl rfl rfl hl.1 (Nat.le_of_ble_eq_true rfl) dX0_attempt_2 ⟨Nat.zero_le _, Nat.zero_le _⟩ (fun H locs hP hD hS => ?_)
  refine lv_istore_n (lv' := [(2, .int q1), (0, .ref a_this), (1, .int p1)]) hx hb dX0_attempt_5 rfl hl (by decide) rfl (fun ls hl => ?_)
  refine lv_aload_n hx hb dX0_attempt_6 rfl (lv_at hl 1 rfl) ?_
  refine lv_iload_n hx hb dX0_attempt_7 rfl (lv_at hl 2 rfl) ?_
  obtain ⟨q2, hq2, hf⟩ := rf_bindq hf
  refine rf_Vv (As := [.int p1]) (rest := []) (wr := [(a_this_kinds, .inl (cA, 6, .inl f_this_kinds)), (a_this_thicks, .inl (cA, 6, .inl f_this_thicks))]) (wn := [(a_this, .inr (0, rf_o0 a_this_kinds a_this_thicks q2)), (a_this_kinds, .inl (cA, 6, .inl f_this_kinds)), (a_this_thicks, .inl (cA, 6, .inl f_this_thicks))]) ⟨hx, hb, hml, hown, hts⟩ hK hP hD hS hA hE (c_X0_strain l D cA ad a_this a_this_kinds a_this_thicks H.size g_this p1 q2 hq2) (cwV 1 hts gX0_attempt_X0_strain rfl rfl rfl hv_X0_strain ⟨Nat.le_of_ble_eq_true rfl, Nat.le_of_ble_eq_true rfl⟩) [0] [1, 2] [2, 0, 1] rfl rfl rfl rfl (by decide) rfl rfl 0 0 rfl rfl rfl rfl rfl hl.1 (Nat.le_of_ble_eq_true rfl) dX0_attempt_8 ⟨Nat.zero_le _, Nat.zero_le _⟩ (fun H locs hP hD hS => ?_)
  refine lv_iload_n hx hb dX0_attempt_11 rfl (lv_at hl 0 rfl) ?_
  refine lv_if_eq (tgt := 25) hx hb dX0_attempt_12 (by decide) (fun c3 => ?_) (fun c3 => ?_)
  · have hf := rf_ifp hf c3
    refine lv_iload_n hx hb dX0_attempt_25 rfl (lv_at hl 0 rfl) ?_
    obtain ⟨c4, hf⟩ := rf_chk hf
    obtain rfl := Option.some.inj hf
    exact W.zret (v := q1) hx hb hr (rf_nb c4) (fun t ht hW => ⟨⟨q1, (), rfl, rfl, rf_mk ht hP hD⟩, hS.F ht⟩) hS.2.2 dX0_attempt_26
  · have hf := rf_ifn hf c3
    refine lv_aload_n hx hb dX0_attempt_15 rfl (lv_at hl 1 rfl) ?_
    refine lv_dup hx hb dX0_attempt_16 rfl ?_
    refine va_get (D := D) (ci := 0) (v := .int (q2 3)) (C := RX0) (T := TX0) (N := 12) hx hb hts jX0_attempt_X0 hown hK hP 0 rfl rfl 5 (by decide) (hts _ kX0_attempt_0) (fun _ h9 => h9) rfl dX0_attempt_17 ?_
    refine lv_iconst (v := 1) hx hb dX0_attempt_20 (by decide) ?_
    refine lv_iadd hx hb dX0_attempt_21 ?_
    refine lv_topi (fun v5 ev5 => ?_)
    have hf := rf_bindv hf ev5
    clear ev5
    refine va_put (D := D) (ci := 0) (v := .int v5) (ty := .int) (C := RX0) (T := TX0) (N := 12) hx hb hts jX0_attempt_X0 tyX0 tyX0_ok nmX0 hown hK hP hD hS 0 rfl rfl 5 (by decide) (hts _ kX0_attempt_0) (fun _ h9 => h9) rfl (by decide +kernel) rfl rfl (Nat.le_of_ble_eq_true rfl) dX0_attempt_22 (fun H locs hP hD hS => ?_)
    have hP : va_P D vwCl [(a_this, .inr (0, rf_o0 a_this_kinds a_this_thicks (upd q2 3 v5))), (a_this_kinds, .inl (cA, 6, .inl f_this_kinds)), (a_this_thicks, .inl (cA, 6, .inl f_this_thicks))] H := hP
    have hD : va_D A [(a_this, .inr (0, rf_o0 a_this_kinds a_this_thicks (upd q2 3 v5))), (a_this_kinds, .inl (cA, 6, .inl f_this_kinds)), (a_this_thicks, .inl (cA, 6, .inl f_this_thicks))] := hD
    refine lv_iload_n hx hb dX0_attempt_25 rfl (lv_at hl 0 rfl) ?_
    obtain ⟨c6, hf⟩ := rf_chk hf
    obtain rfl := Option.some.inj hf
    exact W.zret (v := q1) hx hb hr (rf_nb c6) (fun t ht hW => ⟨⟨q1, (), rfl, rfl, rf_mk ht hP hD⟩, hS.F ht⟩) hS.2.2 dX0_attempt_26
theorem kX0_rest_0 : (.fieldLink RX0 31 "RingAndFinger$Finger" "swell" "I" : Cond) ∈ wsX0_rest := by decide +kernel
theorem kX0_rest_1 : (.methodLink RX0 67 Lib.Math.max.name : Cond) ∈ wsX0_rest := by decide +kernel
theorem kX0_rest_2 : (.static Lib.Math.max.name : Cond) ∈ wsX0_rest := by decide +kernel
theorem kX0_rest_3 : (.initialized "java/lang/Math" : Cond) ∈ wsX0_rest := by decide +kernel
theorem kX0_rest_4 : (.code Lib.Math.max.name Lib.Math.max.code 2 (some .int) : Cond) ∈ wsX0_rest := by decide +kernel
theorem kX0_rest_5 : (.fieldLink RX0 34 "RingAndFinger$Finger" "cold" "I" : Cond) ∈ wsX0_rest := by decide +kernel
theorem kX0_rest_6 : (.fieldLink RX0 37 "RingAndFinger$Finger" "blue" "I" : Cond) ∈ wsX0_rest := by decide +kernel
theorem kX0_rest_7 : (.fieldLink RX0 43 "RingAndFinger$Finger" "minute" "I" : Cond) ∈ wsX0_rest := by decide +kernel
theorem jX0_rest_X0 : ∀ w ∈ u_ws RX0 TX0 12, w ∈ wsX0_rest := by decide +kernel
set_option maxHeartbeats 8000000 in
set_option maxRecDepth 100000 in
theorem c_X0_rest (l : Launch) (D : va_G) (cA : ClassId) (ad : Nat → Nat) (a_this a_this_kinds a_this_thicks : Nat) (sz : Nat) (g_this : Nat → Int32) (p1 : Int32) (q : (Nat → Int32)) (hf : f_X0_rest g_this p1 = some q) : Met l yX0_rest wsX0_rest ({ frames := 1, cells := 0, slots := 0, locals := 21 } : Room) (va_Pc [.ref a_this, .int p1] (rf_Pre D cA ad [(a_this, .inr (0, rf_o0 a_this_kinds a_this_thicks g_this))] sz)) (va_Qv (fun (_ : Unit) => True) (fun _ t => rf_Post D (va_A [(a_this, .inr (0, rf_o0 a_this_kinds a_this_thicks g_this))] sz) [(a_this, .inr (0, rf_o0 a_this_kinds a_this_thicks q))] t) (va_A [(a_this, .inr (0, rf_o0 a_this_kinds a_this_thicks g_this))] sz)) 0 0 (va_A [(a_this, .inr (0, rf_o0 a_this_kinds a_this_thicks g_this))] sz) := by
  refine Met.ofW (cc := cX0_rest) (maxL := 2) (ret := none) (by decide) rfl ?_
  intro p e s m args below meth c s₁ B hml hv
  obtain ⟨rfl, hsz, hP, hK, hD0, hE⟩ := hv
  have hx := B.exec
  have hb := B.bytes
  have hr := B.returns
  have hts := atoms_spec (ws := wsX0_rest) B.pre
  have hown : s.vm.findClass RX0 = some m.cls := findClass_of_methodNamed B.named
  have hlocks := B.notSynchronized
  subst hsz
  have hD := hD0.self (sz := s.heap.size)
  generalize hAe : va_A [(a_this, .inr (0, rf_o0 a_this_kinds a_this_thicks g_this))] s.heap.size = A at hD hE ⊢
  have hA : ∀ q : Nat, s.heap.size ≤ q → A q := fun q h => by rw [← hAe]; exact Or.inr h
  have hS : va_S A s.heap s.heap [] := va_S.rf
  have hP : va_P D vwCl [(a_this, .inr (0, rf_o0 a_this_kinds a_this_thicks g_this))] s.heap := hP
  have hl := lv_entry ([.ref a_this, .int p1]) (n := 2) (Nat.le_of_ble_eq_true rfl)
  rw [lg_entry_eq]
  generalize (lg_sl ([.ref a_this, .int p1]) ++ List.replicate (2 - (lg_sl ([.ref a_this, .int p1])).length) Slot.unset).toArray = ls at hl ⊢
  have hl : lv_has ls 2 [(0, .ref a_this), (1, .int p1)] := hl
  rw [f_X0_rest] at hf
  refine lv_aload_n hx hb dX0_rest_0 rfl (lv_at hl 0 rfl) ?_
  refine lv_iconst (v := 0) hx hb dX0_rest_1 (by decide) ?_
  refine lv_aload_n hx hb dX0_rest_2 rfl (lv_at hl 0 rfl) ?_
  refine va_get (D := D) (ci := 0) (v := .int (g_this 4)) (C := RX0) (T := TX0) (N := 12) hx hb hts jX0_rest_X0 hown hK hP 0 rfl rfl 6 (by decide) (hts _ kX0_rest_0) (fun _ h9 => h9) rfl dX0_rest_3 ?_
  refine lv_iload_n hx hb dX0_rest_6 rfl (lv_at hl 1 rfl) ?_
  refine lv_iconst (v := 2) hx hb dX0_rest_7 (by decide) ?_
  refine lv_idiv hx hb dX0_rest_8 (by decide) ?_
  refine lv_isub hx hb dX0_rest_9 ?_
  refine va_mmax hx hb (hml.trans hl.1.symm) hown (hts _ kX0_rest_1) (hts _ kX0_rest_2) (hts _ kX0_rest_3) (hts _ kX0_rest_4) (Nat.le_of_ble_eq_true rfl) (Nat.le_of_ble_eq_true rfl) (Nat.zero_le _) (Nat.zero_le _) dX0_rest_10 ?_
  refine lv_topi (fun v1 ev1 => ?_)
  have hf := rf_bindv hf ev1
  clear ev1
  refine va_put (D := D) (ci := 0) (v := .int v1) (ty := .int) (C := RX0) (T := TX0) (N := 12) hx hb hts jX0_rest_X0 tyX0 tyX0_ok nmX0 hown hK hP hD hS 0 rfl rfl 6 (by decide) (hts _ kX0_rest_0) (fun _ h9 => h9) rfl (by decide +kernel) rfl rfl (Nat.le_of_ble_eq_true rfl) dX0_rest_13 (fun H locs hP hD hS => ?_)
  have hP : va_P D vwCl [(a_this, .inr (0, rf_o0 a_this_kinds a_this_thicks (upd g_this 4 v1)))] H := hP
  have hD : va_D A [(a_this, .inr (0, rf_o0 a_this_kinds a_this_thicks (upd g_this 4 v1)))] := hD
  refine lv_aload_n hx hb dX0_rest_16 rfl (lv_at hl 0 rfl) ?_
  refine lv_iconst (v := 0) hx hb dX0_rest_17 (by decide) ?_
  refine lv_aload_n hx hb dX0_rest_18 rfl (lv_at hl 0 rfl) ?_
  refine va_get (D := D) (ci := 0) (v := .int (g_this 5)) (C := RX0) (T := TX0) (N := 12) hx hb hts jX0_rest_X0 hown hK hP 0 rfl rfl 7 (by decide) (hts _ kX0_rest_5) (fun _ h9 => h9) rfl dX0_rest_19 ?_
  refine lv_iload_n hx hb dX0_rest_22 rfl (lv_at hl 1 rfl) ?_
  refine lv_iconst (v := 3) hx hb dX0_rest_23 (by decide) ?_
  refine lv_idiv hx hb dX0_rest_24 (by decide) ?_
  refine lv_isub hx hb dX0_rest_25 ?_
  refine va_mmax hx hb (hml.trans hl.1.symm) hown (hts _ kX0_rest_1) (hts _ kX0_rest_2) (hts _ kX0_rest_3) (hts _ kX0_rest_4) (Nat.le_of_ble_eq_true rfl) (Nat.le_of_ble_eq_true rfl) (Nat.zero_le _) (Nat.zero_le _) dX0_rest_26 ?_
  refine lv_topi (fun v2 ev2 => ?_)
  have hf := rf_bindv hf ev2
  clear ev2
  refine va_put (D := D) (ci := 0) (v := .int v2) (ty := .int) (C := RX0) (T := TX0) (N := 12) hx hb hts jX0_rest_X0 tyX0 tyX0_ok nmX0 hown hK hP hD hS 0 rfl rfl 7 (by decide) (hts _ kX0_rest_5) (fun _ h9 => h9) rfl (by decide +kernel) rfl rfl (Nat.le_of_ble_eq_true rfl) dX0_rest_29 (fun H locs hP hD hS => ?_)
  have hP : va_P D vwCl [(a_this, .inr (0, rf_o0 a_this_kinds a_this_thicks (upd (upd g_this 4 v1) 5 v2)))] H := hP
  have hD : va_D A [(a_this, .inr (0, rf_o0 a_this_kinds a_this_thicks (upd (upd g_this 4 v1) 5 v2)))] := hD
  refine lv_aload_n hx hb dX0_rest_32 rfl (lv_at hl 0 rfl) ?_
  refine lv_iconst (v := 0) hx hb dX0_rest_33 (by decide) ?_
  refine lv_aload_n hx hb dX0_rest_34 rfl (lv_at hl 0 rfl) ?_
  refine va_get (D := D) (ci := 0) (v := .int (g_this 6)) (C := RX0) (T := TX0) (N := 12) hx hb hts jX0_rest_X0 hown hK hP 0 rfl rfl 8 (by decide) (hts _ kX0_rest_6) (fun _ h9 => h9) rfl dX0_rest_35 ?_
  refine lv_iload_n hx hb dX0_rest_38 rfl (lv_at hl 1 rfl) ?_
  refine lv_isub hx hb dX0_rest_39 ?_
  refine va_mmax hx hb (hml.trans hl.1.symm) hown (hts _ kX0_rest_1) (hts _ kX0_rest_2) (hts _ kX0_rest_3) (hts _ kX0_rest_4) (Nat.le_of_ble_eq_true rfl) (Nat.le_of_ble_eq_true rfl) (Nat.zero_le _) (Nat.zero_le _) dX0_rest_40 ?_
  refine lv_topi (fun v3 ev3 => ?_)
  have hf := rf_bindv hf ev3
  clear ev3
  refine va_put (D := D) (ci := 0) (v := .int v3) (ty := .int) (C := RX0) (T := TX0) (N := 12) hx hb hts jX0_rest_X0 tyX0 tyX0_ok nmX0 hown hK hP hD hS 0 rfl rfl 8 (by decide) (hts _ kX0_rest_6) (fun _ h9 => h9) rfl (by decide +kernel) rfl rfl (Nat.le_of_ble_eq_true rfl) dX0_rest_43 (fun H locs hP hD hS => ?_)
  have hP : va_P D vwCl [(a_this, .inr (0, rf_o0 a_this_kinds a_this_thicks (upd (upd (upd g_this 4 v1) 5 v2) 6 v3)))] H := hP
  have hD : va_D A [(a_this, .inr (0, rf_o0 a_this_kinds a_this_thicks (upd (upd (upd g_this 4 v1) 5 v2) 6 v3)))] := hD
  refine lv_aload_n hx hb dX0_rest_46 rfl (lv_at hl 0 rfl) ?_
  refine lv_dup hx hb dX0_rest_47 rfl ?_
  refine va_get (D := D) (ci := 0) (v := .int (g_this 8)) (C := RX0) (T := TX0) (N := 12) hx hb hts jX0_rest_X0 hown hK hP 0 rfl rfl 10 (by decide) (hts _ kX0_rest_7) (fun _ h9 => h9) rfl dX0_rest_48 ?_
  refine lv_iload_n hx hb dX0_rest_51 rfl (lv_at hl 1 rfl) ?_
  refine lv_iadd hx hb dX0_rest_52 ?_
  refine lv_topi (fun v4 ev4 => ?_)
  have hf := rf_bindv hf ev4
  clear ev4
  refine va_put (D := D) (ci := 0) (v := .int v4) (ty := .int) (C := RX0) (T := TX0) (N := 12) hx hb hts jX0_rest_X0 tyX0 tyX0_ok nmX0 hown hK hP hD hS 0 rfl rfl 10 (by decide) (hts _ kX0_rest_7) (fun _ h9 => h9) rfl (by decide +kernel) rfl rfl (Nat.le_of_ble_eq_true rfl) dX0_rest_53 (fun H locs hP hD hS => ?_)
  have hP : va_P D vwCl [(a_this, .inr (0, rf_o0 a_this_kinds a_this_thicks (upd (upd (upd (upd g_this 4 v1) 5 v2) 6 v3) 8 v4)))] H := hP
  have hD : va_D A [(a_this, .inr (0, rf_o0 a_this_kinds a_this_thicks (upd (upd (upd (upd g_this 4 v1) 5 v2) 6 v3) 8 v4)))] := hD
  obtain rfl := Option.some.inj hf
  exact W.vret hx hb hr (fun t ht hW => ⟨⟨(), rfl, trivial, rf_mk ht hP hD⟩, hS.F ht⟩) hS.2.2 dX0_rest_56
theorem kX0_setting_0 : (.fieldLink RX0 22 "RingAndFinger$Finger" "size" "I" : Cond) ∈ wsX0_setting := by decide +kernel
theorem kX0_setting_1 : (.fieldLink RX0 25 "RingAndFinger$Finger" "broad" "I" : Cond) ∈ wsX0_setting := by decide +kernel
theorem kX0_setting_2 : (.fieldLink RX0 31 "RingAndFinger$Finger" "swell" "I" : Cond) ∈ wsX0_setting := by decide +kernel
theorem kX0_setting_3 : (.fieldLink RX0 34 "RingAndFinger$Finger" "cold" "I" : Cond) ∈ wsX0_setting := by decide +kernel
theorem kX0_setting_4 : (.fieldLink RX0 40 "RingAndFinger$Finger" "heat" "I" : Cond) ∈ wsX0_setting := by decide +kernel
theorem jX0_setting_X0 : ∀ w ∈ u_ws RX0 TX0 12, w ∈ wsX0_setting := by decide +kernel
set_option maxHeartbeats 8000000 in
set_option maxRecDepth 100000 in
theorem c_X0_setting (l : Launch) (D : va_G) (cA : ClassId) (ad : Nat → Nat) (a_this a_this_kinds a_this_thicks : Nat) (sz : Nat) (g_this : Nat → Int32) (p1 : Int32) (q : Int32) (hf : f_X0_setting g_this p1 = some q) : Met l yX0_setting wsX0_setting ({ frames := 0, cells := 0, slots := 0, locals := 0 } : Room) (va_Pc [.ref a_this, .int p1] (rf_Pre D cA ad [(a_this, .inr (0, rf_o0 a_this_kinds a_this_thicks g_this))] sz)) (va_Qi (fun (r : Int32) (_ : Unit) => r = q) (fun _ t => rf_Post D (va_A [(a_this, .inr (0, rf_o0 a_this_kinds a_this_thicks g_this))] sz) [(a_this, .inr (0, rf_o0 a_this_kinds a_this_thicks g_this))] t) (va_A [(a_this, .inr (0, rf_o0 a_this_kinds a_this_thicks g_this))] sz)) 0 0 (va_A [(a_this, .inr (0, rf_o0 a_this_kinds a_this_thicks g_this))] sz) := by
  refine Met.ofW (cc := cX0_setting) (maxL := 2) (ret := (some .int)) (by decide) rfl ?_
  intro p e s m args below meth c s₁ B hml hv
  obtain ⟨rfl, hsz, hP, hK, hD0, hE⟩ := hv
  have hx := B.exec
  have hb := B.bytes
  have hr := B.returns
  have hts := atoms_spec (ws := wsX0_setting) B.pre
  have hown : s.vm.findClass RX0 = some m.cls := findClass_of_methodNamed B.named
  have hlocks := B.notSynchronized
  subst hsz
  have hD := hD0.self (sz := s.heap.size)
  generalize hAe : va_A [(a_this, .inr (0, rf_o0 a_this_kinds a_this_thicks g_this))] s.heap.size = A at hD hE ⊢
  have hA : ∀ q : Nat, s.heap.size ≤ q → A q := fun q h => by rw [← hAe]; exact Or.inr h
  have hS : va_S A s.heap s.heap [] := va_S.rf
  have hP : va_P D vwCl [(a_this, .inr (0, rf_o0 a_this_kinds a_this_thicks g_this))] s.heap := hP
  have hl := lv_entry ([.ref a_this, .int p1]) (n := 2) (Nat.le_of_ble_eq_true rfl)
  rw [lg_entry_eq]
  generalize (lg_sl ([.ref a_this, .int p1]) ++ List.replicate (2 - (lg_sl ([.ref a_this, .int p1])).length) Slot.unset).toArray = ls at hl ⊢
  have hl : lv_has ls 2 [(0, .ref a_this), (1, .int p1)] := hl
  rw [f_X0_setting] at hf
  refine lv_iload_n hx hb dX0_setting_0 rfl (lv_at hl 1 rfl) ?_
  by_cases c1 : p1 = 0
  · have hf := rf_ifp hf c1
    refine rf_tabC (off := 31) (tgt := 32) hx hb dX0_setting_1 c1 (by decide) (by decide) (by decide) (by decide) ?_
    refine lv_aload_n hx hb dX0_setting_32 rfl (lv_at hl 0 rfl) ?_
    refine va_get (D := D) (ci := 0) (v := .int (g_this 1)) (C := RX0) (T := TX0) (N := 12) hx hb hts jX0_setting_X0 hown hK hP 0 rfl rfl 3 (by decide) (hts _ kX0_setting_0) (fun _ h9 => h9) rfl dX0_setting_33 ?_
    obtain rfl := Option.some.inj hf
    exact W.iret (v := (g_this 1)) hx hb hr (fun t ht hW => ⟨⟨(g_this 1), (), rfl, rfl, rf_mk ht hP hD⟩, hS.F ht⟩) hS.2.2 dX0_setting_36
  · have hf := rf_ifn hf c1
    by_cases c2 : p1 = 1
    · have hf := rf_ifp hf c2
      refine rf_tabC (off := 36) (tgt := 37) hx hb dX0_setting_1 c2 (by decide) (by decide) (by decide) (by decide) ?_
      refine lv_aload_n hx hb dX0_setting_37 rfl (lv_at hl 0 rfl) ?_
      refine va_get (D := D) (ci := 0) (v := .int (g_this 2)) (C := RX0) (T := TX0) (N := 12) hx hb hts jX0_setting_X0 hown hK hP 0 rfl rfl 4 (by decide) (hts _ kX0_setting_1) (fun _ h9 => h9) rfl dX0_setting_38 ?_
      obtain rfl := Option.some.inj hf
      exact W.iret (v := (g_this 2)) hx hb hr (fun t ht hW => ⟨⟨(g_this 2), (), rfl, rfl, rf_mk ht hP hD⟩, hS.F ht⟩) hS.2.2 dX0_setting_41
    · have hf := rf_ifn hf c2
      by_cases c3 : p1 = 2
      · have hf := rf_ifp hf c3
        refine rf_tabC (off := 41) (tgt := 42) hx hb dX0_setting_1 c3 (by decide) (by decide) (by decide) (by decide) ?_
        refine lv_aload_n hx hb dX0_setting_42 rfl (lv_at hl 0 rfl) ?_
        refine va_get (D := D) (ci := 0) (v := .int (g_this 4)) (C := RX0) (T := TX0) (N := 12) hx hb hts jX0_setting_X0 hown hK hP 0 rfl rfl 6 (by decide) (hts _ kX0_setting_2) (fun _ h9 => h9) rfl dX0_setting_43 ?_
        obtain rfl := Option.some.inj hf
        exact W.iret (v := (g_this 4)) hx hb hr (fun t ht hW => ⟨⟨(g_this 4), (), rfl, rfl, rf_mk ht hP hD⟩, hS.F ht⟩) hS.2.2 dX0_setting_46
      · have hf := rf_ifn hf c3
        by_cases c4 : p1 = 3
        · have hf := rf_ifp hf c4
          refine rf_tabC (off := 46) (tgt := 47) hx hb dX0_setting_1 c4 (by decide) (by decide) (by decide) (by decide) ?_
          refine lv_aload_n hx hb dX0_setting_47 rfl (lv_at hl 0 rfl) ?_
          refine va_get (D := D) (ci := 0) (v := .int (g_this 5)) (C := RX0) (T := TX0) (N := 12) hx hb hts jX0_setting_X0 hown hK hP 0 rfl rfl 7 (by decide) (hts _ kX0_setting_3) (fun _ h9 => h9) rfl dX0_setting_48 ?_
          obtain rfl := Option.some.inj hf
          exact W.iret (v := (g_this 5)) hx hb hr (fun t ht hW => ⟨⟨(g_this 5), (), rfl, rfl, rf_mk ht hP hD⟩, hS.F ht⟩) hS.2.2 dX0_setting_51
        · have hf := rf_ifn hf c4
          refine rf_tabD (tgt := 52) (ks := [0, 1, 2, 3]) hx hb dX0_setting_1 (by intro z hz; simp only [List.mem_cons, List.not_mem_nil, or_false] at hz; rcases hz with rfl | rfl | rfl | rfl <;> assumption) (by decide) (by decide) ?_
          refine lv_aload_n hx hb dX0_setting_52 rfl (lv_at hl 0 rfl) ?_
          refine va_get (D := D) (ci := 0) (v := .int (g_this 7)) (C := RX0) (T := TX0) (N := 12) hx hb hts jX0_setting_X0 hown hK hP 0 rfl rfl 9 (by decide) (hts _ kX0_setting_4) (fun _ h9 => h9) rfl dX0_setting_53 ?_
          obtain rfl := Option.some.inj hf
          exact W.iret (v := (g_this 7)) hx hb hr (fun t ht hW => ⟨⟨(g_this 7), (), rfl, rfl, rf_mk ht hP hD⟩, hS.F ht⟩) hS.2.2 dX0_setting_56
theorem kX0_change_0 : (.fieldLink RX0 22 "RingAndFinger$Finger" "size" "I" : Cond) ∈ wsX0_change := by decide +kernel
theorem kX0_change_1 : (.fieldLink RX0 25 "RingAndFinger$Finger" "broad" "I" : Cond) ∈ wsX0_change := by decide +kernel
theorem kX0_change_2 : (.fieldLink RX0 31 "RingAndFinger$Finger" "swell" "I" : Cond) ∈ wsX0_change := by decide +kernel
theorem kX0_change_3 : (.fieldLink RX0 34 "RingAndFinger$Finger" "cold" "I" : Cond) ∈ wsX0_change := by decide +kernel
theorem kX0_change_4 : (.fieldLink RX0 40 "RingAndFinger$Finger" "heat" "I" : Cond) ∈ wsX0_change := by decide +kernel
theorem jX0_change_X0 : ∀ w ∈ u_ws RX0 TX0 12, w ∈ wsX0_change := by decide +kernel
set_option maxHeartbeats 8000000 in
set_option maxRecDepth 100000 in
theorem c_X0_change (l : Launch) (D : va_G) (cA : ClassId) (ad : Nat → Nat) (a_this a_this_kinds a_this_thicks : Nat) (sz : Nat) (g_this : Nat → Int32) (p1 p2 : Int32) (q : (Nat → Int32)) (hf : f_X0_change g_this p1 p2 = some q) : Met l yX0_change wsX0_change ({ frames := 0, cells := 0, slots := 0, locals := 0 } : Room) (va_Pc [.ref a_this, .int p1, .int p2] (rf_Pre D cA ad [(a_this, .inr (0, rf_o0 a_this_kinds a_this_thicks g_this))] sz)) (va_Qv (fun (_ : Unit) => True) (fun _ t => rf_Post D (va_A [(a_this, .inr (0, rf_o0 a_this_kinds a_this_thicks g_this))] sz) [(a_this, .inr (0, rf_o0 a_this_kinds a_this_thicks q))] t) (va_A [(a_this, .inr (0, rf_o0 a_this_kinds a_this_thicks g_this))] sz)) 0 0 (va_A [(a_this, .inr (0, rf_o0 a_this_kinds a_this_thicks g_this))] sz) := by
  refine Met.ofW (cc := cX0_change) (maxL := 3) (ret := none) (by decide) rfl ?_
  intro p e s m args below meth c s₁ B hml hv
  obtain ⟨rfl, hsz, hP, hK, hD0, hE⟩ := hv
  have hx := B.exec
  have hb := B.bytes
  have hr := B.returns
  have hts := atoms_spec (ws := wsX0_change) B.pre
  have hown : s.vm.findClass RX0 = some m.cls := findClass_of_methodNamed B.named
  have hlocks := B.notSynchronized
  subst hsz
  have hD := hD0.self (sz := s.heap.size)
  generalize hAe : va_A [(a_this, .inr (0, rf_o0 a_this_kinds a_this_thicks g_this))] s.heap.size = A at hD hE ⊢
  have hA : ∀ q : Nat, s.heap.size ≤ q → A q := fun q h => by rw [← hAe]; exact Or.inr h
  have hS : va_S A s.heap s.heap [] := va_S.rf
  have hP : va_P D vwCl [(a_this, .inr (0, rf_o0 a_this_kinds a_this_thicks g_this))] s.heap := hP
  have hl := lv_entry ([.ref a_this, .int p1, .int p2]) (n := 3) (Nat.le_of_ble_eq_true rfl)
  rw [lg_entry_eq]
  generalize (lg_sl ([.ref a_this, .int p1, .int p2]) ++ List.replicate (3 - (lg_sl ([.ref a_this, .int p1, .int p2])).length) Slot.unset).toArray = ls at hl ⊢
  have hl : lv_has ls 3 [(0, .ref a_this), (1, .int p1), (2, .int p2)] := hl
  rw [f_X0_change] at hf
  refine lv_iload_n hx hb dX0_change_0 rfl (lv_at hl 1 rfl) ?_
  by_cases c1 : p1 = 0
  · have hf := rf_ifp hf c1
    refine rf_tabC (off := 31) (tgt := 32) hx hb dX0_change_1 c1 (by decide) (by decide) (by decide) (by decide) ?_
    refine lv_aload_n hx hb dX0_change_32 rfl (lv_at hl 0 rfl) ?_
    refine lv_iload_n hx hb dX0_change_33 rfl (lv_at hl 2 rfl) ?_
    refine va_put (D := D) (ci := 0) (v := .int p2) (ty := .int) (C := RX0) (T := TX0) (N := 12) hx hb hts jX0_change_X0 tyX0 tyX0_ok nmX0 hown hK hP hD hS 0 rfl rfl 3 (by decide) (hts _ kX0_change_0) (fun _ h9 => h9) rfl (by decide +kernel) rfl rfl (Nat.le_of_ble_eq_true rfl) dX0_change_34 (fun H locs hP hD hS => ?_)
    have hP : va_P D vwCl [(a_this, .inr (0, rf_o0 a_this_kinds a_this_thicks (upd g_this 1 p2)))] H := hP
    have hD : va_D A [(a_this, .inr (0, rf_o0 a_this_kinds a_this_thicks (upd g_this 1 p2)))] := hD
    refine lv_goto (tgt := 69) hx hb dX0_change_37 (by decide) ?_
    obtain rfl := Option.some.inj hf
    exact W.vret hx hb hr (fun t ht hW => ⟨⟨(), rfl, trivial, rf_mk ht hP hD⟩, hS.F ht⟩) hS.2.2 dX0_change_69
  · have hf := rf_ifn hf c1
    by_cases c2 : p1 = 1
    · have hf := rf_ifp hf c2
      refine rf_tabC (off := 39) (tgt := 40) hx hb dX0_change_1 c2 (by decide) (by decide) (by decide) (by decide) ?_
      refine lv_aload_n hx hb dX0_change_40 rfl (lv_at hl 0 rfl) ?_
      refine lv_iload_n hx hb dX0_change_41 rfl (lv_at hl 2 rfl) ?_
      refine va_put (D := D) (ci := 0) (v := .int p2) (ty := .int) (C := RX0) (T := TX0) (N := 12) hx hb hts jX0_change_X0 tyX0 tyX0_ok nmX0 hown hK hP hD hS 0 rfl rfl 4 (by decide) (hts _ kX0_change_1) (fun _ h9 => h9) rfl (by decide +kernel) rfl rfl (Nat.le_of_ble_eq_true rfl) dX0_change_42 (fun H locs hP hD hS => ?_)
      have hP : va_P D vwCl [(a_this, .inr (0, rf_o0 a_this_kinds a_this_thicks (upd g_this 2 p2)))] H := hP
      have hD : va_D A [(a_this, .inr (0, rf_o0 a_this_kinds a_this_thicks (upd g_this 2 p2)))] := hD
      refine lv_goto (tgt := 69) hx hb dX0_change_45 (by decide) ?_
      obtain rfl := Option.some.inj hf
      exact W.vret hx hb hr (fun t ht hW => ⟨⟨(), rfl, trivial, rf_mk ht hP hD⟩, hS.F ht⟩) hS.2.2 dX0_change_69
    · have hf := rf_ifn hf c2
      by_cases c3 : p1 = 2
      · have hf := rf_ifp hf c3
        refine rf_tabC (off := 47) (tgt := 48) hx hb dX0_change_1 c3 (by decide) (by decide) (by decide) (by decide) ?_
        refine lv_aload_n hx hb dX0_change_48 rfl (lv_at hl 0 rfl) ?_
        refine lv_iload_n hx hb dX0_change_49 rfl (lv_at hl 2 rfl) ?_
        refine va_put (D := D) (ci := 0) (v := .int p2) (ty := .int) (C := RX0) (T := TX0) (N := 12) hx hb hts jX0_change_X0 tyX0 tyX0_ok nmX0 hown hK hP hD hS 0 rfl rfl 6 (by decide) (hts _ kX0_change_2) (fun _ h9 => h9) rfl (by decide +kernel) rfl rfl (Nat.le_of_ble_eq_true rfl) dX0_change_50 (fun H locs hP hD hS => ?_)
        have hP : va_P D vwCl [(a_this, .inr (0, rf_o0 a_this_kinds a_this_thicks (upd g_this 4 p2)))] H := hP
        have hD : va_D A [(a_this, .inr (0, rf_o0 a_this_kinds a_this_thicks (upd g_this 4 p2)))] := hD
        refine lv_goto (tgt := 69) hx hb dX0_change_53 (by decide) ?_
        obtain rfl := Option.some.inj hf
        exact W.vret hx hb hr (fun t ht hW => ⟨⟨(), rfl, trivial, rf_mk ht hP hD⟩, hS.F ht⟩) hS.2.2 dX0_change_69
      · have hf := rf_ifn hf c3
        by_cases c4 : p1 = 3
        · have hf := rf_ifp hf c4
          refine rf_tabC (off := 55) (tgt := 56) hx hb dX0_change_1 c4 (by decide) (by decide) (by decide) (by decide) ?_
          refine lv_aload_n hx hb dX0_change_56 rfl (lv_at hl 0 rfl) ?_
          refine lv_iload_n hx hb dX0_change_57 rfl (lv_at hl 2 rfl) ?_
          refine va_put (D := D) (ci := 0) (v := .int p2) (ty := .int) (C := RX0) (T := TX0) (N := 12) hx hb hts jX0_change_X0 tyX0 tyX0_ok nmX0 hown hK hP hD hS 0 rfl rfl 7 (by decide) (hts _ kX0_change_3) (fun _ h9 => h9) rfl (by decide +kernel) rfl rfl (Nat.le_of_ble_eq_true rfl) dX0_change_58 (fun H locs hP hD hS => ?_)
          have hP : va_P D vwCl [(a_this, .inr (0, rf_o0 a_this_kinds a_this_thicks (upd g_this 5 p2)))] H := hP
          have hD : va_D A [(a_this, .inr (0, rf_o0 a_this_kinds a_this_thicks (upd g_this 5 p2)))] := hD
          refine lv_goto (tgt := 69) hx hb dX0_change_61 (by decide) ?_
          obtain rfl := Option.some.inj hf
          exact W.vret hx hb hr (fun t ht hW => ⟨⟨(), rfl, trivial, rf_mk ht hP hD⟩, hS.F ht⟩) hS.2.2 dX0_change_69
        · have hf := rf_ifn hf c4
          refine rf_tabD (tgt := 64) (ks := [0, 1, 2, 3]) hx hb dX0_change_1 (by intro z hz; simp only [List.mem_cons, List.not_mem_nil, or_false] at hz; rcases hz with rfl | rfl | rfl | rfl <;> assumption) (by decide) (by decide) ?_
          refine lv_aload_n hx hb dX0_change_64 rfl (lv_at hl 0 rfl) ?_
          refine lv_iload_n hx hb dX0_change_65 rfl (lv_at hl 2 rfl) ?_
          refine va_put (D := D) (ci := 0) (v := .int p2) (ty := .int) (C := RX0) (T := TX0) (N := 12) hx hb hts jX0_change_X0 tyX0 tyX0_ok nmX0 hown hK hP hD hS 0 rfl rfl 9 (by decide) (hts _ kX0_change_4) (fun _ h9 => h9) rfl (by decide +kernel) rfl rfl (Nat.le_of_ble_eq_true rfl) dX0_change_66 (fun H locs hP hD hS => ?_)
          have hP : va_P D vwCl [(a_this, .inr (0, rf_o0 a_this_kinds a_this_thicks (upd g_this 7 p2)))] H := hP
          have hD : va_D A [(a_this, .inr (0, rf_o0 a_this_kinds a_this_thicks (upd g_this 7 p2)))] := hD
          obtain rfl := Option.some.inj hf
          exact W.vret hx hb hr (fun t ht hW => ⟨⟨(), rfl, trivial, rf_mk ht hP hD⟩, hS.F ht⟩) hS.2.2 dX0_change_69
theorem kX0_takeSetting_0 : (.initialized RX2 : Cond) ∈ wsX0_takeSetting := by decide +kernel
theorem kX0_takeSetting_1 : (.static yX2_at : Cond) ∈ wsX0_takeSetting := by decide +kernel
set_option maxHeartbeats 8000000 in
set_option maxRecDepth 100000 in
theorem c_X0_takeSetting (l : Launch) (D : va_G) (cA : ClassId) (ad : Nat → Nat) (a_this a_this_kinds a_this_thicks : Nat) (sz : Nat) (g_this : Nat → Int32) (p1 p2 : Int32) (q : Int32 × (Nat → Int32)) (hf : f_X0_takeSetting g_this p1 p2 = some q) : Met l yX0_takeSetting wsX0_takeSetting ({ frames := 1, cells := 0, slots := 0, locals := 22 } : Room) (va_Pc [.ref a_this, .int p1, .int p2] (rf_Pre D cA ad [(a_this, .inr (0, rf_o0 a_this_kinds a_this_thicks g_this))] sz)) (va_Qi (fun (r : Int32) (_ : Unit) => r = q.1) (fun _ t => rf_Post D (va_A [(a_this, .inr (0, rf_o0 a_this_kinds a_this_thicks g_this))] sz) [(a_this, .inr (0, rf_o0 a_this_kinds a_this_thicks q.2))] t) (va_A [(a_this, .inr (0, rf_o0 a_this_kinds a_this_thicks g_this))] sz)) 0 0 (va_A [(a_this, .inr (0, rf_o0 a_this_kinds a_this_thicks g_this))] sz) := by
  refine Met.ofW (cc := cX0_takeSetting) (maxL := 3) (ret := (some .boolean)) (by decide) rfl ?_
  intro p e s m args below meth c s₁ B hml hv
  obtain ⟨rfl, hsz, hP, hK, hD0, hE⟩ := hv
  have hx := B.exec
  have hb := B.bytes
  have hr := B.returns
  have hts := atoms_spec (ws := wsX0_takeSetting) B.pre
  have hown : s.vm.findClass RX0 = some m.cls := findClass_of_methodNamed B.named
  have hlocks := B.notSynchronized
  subst hsz
  have hD := hD0.self (sz := s.heap.size)
  generalize hAe : va_A [(a_this, .inr (0, rf_o0 a_this_kinds a_this_thicks g_this))] s.heap.size = A at hD hE ⊢
  have hA : ∀ q : Nat, s.heap.size ≤ q → A q := fun q h => by rw [← hAe]; exact Or.inr h
  have hS : va_S A s.heap s.heap [] := va_S.rf
  have hP : va_P D vwCl [(a_this, .inr (0, rf_o0 a_this_kinds a_this_thicks g_this))] s.heap := hP
  have hl := lv_entry ([.ref a_this, .int p1, .int p2]) (n := 3) (Nat.le_of_ble_eq_true rfl)
  rw [lg_entry_eq]
  generalize (lg_sl ([.ref a_this, .int p1, .int p2]) ++ List.replicate (3 - (lg_sl ([.ref a_this, .int p1, .int p2])).length) Slot.unset).toArray = ls at hl ⊢
  have hl : lv_has ls 3 [(0, .ref a_this), (1, .int p1), (2, .int p2)] := hl
  rw [f_X0_takeSetting] at hf
  refine lv_iload_n hx hb dX0_takeSetting_0 rfl (lv_at hl 2 rfl) ?_
  refine va_getsN (v := .ref (ad 0)) (host := "RingAndFinger") hx hb (hE.2.2 0 _ rfl).1 hS hown (va_Nw.use rfl (hE.2.1 3 _ rfl)) (fun _ h9 => h9) dX0_takeSetting_1 ?_
  refine lv_iload_n hx hb dX0_takeSetting_4 rfl (lv_at hl 1 rfl) ?_
  obtain ⟨q1, hq1, hf⟩ := rf_bindq hf
  refine rf_NiT (As := [.ref (ad 0), .int p1]) (rest := [.int p2]) ⟨hx, hb, hml, hown, hts⟩ hK hP hD hS hA hE (c_X2_at_T l D cA ad (ad 0) s.heap.size 5 rf_a0 p1 q1 hq1) ⟨va_cnB (host := "RingAndFinger") 2 hts gX0_takeSetting_X2_at_n55 rfl rfl rfl (hE.1 0 _ rfl) (hts _ kX0_takeSetting_0) hn_X2_at ⟨Nat.le_of_ble_eq_true rfl, Nat.le_of_ble_eq_true rfl⟩, (hts _ kX0_takeSetting_1), trivial⟩ rfl rfl hl.1 (Nat.le_of_ble_eq_true rfl) dX0_takeSetting_5 ⟨Nat.zero_le _, Nat.zero_le _⟩ (hE.2.2 0 _ rfl).2 (fun H locs hP hD hS => ?_)
  refine lv_icmp_lt (tgt := 22) hx hb dX0_takeSetting_8 (by decide) (fun c2 => ?_) (fun c2 => ?_)
  · have hf := rf_ifp hf c2
    refine lv_iconst (v := 0) hx hb dX0_takeSetting_22 (by decide) ?_
    obtain rfl := Option.some.inj hf
    exact W.zret (v := 0) hx hb hr rfl (fun t ht hW => ⟨⟨0, (), rfl, rfl, rf_mk ht hP hD⟩, hS.F ht⟩) hS.2.2 dX0_takeSetting_23
  · have hf := rf_ifn hf c2
    refine lv_iload_n hx hb dX0_takeSetting_11 rfl (lv_at hl 2 rfl) ?_
    refine va_getsN (v := .ref (ad 1)) (host := "RingAndFinger") hx hb (hE.2.2 1 _ rfl).1 hS hown (va_Nw.use rfl (hE.2.1 4 _ rfl)) (fun _ h9 => h9) dX0_takeSetting_12 ?_
    refine lv_iload_n hx hb dX0_takeSetting_15 rfl (lv_at hl 1 rfl) ?_
    obtain ⟨q3, hq3, hf⟩ := rf_bindq hf
    refine rf_NiT (As := [.ref (ad 1), .int p1]) (rest := [.int p2]) ⟨hx, hb, hml, hown, hts⟩ hK hP hD hS hA hE (c_X2_at_T l D cA ad (ad 1) H.size 5 rf_a1 p1 q3 hq3) ⟨va_cnB (host := "RingAndFinger") 2 hts gX0_takeSetting_X2_at_n55 rfl rfl rfl (hE.1 0 _ rfl) (hts _ kX0_takeSetting_0) hn_X2_at ⟨Nat.le_of_ble_eq_true rfl, Nat.le_of_ble_eq_true rfl⟩, (hts _ kX0_takeSetting_1), trivial⟩ rfl rfl hl.1 (Nat.le_of_ble_eq_true rfl) dX0_takeSetting_16 ⟨Nat.zero_le _, Nat.zero_le _⟩ (hE.2.2 1 _ rfl).2 (fun H locs hP hD hS => ?_)
    refine lv_icmp_le (tgt := 24) hx hb dX0_takeSetting_19 (by decide) (fun c4 => ?_) (fun c4 => ?_)
    · have hf := rf_ifp hf c4
      refine lv_aload_n hx hb dX0_takeSetting_24 rfl (lv_at hl 0 rfl) ?_
      refine lv_iload_n hx hb dX0_takeSetting_25 rfl (lv_at hl 1 rfl) ?_
      refine lv_iload_n hx hb dX0_takeSetting_26 rfl (lv_at hl 2 rfl) ?_
      obtain ⟨q5, hq5, hf⟩ := rf_bindq hf
      refine rf_Vv (As := [.int p1, .int p2]) (rest := []) (wr := []) (wn := [(a_this, .inr (0, rf_o0 a_this_kinds a_this_thicks q5))]) ⟨hx, hb, hml, hown, hts⟩ hK hP hD hS hA hE (c_X0_change l D cA ad a_this a_this_kinds a_this_thicks H.size g_this p1 p2 q5 hq5) (cwV 2 hts gX0_takeSetting_X0_change rfl rfl rfl hv_X0_change ⟨Nat.le_of_ble_eq_true rfl, Nat.le_of_ble_eq_true rfl⟩) [0] [] [0] rfl rfl rfl rfl (by decide) rfl rfl 0 0 rfl rfl rfl rfl rfl hl.1 (Nat.le_of_ble_eq_true rfl) dX0_takeSetting_27 ⟨Nat.zero_le _, Nat.zero_le _⟩ (fun H locs hP hD hS => ?_)
      refine lv_iconst (v := 1) hx hb dX0_takeSetting_30 (by decide) ?_
      obtain rfl := Option.some.inj hf
      exact W.zret (v := 1) hx hb hr rfl (fun t ht hW => ⟨⟨1, (), rfl, rfl, rf_mk ht hP hD⟩, hS.F ht⟩) hS.2.2 dX0_takeSetting_31
    · have hf := rf_ifn hf c4
      refine lv_iconst (v := 0) hx hb dX0_takeSetting_22 (by decide) ?_
      obtain rfl := Option.some.inj hf
      exact W.zret (v := 0) hx hb hr rfl (fun t ht hW => ⟨⟨0, (), rfl, rfl, rf_mk ht hP hD⟩, hS.F ht⟩) hS.2.2 dX0_takeSetting_23

set_option maxHeartbeats 8000000 in
set_option maxRecDepth 100000 in
theorem c_X2_put (l : Launch) (D : va_G) (cA : ClassId) (ad : Nat → Nat) (a_o0 : Nat) (sz : Nat) (n_o0 : Nat) (f_o0 : Nat → Int32) (p1 p2 : Int32) (q : (Nat → Int32)) (hf : f_X2_put n_o0 f_o0 p1 p2 = some q) : Met l yX2_put wsX2_put ({ frames := 0, cells := 0, slots := 0, locals := 0 } : Room) (va_Pc [.ref a_o0, .int p1, .int p2] (rf_Pre D cA ad [(a_o0, .inl (cA, n_o0, .inl f_o0))] sz)) (va_Qv (fun (_ : Unit) => True) (fun _ t => rf_Post D (va_A [(a_o0, .inl (cA, n_o0, .inl f_o0))] sz) [(a_o0, .inl (cA, n_o0, .inl q))] t) (va_A [(a_o0, .inl (cA, n_o0, .inl f_o0))] sz)) 0 0 (va_A [(a_o0, .inl (cA, n_o0, .inl f_o0))] sz) := by
  refine Met.ofW (cc := cX2_put) (maxL := 3) (ret := none) (by decide) rfl ?_
  intro p e s m args below meth c s₁ B hml hv
  obtain ⟨rfl, hsz, hP, hK, hD0, hE⟩ := hv
  have hx := B.exec
  have hb := B.bytes
  have hr := B.returns
  have hts := atoms_spec (ws := wsX2_put) B.pre
  have hown : s.vm.findClass RX2 = some m.cls := findClass_of_methodNamed B.named
  have hlocks := B.notSynchronized
  subst hsz
  have hD := hD0.self (sz := s.heap.size)
  generalize hAe : va_A [(a_o0, .inl (cA, n_o0, .inl f_o0))] s.heap.size = A at hD hE ⊢
  have hA : ∀ q : Nat, s.heap.size ≤ q → A q := fun q h => by rw [← hAe]; exact Or.inr h
  have hS : va_S A s.heap s.heap [] := va_S.rf
  have hP : va_P D vwCl [(a_o0, .inl (cA, n_o0, .inl f_o0))] s.heap := hP
  have hl := lv_entry ([.ref a_o0, .int p1, .int p2]) (n := 3) (Nat.le_of_ble_eq_true rfl)
  rw [lg_entry_eq]
  generalize (lg_sl ([.ref a_o0, .int p1, .int p2]) ++ List.replicate (3 - (lg_sl ([.ref a_o0, .int p1, .int p2])).length) Slot.unset).toArray = ls at hl ⊢
  have hl : lv_has ls 3 [(0, .ref a_o0), (1, .int p1), (2, .int p2)] := hl
  rw [f_X2_put] at hf
  refine lv_iload_n hx hb dX2_put_0 rfl (lv_at hl 1 rfl) ?_
  refine lv_if_lt (tgt := 14) hx hb dX2_put_1 (by decide) (fun c1 => ?_) (fun c1 => ?_)
  · have hf := rf_ifp hf c1
    obtain rfl := Option.some.inj hf
    exact W.vret hx hb hr (fun t ht hW => ⟨⟨(), rfl, trivial, rf_mk ht hP hD⟩, hS.F ht⟩) hS.2.2 dX2_put_14
  · have hf := rf_ifn hf c1
    refine lv_iload_n hx hb dX2_put_4 rfl (lv_at hl 1 rfl) ?_
    refine lv_aload_n hx hb dX2_put_5 rfl (lv_at hl 0 rfl) ?_
    refine va_alen (v := (Int32.ofNat n_o0)) hx hb hK hP 0 0 rfl rfl rfl dX2_put_6 ?_
    refine lv_icmp_ge (tgt := 14) hx hb dX2_put_7 (by decide) (fun c2 => ?_) (fun c2 => ?_)
    · have hf := rf_ifp hf c2
      obtain rfl := Option.some.inj hf
      exact W.vret hx hb hr (fun t ht hW => ⟨⟨(), rfl, trivial, rf_mk ht hP hD⟩, hS.F ht⟩) hS.2.2 dX2_put_14
    · have hf := rf_ifn hf c2
      refine lv_aload_n hx hb dX2_put_10 rfl (lv_at hl 0 rfl) ?_
      refine lv_iload_n hx hb dX2_put_11 rfl (lv_at hl 1 rfl) ?_
      refine lv_iload_n hx hb dX2_put_12 rfl (lv_at hl 2 rfl) ?_
      obtain ⟨c3, hf⟩ := rf_chk hf
      refine va_iast hx hb hK hP hD hS 0 0 rfl rfl c3 dX2_put_13 (fun H locs hP hD hS => ?_)
      have hP : va_P D vwCl [(a_o0, .inl (cA, n_o0, .inl (upd f_o0 (p1.toNatClampNeg) p2)))] H := hP
      have hD : va_D A [(a_o0, .inl (cA, n_o0, .inl (upd f_o0 (p1.toNatClampNeg) p2)))] := hD
      obtain rfl := Option.some.inj hf
      exact W.vret hx hb hr (fun t ht hW => ⟨⟨(), rfl, trivial, rf_mk ht hP hD⟩, hS.F ht⟩) hS.2.2 dX2_put_14
theorem kX0_takePart_0 : (.fieldLink RX0 18 "RingAndFinger$Finger" "parts" "I" : Cond) ∈ wsX0_takePart := by decide +kernel
theorem kX0_takePart_1 : (.fieldLink RX0 9 "RingAndFinger$Finger" "kinds" "[I" : Cond) ∈ wsX0_takePart := by decide +kernel
theorem kX0_takePart_2 : (.initialized RX2 : Cond) ∈ wsX0_takePart := by decide +kernel
theorem kX0_takePart_3 : (.static yX2_put : Cond) ∈ wsX0_takePart := by decide +kernel
theorem kX0_takePart_4 : (.fieldLink RX0 15 "RingAndFinger$Finger" "thicks" "[I" : Cond) ∈ wsX0_takePart := by decide +kernel
theorem jX0_takePart_X0 : ∀ w ∈ u_ws RX0 TX0 12, w ∈ wsX0_takePart := by decide +kernel
set_option maxHeartbeats 8000000 in
set_option maxRecDepth 100000 in
theorem c_X0_takePart (l : Launch) (D : va_G) (cA : ClassId) (ad : Nat → Nat) (a_this a_this_kinds a_this_thicks : Nat) (sz : Nat) (g_this f_this_kinds f_this_thicks : Nat → Int32) (p1 p2 : Int32) (q : Int32 × (Nat → Int32) × (Nat → Int32) × (Nat → Int32)) (hf : f_X0_takePart g_this f_this_kinds f_this_thicks p1 p2 = some q) : Met l yX0_takePart wsX0_takePart ({ frames := 1, cells := 0, slots := 0, locals := 22 } : Room) (va_Pc [.ref a_this, .int p1, .int p2] (rf_Pre D cA ad [(a_this, .inr (0, rf_o0 a_this_kinds a_this_thicks g_this)), (a_this_kinds, .inl (cA, 6, .inl f_this_kinds)), (a_this_thicks, .inl (cA, 6, .inl f_this_thicks))] sz)) (va_Qi (fun (r : Int32) (_ : Unit) => r = q.1) (fun _ t => rf_Post D (va_A [(a_this, .inr (0, rf_o0 a_this_kinds a_this_thicks g_this)), (a_this_kinds, .inl (cA, 6, .inl f_this_kinds)), (a_this_thicks, .inl (cA, 6, .inl f_this_thicks))] sz) [(a_this, .inr (0, rf_o0 a_this_kinds a_this_thicks q.2.1)), (a_this_kinds, .inl (cA, 6, .inl q.2.2.1)), (a_this_thicks, .inl (cA, 6, .inl q.2.2.2))] t) (va_A [(a_this, .inr (0, rf_o0 a_this_kinds a_this_thicks g_this)), (a_this_kinds, .inl (cA, 6, .inl f_this_kinds)), (a_this_thicks, .inl (cA, 6, .inl f_this_thicks))] sz)) 0 0 (va_A [(a_this, .inr (0, rf_o0 a_this_kinds a_this_thicks g_this)), (a_this_kinds, .inl (cA, 6, .inl f_this_kinds)), (a_this_thicks, .inl (cA, 6, .inl f_this_thicks))] sz) := by
  refine Met.ofW (cc := cX0_takePart) (maxL := 4) (ret := (some .boolean)) (by decide) rfl ?_
  intro p e s m args below meth c s₁ B hml hv
  obtain ⟨rfl, hsz, hP, hK, hD0, hE⟩ := hv
  have hx := B.exec
  have hb := B.bytes
  have hr := B.returns
  have hts := atoms_spec (ws := wsX0_takePart) B.pre
  have hown : s.vm.findClass RX0 = some m.cls := findClass_of_methodNamed B.named
  have hlocks := B.notSynchronized
  subst hsz
  have hD := hD0.self (sz := s.heap.size)
  generalize hAe : va_A [(a_this, .inr (0, rf_o0 a_this_kinds a_this_thicks g_this)), (a_this_kinds, .inl (cA, 6, .inl f_this_kinds)), (a_this_thicks, .inl (cA, 6, .inl f_this_thicks))] s.heap.size = A at hD hE ⊢
  have hA : ∀ q : Nat, s.heap.size ≤ q → A q := fun q h => by rw [← hAe]; exact Or.inr h
  have hS : va_S A s.heap s.heap [] := va_S.rf
  have hP : va_P D vwCl [(a_this, .inr (0, rf_o0 a_this_kinds a_this_thicks g_this)), (a_this_kinds, .inl (cA, 6, .inl f_this_kinds)), (a_this_thicks, .inl (cA, 6, .inl f_this_thicks))] s.heap := hP
  have hl := lv_entry ([.ref a_this, .int p1, .int p2]) (n := 4) (Nat.le_of_ble_eq_true rfl)
  rw [lg_entry_eq]
  generalize (lg_sl ([.ref a_this, .int p1, .int p2]) ++ List.replicate (4 - (lg_sl ([.ref a_this, .int p1, .int p2])).length) Slot.unset).toArray = ls at hl ⊢
  have hl : lv_has ls 4 [(0, .ref a_this), (1, .int p1), (2, .int p2)] := hl
  rw [f_X0_takePart] at hf
  refine lv_aload_n hx hb dX0_takePart_0 rfl (lv_at hl 0 rfl) ?_
  refine va_get (D := D) (ci := 0) (v := .int (g_this 0)) (C := RX0) (T := TX0) (N := 12) hx hb hts jX0_takePart_X0 hown hK hP 0 rfl rfl 2 (by decide) (hts _ kX0_takePart_0) (fun _ h9 => h9) rfl dX0_takePart_1 ?_
  refine lv_if_le (tgt := 18) hx hb dX0_takePart_4 (by decide) (fun c1 => ?_) (fun c1 => ?_)
  · have hf := rf_ifp hf c1
    refine lv_iconst (v := 0) hx hb dX0_takePart_18 (by decide) ?_
    refine lv_istore_n (lv' := [(3, .int 0), (0, .ref a_this), (1, .int p1), (2, .int p2)]) hx hb dX0_takePart_19 rfl hl (by decide) rfl (fun ls hl => ?_)
    refine lv_iload_n hx hb dX0_takePart_20 rfl (lv_at hl 3 rfl) ?_
    refine lv_sipush (v := 240) hx hb dX0_takePart_21 (by decide) ?_
    refine lv_icmp_gt (tgt := 40) hx hb dX0_takePart_24 (by decide) (fun c2 => ?_) (fun c2 => ?_)
    · have hf := rf_ifp hf c2
      refine lv_iconst (v := 0) hx hb dX0_takePart_40 (by decide) ?_
      obtain rfl := Option.some.inj hf
      exact W.zret (v := 0) hx hb hr rfl (fun t ht hW => ⟨⟨0, (), rfl, rfl, rf_mk ht hP hD⟩, hS.F ht⟩) hS.2.2 dX0_takePart_41
    · have hf := rf_ifn hf c2
      refine lv_iload_n hx hb dX0_takePart_27 rfl (lv_at hl 0 rfl) ?_
      refine lv_if_ne (tgt := 40) hx hb dX0_takePart_28 (by decide) (fun c3 => ?_) (fun c3 => ?_)
      · exact absurd c3 (by decide)
      · refine lv_aload_n hx hb dX0_takePart_31 rfl (lv_at hl 1 rfl) ?_
        refine va_get (D := D) (ci := 0) (v := .int (g_this 0)) (C := RX0) (T := TX0) (N := 12) hx hb hts jX0_takePart_X0 hown hK hP 0 rfl rfl 2 (by decide) (hts _ kX0_takePart_0) (fun _ h9 => h9) rfl dX0_takePart_32 ?_
        refine lv_bipush (v := 6) hx hb dX0_takePart_35 (by decide) ?_
        refine lv_icmp_lt (tgt := 42) hx hb dX0_takePart_37 (by decide) (fun c4 => ?_) (fun c4 => ?_)
        · have hf := rf_ifp hf c4
          refine lv_aload_n hx hb dX0_takePart_42 rfl (lv_at hl 1 rfl) ?_
          refine va_get (D := D) (ci := 0) (v := .ref a_this_kinds) (C := RX0) (T := TX0) (N := 12) hx hb hts jX0_takePart_X0 hown hK hP 0 rfl rfl 0 (by decide) (hts _ kX0_takePart_1) (fun _ h9 => h9) rfl dX0_takePart_43 ?_
          refine lv_aload_n hx hb dX0_takePart_46 rfl (lv_at hl 1 rfl) ?_
          refine va_get (D := D) (ci := 0) (v := .int (g_this 0)) (C := RX0) (T := TX0) (N := 12) hx hb hts jX0_takePart_X0 hown hK hP 0 rfl rfl 2 (by decide) (hts _ kX0_takePart_0) (fun _ h9 => h9) rfl dX0_takePart_47 ?_
          refine lv_iload_n hx hb dX0_takePart_50 rfl (lv_at hl 2 rfl) ?_
          obtain ⟨q5, hq5, hf⟩ := rf_bindq hf
          refine rf_Nv (As := [.ref a_this_kinds, .int (g_this 0), .int p1]) (rest := []) (wr := [(a_this, .inr (0, rf_o0 a_this_kinds a_this_thicks g_this)), (a_this_thicks, .inl (cA, 6, .inl f_this_thicks))]) (wn := [(a_this, .inr (0, rf_o0 a_this_kinds a_this_thicks g_this)), (a_this_kinds, .inl (cA, 6, .inl q5)), (a_this_thicks, .inl (cA, 6, .inl f_this_thicks))]) ⟨hx, hb, hml, hown, hts⟩ hK hP hD hS hA hE (c_X2_put l D cA ad a_this_kinds s.heap.size 6 f_this_kinds (g_this 0) p1 q5 hq5) ⟨va_cnB (host := "RingAndFinger") 3 hts gX0_takePart_X2_put_n86 rfl rfl rfl (hE.1 3 _ rfl) (hts _ kX0_takePart_2) hn_X2_put ⟨Nat.le_of_ble_eq_true rfl, Nat.le_of_ble_eq_true rfl⟩, (hts _ kX0_takePart_3), trivial⟩ [1] [0, 2] [0, 2, 1] rfl rfl rfl rfl (by decide) rfl rfl rfl rfl hl.1 (Nat.le_of_ble_eq_true rfl) dX0_takePart_51 ⟨Nat.zero_le _, Nat.zero_le _⟩ (fun H locs hP hD hS => ?_)
          refine lv_aload_n hx hb dX0_takePart_54 rfl (lv_at hl 1 rfl) ?_
          refine va_get (D := D) (ci := 0) (v := .ref a_this_thicks) (C := RX0) (T := TX0) (N := 12) hx hb hts jX0_takePart_X0 hown hK hP 0 rfl rfl 1 (by decide) (hts _ kX0_takePart_4) (fun _ h9 => h9) rfl dX0_takePart_55 ?_
          refine lv_aload_n hx hb dX0_takePart_58 rfl (lv_at hl 1 rfl) ?_
          refine va_get (D := D) (ci := 0) (v := .int (g_this 0)) (C := RX0) (T := TX0) (N := 12) hx hb hts jX0_takePart_X0 hown hK hP 0 rfl rfl 2 (by decide) (hts _ kX0_takePart_0) (fun _ h9 => h9) rfl dX0_takePart_59 ?_
          refine lv_iload_n hx hb dX0_takePart_62 rfl (lv_at hl 3 rfl) ?_
          obtain ⟨q6, hq6, hf⟩ := rf_bindq hf
          refine rf_Nv (As := [.ref a_this_thicks, .int (g_this 0), .int p2]) (rest := []) (wr := [(a_this, .inr (0, rf_o0 a_this_kinds a_this_thicks g_this)), (a_this_kinds, .inl (cA, 6, .inl q5))]) (wn := [(a_this, .inr (0, rf_o0 a_this_kinds a_this_thicks g_this)), (a_this_kinds, .inl (cA, 6, .inl q5)), (a_this_thicks, .inl (cA, 6, .inl q6))]) ⟨hx, hb, hml, hown, hts⟩ hK hP hD hS hA hE (c_X2_put l D cA ad a_this_thicks H.size 6 f_this_thicks (g_this 0) p2 q6 hq6) ⟨va_cnB (host := "RingAndFinger") 3 hts gX0_takePart_X2_put_n86 rfl rfl rfl (hE.1 3 _ rfl) (hts _ kX0_takePart_2) hn_X2_put ⟨Nat.le_of_ble_eq_true rfl, Nat.le_of_ble_eq_true rfl⟩, (hts _ kX0_takePart_3), trivial⟩ [2] [0, 1] [0, 1, 2] rfl rfl rfl rfl (by decide) rfl rfl rfl rfl hl.1 (Nat.le_of_ble_eq_true rfl) dX0_takePart_63 ⟨Nat.zero_le _, Nat.zero_le _⟩ (fun H locs hP hD hS => ?_)
          refine lv_aload_n hx hb dX0_takePart_66 rfl (lv_at hl 1 rfl) ?_
          refine lv_dup hx hb dX0_takePart_67 rfl ?_
          refine va_get (D := D) (ci := 0) (v := .int (g_this 0)) (C := RX0) (T := TX0) (N := 12) hx hb hts jX0_takePart_X0 hown hK hP 0 rfl rfl 2 (by decide) (hts _ kX0_takePart_0) (fun _ h9 => h9) rfl dX0_takePart_68 ?_
          refine lv_iconst (v := 1) hx hb dX0_takePart_71 (by decide) ?_
          refine lv_iadd hx hb dX0_takePart_72 ?_
          refine lv_topi (fun v7 ev7 => ?_)
          have hf := rf_bindv hf ev7
          clear ev7
          refine va_put (D := D) (ci := 0) (v := .int v7) (ty := .int) (C := RX0) (T := TX0) (N := 12) hx hb hts jX0_takePart_X0 tyX0 tyX0_ok nmX0 hown hK hP hD hS 0 rfl rfl 2 (by decide) (hts _ kX0_takePart_0) (fun _ h9 => h9) rfl (by decide +kernel) rfl rfl (Nat.le_of_ble_eq_true rfl) dX0_takePart_73 (fun H locs hP hD hS => ?_)
          have hP : va_P D vwCl [(a_this, .inr (0, rf_o0 a_this_kinds a_this_thicks (upd g_this 0 v7))), (a_this_kinds, .inl (cA, 6, .inl q5)), (a_this_thicks, .inl (cA, 6, .inl q6))] H := hP
          have hD : va_D A [(a_this, .inr (0, rf_o0 a_this_kinds a_this_thicks (upd g_this 0 v7))), (a_this_kinds, .inl (cA, 6, .inl q5)), (a_this_thicks, .inl (cA, 6, .inl q6))] := hD
          refine lv_iconst (v := 1) hx hb dX0_takePart_76 (by decide) ?_
          obtain rfl := Option.some.inj hf
          exact W.zret (v := 1) hx hb hr rfl (fun t ht hW => ⟨⟨1, (), rfl, rfl, rf_mk ht hP hD⟩, hS.F ht⟩) hS.2.2 dX0_takePart_77
        · have hf := rf_ifn hf c4
          refine lv_iconst (v := 0) hx hb dX0_takePart_40 (by decide) ?_
          obtain rfl := Option.some.inj hf
          exact W.zret (v := 0) hx hb hr rfl (fun t ht hW => ⟨⟨0, (), rfl, rfl, rf_mk ht hP hD⟩, hS.F ht⟩) hS.2.2 dX0_takePart_41
  · have hf := rf_ifn hf c1
    refine lv_aload_n hx hb dX0_takePart_7 rfl (lv_at hl 0 rfl) ?_
    obtain ⟨q8, hq8, hf⟩ := rf_bindq hf
    refine rf_Vi (As := []) (rest := []) (wr := [(a_this_kinds, .inl (cA, 6, .inl f_this_kinds)), (a_this_thicks, .inl (cA, 6, .inl f_this_thicks))]) (wn := [(a_this, .inr (0, rf_o0 a_this_kinds a_this_thicks g_this)), (a_this_kinds, .inl (cA, 6, .inl f_this_kinds)), (a_this_thicks, .inl (cA, 6, .inl f_this_thicks))]) ⟨hx, hb, hml, hown, hts⟩ hK hP hD hS hA hE (c_X0_isOff l D cA ad a_this a_this_kinds a_this_thicks s.heap.size g_this q8 hq8) (cwV 0 hts gX0_takePart_X0_isOff rfl rfl rfl hv_X0_isOff ⟨Nat.le_of_ble_eq_true rfl, Nat.le_of_ble_eq_true rfl⟩) [0] [1, 2] [2, 0, 1] rfl rfl rfl rfl (by decide) rfl rfl 0 0 rfl rfl rfl rfl rfl hl.1 (Nat.le_of_ble_eq_true rfl) dX0_takePart_8 ⟨Nat.zero_le _, Nat.zero_le _⟩ (fun H locs hP hD hS => ?_)
    refine lv_if_eq (tgt := 18) hx hb dX0_takePart_11 (by decide) (fun c9 => ?_) (fun c9 => ?_)
    · have hf := rf_ifp hf c9
      refine lv_iconst (v := 0) hx hb dX0_takePart_18 (by decide) ?_
      refine lv_istore_n (lv' := [(3, .int 0), (0, .ref a_this), (1, .int p1), (2, .int p2)]) hx hb dX0_takePart_19 rfl hl (by decide) rfl (fun ls hl => ?_)
      refine lv_iload_n hx hb dX0_takePart_20 rfl (lv_at hl 3 rfl) ?_
      refine lv_sipush (v := 240) hx hb dX0_takePart_21 (by decide) ?_
      refine lv_icmp_gt (tgt := 40) hx hb dX0_takePart_24 (by decide) (fun c10 => ?_) (fun c10 => ?_)
      · have hf := rf_ifp hf c10
        refine lv_iconst (v := 0) hx hb dX0_takePart_40 (by decide) ?_
        obtain rfl := Option.some.inj hf
        exact W.zret (v := 0) hx hb hr rfl (fun t ht hW => ⟨⟨0, (), rfl, rfl, rf_mk ht hP hD⟩, hS.F ht⟩) hS.2.2 dX0_takePart_41
      · have hf := rf_ifn hf c10
        refine lv_iload_n hx hb dX0_takePart_27 rfl (lv_at hl 0 rfl) ?_
        refine lv_if_ne (tgt := 40) hx hb dX0_takePart_28 (by decide) (fun c11 => ?_) (fun c11 => ?_)
        · exact absurd c11 (by decide)
        · refine lv_aload_n hx hb dX0_takePart_31 rfl (lv_at hl 1 rfl) ?_
          refine va_get (D := D) (ci := 0) (v := .int (g_this 0)) (C := RX0) (T := TX0) (N := 12) hx hb hts jX0_takePart_X0 hown hK hP 0 rfl rfl 2 (by decide) (hts _ kX0_takePart_0) (fun _ h9 => h9) rfl dX0_takePart_32 ?_
          refine lv_bipush (v := 6) hx hb dX0_takePart_35 (by decide) ?_
          refine lv_icmp_lt (tgt := 42) hx hb dX0_takePart_37 (by decide) (fun c12 => ?_) (fun c12 => ?_)
          · have hf := rf_ifp hf c12
            refine lv_aload_n hx hb dX0_takePart_42 rfl (lv_at hl 1 rfl) ?_
            refine va_get (D := D) (ci := 0) (v := .ref a_this_kinds) (C := RX0) (T := TX0) (N := 12) hx hb hts jX0_takePart_X0 hown hK hP 0 rfl rfl 0 (by decide) (hts _ kX0_takePart_1) (fun _ h9 => h9) rfl dX0_takePart_43 ?_
            refine lv_aload_n hx hb dX0_takePart_46 rfl (lv_at hl 1 rfl) ?_
            refine va_get (D := D) (ci := 0) (v := .int (g_this 0)) (C := RX0) (T := TX0) (N := 12) hx hb hts jX0_takePart_X0 hown hK hP 0 rfl rfl 2 (by decide) (hts _ kX0_takePart_0) (fun _ h9 => h9) rfl dX0_takePart_47 ?_
            refine lv_iload_n hx hb dX0_takePart_50 rfl (lv_at hl 2 rfl) ?_
            obtain ⟨q13, hq13, hf⟩ := rf_bindq hf
            refine rf_Nv (As := [.ref a_this_kinds, .int (g_this 0), .int p1]) (rest := []) (wr := [(a_this, .inr (0, rf_o0 a_this_kinds a_this_thicks g_this)), (a_this_thicks, .inl (cA, 6, .inl f_this_thicks))]) (wn := [(a_this, .inr (0, rf_o0 a_this_kinds a_this_thicks g_this)), (a_this_kinds, .inl (cA, 6, .inl q13)), (a_this_thicks, .inl (cA, 6, .inl f_this_thicks))]) ⟨hx, hb, hml, hown, hts⟩ hK hP hD hS hA hE (c_X2_put l D cA ad a_this_kinds H.size 6 f_this_kinds (g_this 0) p1 q13 hq13) ⟨va_cnB (host := "RingAndFinger") 3 hts gX0_takePart_X2_put_n86 rfl rfl rfl (hE.1 3 _ rfl) (hts _ kX0_takePart_2) hn_X2_put ⟨Nat.le_of_ble_eq_true rfl, Nat.le_of_ble_eq_true rfl⟩, (hts _ kX0_takePart_3), trivial⟩ [1] [0, 2] [0, 2, 1] rfl rfl rfl rfl (by decide) rfl rfl rfl rfl hl.1 (Nat.le_of_ble_eq_true rfl) dX0_takePart_51 ⟨Nat.zero_le _, Nat.zero_le _⟩ (fun H locs hP hD hS => ?_)
            refine lv_aload_n hx hb dX0_takePart_54 rfl (lv_at hl 1 rfl) ?_
            refine va_get (D := D) (ci := 0) (v := .ref a_this_thicks) (C := RX0) (T := TX0) (N := 12) hx hb hts jX0_takePart_X0 hown hK hP 0 rfl rfl 1 (by decide) (hts _ kX0_takePart_4) (fun _ h9 => h9) rfl dX0_takePart_55 ?_
            refine lv_aload_n hx hb dX0_takePart_58 rfl (lv_at hl 1 rfl) ?_
            refine va_get (D := D) (ci := 0) (v := .int (g_this 0)) (C := RX0) (T := TX0) (N := 12) hx hb hts jX0_takePart_X0 hown hK hP 0 rfl rfl 2 (by decide) (hts _ kX0_takePart_0) (fun _ h9 => h9) rfl dX0_takePart_59 ?_
            refine lv_iload_n hx hb dX0_takePart_62 rfl (lv_at hl 3 rfl) ?_
            obtain ⟨q14, hq14, hf⟩ := rf_bindq hf
            refine rf_Nv (As := [.ref a_this_thicks, .int (g_this 0), .int p2]) (rest := []) (wr := [(a_this, .inr (0, rf_o0 a_this_kinds a_this_thicks g_this)), (a_this_kinds, .inl (cA, 6, .inl q13))]) (wn := [(a_this, .inr (0, rf_o0 a_this_kinds a_this_thicks g_this)), (a_this_kinds, .inl (cA, 6, .inl q13)), (a_this_thicks, .inl (cA, 6, .inl q14))]) ⟨hx, hb, hml, hown, hts⟩ hK hP hD hS hA hE (c_X2_put l D cA ad a_this_thicks H.size 6 f_this_thicks (g_this 0) p2 q14 hq14) ⟨va_cnB (host := "RingAndFinger") 3 hts gX0_takePart_X2_put_n86 rfl rfl rfl (hE.1 3 _ rfl) (hts _ kX0_takePart_2) hn_X2_put ⟨Nat.le_of_ble_eq_true rfl, Nat.le_of_ble_eq_true rfl⟩, (hts _ kX0_takePart_3), trivial⟩ [2] [0, 1] [0, 1, 2] rfl rfl rfl rfl (by decide) rfl rfl rfl rfl hl.1 (Nat.le_of_ble_eq_true rfl) dX0_takePart_63 ⟨Nat.zero_le _, Nat.zero_le _⟩ (fun H locs hP hD hS => ?_)
            refine lv_aload_n hx hb dX0_takePart_66 rfl (lv_at hl 1 rfl) ?_
            refine lv_dup hx hb dX0_takePart_67 rfl ?_
            refine va_get (D := D) (ci := 0) (v := .int (g_this 0)) (C := RX0) (T := TX0) (N := 12) hx hb hts jX0_takePart_X0 hown hK hP 0 rfl rfl 2 (by decide) (hts _ kX0_takePart_0) (fun _ h9 => h9) rfl dX0_takePart_68 ?_
            refine lv_iconst (v := 1) hx hb dX0_takePart_71 (by decide) ?_
            refine lv_iadd hx hb dX0_takePart_72 ?_
            refine lv_topi (fun v15 ev15 => ?_)
            have hf := rf_bindv hf ev15
            clear ev15
            refine va_put (D := D) (ci := 0) (v := .int v15) (ty := .int) (C := RX0) (T := TX0) (N := 12) hx hb hts jX0_takePart_X0 tyX0 tyX0_ok nmX0 hown hK hP hD hS 0 rfl rfl 2 (by decide) (hts _ kX0_takePart_0) (fun _ h9 => h9) rfl (by decide +kernel) rfl rfl (Nat.le_of_ble_eq_true rfl) dX0_takePart_73 (fun H locs hP hD hS => ?_)
            have hP : va_P D vwCl [(a_this, .inr (0, rf_o0 a_this_kinds a_this_thicks (upd g_this 0 v15))), (a_this_kinds, .inl (cA, 6, .inl q13)), (a_this_thicks, .inl (cA, 6, .inl q14))] H := hP
            have hD : va_D A [(a_this, .inr (0, rf_o0 a_this_kinds a_this_thicks (upd g_this 0 v15))), (a_this_kinds, .inl (cA, 6, .inl q13)), (a_this_thicks, .inl (cA, 6, .inl q14))] := hD
            refine lv_iconst (v := 1) hx hb dX0_takePart_76 (by decide) ?_
            obtain rfl := Option.some.inj hf
            exact W.zret (v := 1) hx hb hr rfl (fun t ht hW => ⟨⟨1, (), rfl, rfl, rf_mk ht hP hD⟩, hS.F ht⟩) hS.2.2 dX0_takePart_77
          · have hf := rf_ifn hf c12
            refine lv_iconst (v := 0) hx hb dX0_takePart_40 (by decide) ?_
            obtain rfl := Option.some.inj hf
            exact W.zret (v := 0) hx hb hr rfl (fun t ht hW => ⟨⟨0, (), rfl, rfl, rf_mk ht hP hD⟩, hS.F ht⟩) hS.2.2 dX0_takePart_41
    · have hf := rf_ifn hf c9
      refine lv_iconst (v := 1) hx hb dX0_takePart_14 (by decide) ?_
      refine lv_goto (tgt := 19) hx hb dX0_takePart_15 (by decide) ?_
      refine lv_istore_n (lv' := [(3, .int 1), (0, .ref a_this), (1, .int p1), (2, .int p2)]) hx hb dX0_takePart_19 rfl hl (by decide) rfl (fun ls hl => ?_)
      refine lv_iload_n hx hb dX0_takePart_20 rfl (lv_at hl 3 rfl) ?_
      refine lv_sipush (v := 240) hx hb dX0_takePart_21 (by decide) ?_
      refine lv_icmp_gt (tgt := 40) hx hb dX0_takePart_24 (by decide) (fun c16 => ?_) (fun c16 => ?_)
      · have hf := rf_ifp hf c16
        refine lv_iconst (v := 0) hx hb dX0_takePart_40 (by decide) ?_
        obtain rfl := Option.some.inj hf
        exact W.zret (v := 0) hx hb hr rfl (fun t ht hW => ⟨⟨0, (), rfl, rfl, rf_mk ht hP hD⟩, hS.F ht⟩) hS.2.2 dX0_takePart_41
      · have hf := rf_ifn hf c16
        refine lv_iload_n hx hb dX0_takePart_27 rfl (lv_at hl 0 rfl) ?_
        refine lv_if_ne (tgt := 40) hx hb dX0_takePart_28 (by decide) (fun c17 => ?_) (fun c17 => ?_)
        · refine lv_iconst (v := 0) hx hb dX0_takePart_40 (by decide) ?_
          obtain rfl := Option.some.inj hf
          exact W.zret (v := 0) hx hb hr rfl (fun t ht hW => ⟨⟨0, (), rfl, rfl, rf_mk ht hP hD⟩, hS.F ht⟩) hS.2.2 dX0_takePart_41
        · exact absurd c17 (by decide)

set_option maxHeartbeats 8000000 in
set_option maxRecDepth 100000 in
theorem c_X2_isTry (l : Launch) (D : va_G) (cA : ClassId) (ad : Nat → Nat) (sz : Nat) (p0 : Int32) (q : Int32) (hf : f_X2_isTry p0 = some q) : Met l yX2_isTry wsX2_isTry ({ frames := 0, cells := 0, slots := 0, locals := 0 } : Room) (va_Pc [.int p0] (rf_Pre D cA ad [] sz)) (va_Qi (fun (r : Int32) (_ : Unit) => r = q) (fun _ t => rf_Post D (va_A [] sz) [] t) (va_A [] sz)) 0 0 (va_A [] sz) := by
  refine Met.ofW (cc := cX2_isTry) (maxL := 1) (ret := (some .boolean)) (by decide) rfl ?_
  intro p e s m args below meth c s₁ B hml hv
  obtain ⟨rfl, hsz, hP, hK, hD0, hE⟩ := hv
  have hx := B.exec
  have hb := B.bytes
  have hr := B.returns
  have hts := atoms_spec (ws := wsX2_isTry) B.pre
  have hown : s.vm.findClass RX2 = some m.cls := findClass_of_methodNamed B.named
  have hlocks := B.notSynchronized
  subst hsz
  have hD := hD0.self (sz := s.heap.size)
  generalize hAe : va_A [] s.heap.size = A at hD hE ⊢
  have hA : ∀ q : Nat, s.heap.size ≤ q → A q := fun q h => by rw [← hAe]; exact Or.inr h
  have hS : va_S A s.heap s.heap [] := va_S.rf
  have hP : va_P D vwCl [] s.heap := hP
  have hl := lv_entry ([.int p0]) (n := 1) (Nat.le_of_ble_eq_true rfl)
  rw [lg_entry_eq]
  generalize (lg_sl ([.int p0]) ++ List.replicate (1 - (lg_sl ([.int p0])).length) Slot.unset).toArray = ls at hl ⊢
  have hl : lv_has ls 1 [(0, .int p0)] := hl
  rw [f_X2_isTry] at hf
  refine lv_iload_n hx hb dX2_isTry_0 rfl (lv_at hl 0 rfl) ?_
  refine lv_if_lt (tgt := 14) hx hb dX2_isTry_1 (by decide) (fun c1 => ?_) (fun c1 => ?_)
  · have hf := rf_ifp hf c1
    refine lv_iconst (v := 0) hx hb dX2_isTry_14 (by decide) ?_
    obtain rfl := Option.some.inj hf
    exact W.zret (v := 0) hx hb hr rfl (fun t ht hW => ⟨⟨0, (), rfl, rfl, rf_mk ht hP hD⟩, hS.F ht⟩) hS.2.2 dX2_isTry_15
  · have hf := rf_ifn hf c1
    refine lv_iload_n hx hb dX2_isTry_4 rfl (lv_at hl 0 rfl) ?_
    refine lv_bipush (v := 6) hx hb dX2_isTry_5 (by decide) ?_
    refine lv_icmp_gt (tgt := 14) hx hb dX2_isTry_7 (by decide) (fun c2 => ?_) (fun c2 => ?_)
    · have hf := rf_ifp hf c2
      refine lv_iconst (v := 0) hx hb dX2_isTry_14 (by decide) ?_
      obtain rfl := Option.some.inj hf
      exact W.zret (v := 0) hx hb hr rfl (fun t ht hW => ⟨⟨0, (), rfl, rfl, rf_mk ht hP hD⟩, hS.F ht⟩) hS.2.2 dX2_isTry_15
    · have hf := rf_ifn hf c2
      refine lv_iconst (v := 1) hx hb dX2_isTry_10 (by decide) ?_
      refine lv_goto (tgt := 15) hx hb dX2_isTry_11 (by decide) ?_
      obtain rfl := Option.some.inj hf
      exact W.zret (v := 1) hx hb hr rfl (fun t ht hW => ⟨⟨1, (), rfl, rfl, rf_mk ht hP hD⟩, hS.F ht⟩) hS.2.2 dX2_isTry_15
theorem kX0_takeTry_0 : (.initialized RX2 : Cond) ∈ wsX0_takeTry := by decide +kernel
theorem kX0_takeTry_1 : (.static yX2_isTry : Cond) ∈ wsX0_takeTry := by decide +kernel
theorem kX0_takeTry_2 : (.static yX2_at : Cond) ∈ wsX0_takeTry := by decide +kernel
set_option maxHeartbeats 8000000 in
set_option maxRecDepth 100000 in
theorem c_X0_takeTry (l : Launch) (D : va_G) (cA : ClassId) (ad : Nat → Nat) (a_this a_this_kinds a_this_thicks : Nat) (sz : Nat) (g_this f_this_kinds f_this_thicks : Nat → Int32) (p1 : Int32) (q : Int32 × (Nat → Int32)) (hf : f_X0_takeTry g_this f_this_kinds f_this_thicks p1 = some q) : Met l yX0_takeTry wsX0_takeTry ({ frames := 4, cells := 0, slots := 0, locals := 91 } : Room) (va_Pc [.ref a_this, .int p1] (rf_Pre D cA ad [(a_this, .inr (0, rf_o0 a_this_kinds a_this_thicks g_this)), (a_this_kinds, .inl (cA, 6, .inl f_this_kinds)), (a_this_thicks, .inl (cA, 6, .inl f_this_thicks))] sz)) (va_Qi (fun (r : Int32) (_ : Unit) => r = q.1) (fun _ t => rf_Post D (va_A [(a_this, .inr (0, rf_o0 a_this_kinds a_this_thicks g_this)), (a_this_kinds, .inl (cA, 6, .inl f_this_kinds)), (a_this_thicks, .inl (cA, 6, .inl f_this_thicks))] sz) [(a_this, .inr (0, rf_o0 a_this_kinds a_this_thicks q.2)), (a_this_kinds, .inl (cA, 6, .inl f_this_kinds)), (a_this_thicks, .inl (cA, 6, .inl f_this_thicks))] t) (va_A [(a_this, .inr (0, rf_o0 a_this_kinds a_this_thicks g_this)), (a_this_kinds, .inl (cA, 6, .inl f_this_kinds)), (a_this_thicks, .inl (cA, 6, .inl f_this_thicks))] sz)) 0 0 (va_A [(a_this, .inr (0, rf_o0 a_this_kinds a_this_thicks g_this)), (a_this_kinds, .inl (cA, 6, .inl f_this_kinds)), (a_this_thicks, .inl (cA, 6, .inl f_this_thicks))] sz) := by
  refine Met.ofW (cc := cX0_takeTry) (maxL := 2) (ret := (some .boolean)) (by decide) rfl ?_
  intro p e s m args below meth c s₁ B hml hv
  obtain ⟨rfl, hsz, hP, hK, hD0, hE⟩ := hv
  have hx := B.exec
  have hb := B.bytes
  have hr := B.returns
  have hts := atoms_spec (ws := wsX0_takeTry) B.pre
  have hown : s.vm.findClass RX0 = some m.cls := findClass_of_methodNamed B.named
  have hlocks := B.notSynchronized
  subst hsz
  have hD := hD0.self (sz := s.heap.size)
  generalize hAe : va_A [(a_this, .inr (0, rf_o0 a_this_kinds a_this_thicks g_this)), (a_this_kinds, .inl (cA, 6, .inl f_this_kinds)), (a_this_thicks, .inl (cA, 6, .inl f_this_thicks))] s.heap.size = A at hD hE ⊢
  have hA : ∀ q : Nat, s.heap.size ≤ q → A q := fun q h => by rw [← hAe]; exact Or.inr h
  have hS : va_S A s.heap s.heap [] := va_S.rf
  have hP : va_P D vwCl [(a_this, .inr (0, rf_o0 a_this_kinds a_this_thicks g_this)), (a_this_kinds, .inl (cA, 6, .inl f_this_kinds)), (a_this_thicks, .inl (cA, 6, .inl f_this_thicks))] s.heap := hP
  have hl := lv_entry ([.ref a_this, .int p1]) (n := 2) (Nat.le_of_ble_eq_true rfl)
  rw [lg_entry_eq]
  generalize (lg_sl ([.ref a_this, .int p1]) ++ List.replicate (2 - (lg_sl ([.ref a_this, .int p1])).length) Slot.unset).toArray = ls at hl ⊢
  have hl : lv_has ls 2 [(0, .ref a_this), (1, .int p1)] := hl
  rw [f_X0_takeTry] at hf
  refine lv_iload_n hx hb dX0_takeTry_0 rfl (lv_at hl 1 rfl) ?_
  obtain ⟨q1, hq1, hf⟩ := rf_bindq hf
  refine rf_Ni (As := [.int p1]) (rest := []) (wr := [(a_this, .inr (0, rf_o0 a_this_kinds a_this_thicks g_this)), (a_this_kinds, .inl (cA, 6, .inl f_this_kinds)), (a_this_thicks, .inl (cA, 6, .inl f_this_thicks))]) (wn := [(a_this, .inr (0, rf_o0 a_this_kinds a_this_thicks g_this)), (a_this_kinds, .inl (cA, 6, .inl f_this_kinds)), (a_this_thicks, .inl (cA, 6, .inl f_this_thicks))]) ⟨hx, hb, hml, hown, hts⟩ hK hP hD hS hA hE (c_X2_isTry l D cA ad s.heap.size p1 q1 hq1) ⟨va_cnB (host := "RingAndFinger") 1 hts gX0_takeTry_X2_isTry_n107 rfl rfl rfl (hE.1 4 _ rfl) (hts _ kX0_takeTry_0) hn_X2_isTry ⟨Nat.le_of_ble_eq_true rfl, Nat.le_of_ble_eq_true rfl⟩, (hts _ kX0_takeTry_1), trivial⟩ [] [0, 1, 2] [0, 1, 2] rfl rfl rfl rfl (by decide) rfl rfl rfl rfl hl.1 (Nat.le_of_ble_eq_true rfl) dX0_takeTry_1 ⟨Nat.zero_le _, Nat.zero_le _⟩ (fun H locs hP hD hS => ?_)
  refine lv_if_eq (tgt := 28) hx hb dX0_takeTry_4 (by decide) (fun c2 => ?_) (fun c2 => ?_)
  · have hf := rf_ifp hf c2
    refine lv_iconst (v := 0) hx hb dX0_takeTry_28 (by decide) ?_
    obtain rfl := Option.some.inj hf
    exact W.zret (v := 0) hx hb hr rfl (fun t ht hW => ⟨⟨0, (), rfl, rfl, rf_mk ht hP hD⟩, hS.F ht⟩) hS.2.2 dX0_takeTry_29
  · have hf := rf_ifn hf c2
    refine lv_aload_n hx hb dX0_takeTry_7 rfl (lv_at hl 0 rfl) ?_
    obtain ⟨q3, hq3, hf⟩ := rf_bindq hf
    refine rf_Vi (As := []) (rest := []) (wr := [(a_this_kinds, .inl (cA, 6, .inl f_this_kinds)), (a_this_thicks, .inl (cA, 6, .inl f_this_thicks))]) (wn := [(a_this, .inr (0, rf_o0 a_this_kinds a_this_thicks g_this)), (a_this_kinds, .inl (cA, 6, .inl f_this_kinds)), (a_this_thicks, .inl (cA, 6, .inl f_this_thicks))]) ⟨hx, hb, hml, hown, hts⟩ hK hP hD hS hA hE (c_X0_isOff l D cA ad a_this a_this_kinds a_this_thicks H.size g_this q3 hq3) (cwV 0 hts gX0_takeTry_X0_isOff rfl rfl rfl hv_X0_isOff ⟨Nat.le_of_ble_eq_true rfl, Nat.le_of_ble_eq_true rfl⟩) [0] [1, 2] [2, 0, 1] rfl rfl rfl rfl (by decide) rfl rfl 0 0 rfl rfl rfl rfl rfl hl.1 (Nat.le_of_ble_eq_true rfl) dX0_takeTry_8 ⟨Nat.zero_le _, Nat.zero_le _⟩ (fun H locs hP hD hS => ?_)
    refine lv_if_ne (tgt := 28) hx hb dX0_takeTry_11 (by decide) (fun c4 => ?_) (fun c4 => ?_)
    · have hf := rf_ifn hf c4
      refine lv_iconst (v := 0) hx hb dX0_takeTry_28 (by decide) ?_
      obtain rfl := Option.some.inj hf
      exact W.zret (v := 0) hx hb hr rfl (fun t ht hW => ⟨⟨0, (), rfl, rfl, rf_mk ht hP hD⟩, hS.F ht⟩) hS.2.2 dX0_takeTry_29
    · have hf := rf_ifp hf c4
      refine lv_aload_n hx hb dX0_takeTry_14 rfl (lv_at hl 0 rfl) ?_
      refine va_getsN (v := .ref (ad 2)) (host := "RingAndFinger") hx hb (hE.2.2 2 _ rfl).1 hS hown (va_Nw.use rfl (hE.2.1 2 _ rfl)) (fun _ h9 => h9) dX0_takeTry_15 ?_
      refine lv_iload_n hx hb dX0_takeTry_18 rfl (lv_at hl 1 rfl) ?_
      obtain ⟨q5, hq5, hf⟩ := rf_bindq hf
      refine rf_NiT (As := [.ref (ad 2), .int p1]) (rest := [.ref a_this]) ⟨hx, hb, hml, hown, hts⟩ hK hP hD hS hA hE (c_X2_at_T l D cA ad (ad 2) H.size 8 rf_a2 p1 q5 hq5) ⟨va_cnB (host := "RingAndFinger") 2 hts gX0_takeTry_X2_at_n55 rfl rfl rfl (hE.1 0 _ rfl) (hts _ kX0_takeTry_0) hn_X2_at ⟨Nat.le_of_ble_eq_true rfl, Nat.le_of_ble_eq_true rfl⟩, (hts _ kX0_takeTry_2), trivial⟩ rfl rfl hl.1 (Nat.le_of_ble_eq_true rfl) dX0_takeTry_19 ⟨Nat.zero_le _, Nat.zero_le _⟩ (hE.2.2 2 _ rfl).2 (fun H locs hP hD hS => ?_)
      obtain ⟨q6, hq6, hf⟩ := rf_bindq hf
      refine rf_Vi (As := [.int q5]) (rest := []) (wr := [(a_this_kinds, .inl (cA, 6, .inl f_this_kinds)), (a_this_thicks, .inl (cA, 6, .inl f_this_thicks))]) (wn := [(a_this, .inr (0, rf_o0 a_this_kinds a_this_thicks g_this)), (a_this_kinds, .inl (cA, 6, .inl f_this_kinds)), (a_this_thicks, .inl (cA, 6, .inl f_this_thicks))]) ⟨hx, hb, hml, hown, hts⟩ hK hP hD hS hA hE (c_X0_hasMinutes l D cA ad a_this a_this_kinds a_this_thicks H.size g_this q5 q6 hq6) (cwV 1 hts gX0_takeTry_X0_hasMinutes rfl rfl rfl hv_X0_hasMinutes ⟨Nat.le_of_ble_eq_true rfl, Nat.le_of_ble_eq_true rfl⟩) [0] [1, 2] [2, 0, 1] rfl rfl rfl rfl (by decide) rfl rfl 0 0 rfl rfl rfl rfl rfl hl.1 (Nat.le_of_ble_eq_true rfl) dX0_takeTry_22 ⟨Nat.zero_le _, Nat.zero_le _⟩ (fun H locs hP hD hS => ?_)
      refine lv_if_ne (tgt := 30) hx hb dX0_takeTry_25 (by decide) (fun c7 => ?_) (fun c7 => ?_)
      · have hf := rf_ifn hf c7
        refine lv_aload_n hx hb dX0_takeTry_30 rfl (lv_at hl 0 rfl) ?_
        refine lv_iload_n hx hb dX0_takeTry_31 rfl (lv_at hl 1 rfl) ?_
        obtain ⟨q8, hq8, hf⟩ := rf_bindq hf
        refine rf_Vi (As := [.int p1]) (rest := []) (wr := []) (wn := [(a_this, .inr (0, rf_o0 a_this_kinds a_this_thicks q8.2)), (a_this_kinds, .inl (cA, 6, .inl f_this_kinds)), (a_this_thicks, .inl (cA, 6, .inl f_this_thicks))]) ⟨hx, hb, hml, hown, hts⟩ hK hP hD hS hA hE (c_X0_attempt l D cA ad a_this a_this_kinds a_this_thicks H.size g_this f_this_kinds f_this_thicks p1 q8 hq8) (cwV 1 hts gX0_takeTry_X0_attempt rfl rfl rfl hv_X0_attempt ⟨Nat.le_of_ble_eq_true rfl, Nat.le_of_ble_eq_true rfl⟩) [0, 1, 2] [] [0, 1, 2] rfl rfl rfl rfl (by decide) rfl rfl 0 0 rfl rfl rfl rfl rfl hl.1 (Nat.le_of_ble_eq_true rfl) dX0_takeTry_32 ⟨Nat.zero_le _, Nat.zero_le _⟩ (fun H locs hP hD hS => ?_)
        refine lv_pop hx hb dX0_takeTry_35 rfl ?_
        refine lv_iconst (v := 1) hx hb dX0_takeTry_36 (by decide) ?_
        obtain rfl := Option.some.inj hf
        exact W.zret (v := 1) hx hb hr rfl (fun t ht hW => ⟨⟨1, (), rfl, rfl, rf_mk ht hP hD⟩, hS.F ht⟩) hS.2.2 dX0_takeTry_37
      · have hf := rf_ifp hf c7
        refine lv_iconst (v := 0) hx hb dX0_takeTry_28 (by decide) ?_
        obtain rfl := Option.some.inj hf
        exact W.zret (v := 0) hx hb hr rfl (fun t ht hW => ⟨⟨0, (), rfl, rfl, rf_mk ht hP hD⟩, hS.F ht⟩) hS.2.2 dX0_takeTry_29
