theorem kX3_init_0 : (.methodLink RX3 1 objectInit : Cond) ∈ wsX3_init := by decide +kernel
theorem kX3_init_1 : (.instanceMethod objectInit : Cond) ∈ wsX3_init := by decide +kernel
theorem kX3_init_2 : (.code objectInit ⟨#[0xb1]⟩ 1 none : Cond) ∈ wsX3_init := by decide +kernel
theorem kX3_init_3 : (.arrayClass .int : Cond) ∈ wsX3_init := by decide +kernel
theorem kX3_init_4 : (.fieldLink RX3 9 "RingAndFingerModel" "s" "[I" : Cond) ∈ wsX3_init := by decide +kernel
theorem kX3_init_5 : (.fieldLink RX3 13 "RingAndFingerModel" "image" "[I" : Cond) ∈ wsX3_init := by decide +kernel
theorem kX3_init_6 : (.fieldLink RX3 16 "RingAndFingerModel" "read" "[I" : Cond) ∈ wsX3_init := by decide +kernel
theorem kX3_init_7 : (.fieldLink RX3 19 "RingAndFingerModel" "mind" "[I" : Cond) ∈ wsX3_init := by decide +kernel
theorem kX3_init_8 : (.fieldLink RX3 22 "RingAndFingerModel" "letters" "[I" : Cond) ∈ wsX3_init := by decide +kernel
theorem kX3_init_9 : (.fieldLink RX3 25 "RingAndFingerModel" "row" "[I" : Cond) ∈ wsX3_init := by decide +kernel
theorem kX3_init_10 : (.fieldLink RX3 28 "RingAndFingerModel" "refused" "[I" : Cond) ∈ wsX3_init := by decide +kernel
theorem kX3_init_11 : (.fieldLink RX3 31 "RingAndFingerModel" "numbers" "[I" : Cond) ∈ wsX3_init := by decide +kernel
theorem kX3_init_12 : (.fieldLink RX3 34 "RingAndFingerModel" "cost" "[I" : Cond) ∈ wsX3_init := by decide +kernel
theorem jX3_init_X3 : ∀ w ∈ u_ws RX3 TX3 16, w ∈ wsX3_init := by decide +kernel
theorem n0_X3_init : yX3_init.cls ≠ "java/lang/invoke/MethodHandle" ∧ yX3_init.cls ≠ "java/lang/invoke/VarHandle" ∧ (parseMethodDescriptor yX3_init.desc).map (fun d => d.parameters.length) = some 0 := by decide +kernel
set_option maxHeartbeats 8000000 in
set_option maxRecDepth 100000 in
theorem c_X3_init (l : Launch) (D : va_G) (cA : ClassId) (ad : Nat → Nat) (a_this : Nat) (sz : Nat) : Met l yX3_init wsX3_init ({ frames := 1, cells := 9, slots := 13876, locals := 21 } : Room) (va_Pc [.ref a_this] (rf_Pre D cA ad [(a_this, .inr (3, [.null, .null, .null, .null, .int 0, .null, .null, .null, .int 0, .int 0, .int 0, .null, .null, .int 0, .int 0, .int 0]))] sz)) (va_Qv (fun (_ : Nat × Nat × Nat × Nat × Nat × Nat × Nat × Nat × Nat) => True) (fun u t => rf_Post D (va_A [(a_this, .inr (3, [.null, .null, .null, .null, .int 0, .null, .null, .null, .int 0, .int 0, .int 0, .null, .null, .int 0, .int 0, .int 0]))] sz) [(a_this, .inr (3, rf_o3 u.1 u.2.1 u.2.2.1 u.2.2.2.1 u.2.2.2.2.1 u.2.2.2.2.2.1 u.2.2.2.2.2.2.1 u.2.2.2.2.2.2.2.1 u.2.2.2.2.2.2.2.2 rf_z)), (u.1, .inl (cA, 22, .inl rf_g0)), (u.2.1, .inl (cA, 22, .inl rf_z)), (u.2.2.1, .inl (cA, 22, .inl rf_z)), (u.2.2.2.1, .inl (cA, 22, .inl rf_z)), (u.2.2.2.2.1, .inl (cA, 96, .inl rf_z)), (u.2.2.2.2.2.1, .inl (cA, 12, .inl rf_z)), (u.2.2.2.2.2.2.1, .inl (cA, 7, .inl rf_z)), (u.2.2.2.2.2.2.2.1, .inl (cA, 2, .inl rf_z)), (u.2.2.2.2.2.2.2.2, .inl (cA, 13671, .inl rf_z))] t) (va_A [(a_this, .inr (3, [.null, .null, .null, .null, .int 0, .null, .null, .null, .int 0, .int 0, .int 0, .null, .null, .int 0, .int 0, .int 0]))] sz)) 9 13876 (va_A [(a_this, .inr (3, [.null, .null, .null, .null, .int 0, .null, .null, .null, .int 0, .int 0, .int 0, .null, .null, .int 0, .int 0, .int 0]))] sz) := by
  refine Met.ofW (cc := cX3_init) (maxL := 1) (ret := none) (by decide) rfl ?_
  intro p e s m args below meth c s₁ B hml hv
  obtain ⟨rfl, hsz, hP, hK, hD0, hE⟩ := hv
  have hx := B.exec
  have hb := B.bytes
  have hr := B.returns
  have hts := atoms_spec (ws := wsX3_init) B.pre
  have hown : s.vm.findClass RX3 = some m.cls := findClass_of_methodNamed B.named
  have hlocks := B.notSynchronized
  have hin : meth.name = "<init>" := (name_of_methodNamed B.named B.method).1
  subst hsz
  have hD := hD0.self (sz := s.heap.size)
  generalize hAe : va_A [(a_this, .inr (3, [.null, .null, .null, .null, .int 0, .null, .null, .null, .int 0, .int 0, .int 0, .null, .null, .int 0, .int 0, .int 0]))] s.heap.size = A at hD hE ⊢
  have hA : ∀ q : Nat, s.heap.size ≤ q → A q := fun q h => by rw [← hAe]; exact Or.inr h
  have hS : va_S A s.heap s.heap [] := va_S.rf
  have hP : va_P D vwCl [(a_this, .inr (3, [.null, .null, .null, .null, .int 0, .null, .null, .null, .int 0, .int 0, .int 0, .null, .null, .int 0, .int 0, .int 0]))] s.heap := hP
  have hl := lv_entry ([.ref a_this]) (n := 1) (Nat.le_of_ble_eq_true rfl)
  rw [lg_entry_eq]
  generalize (lg_sl ([.ref a_this]) ++ List.replicate (1 - (lg_sl ([.ref a_this])).length) Slot.unset).toArray = ls at hl ⊢
  have hl : lv_has ls 1 [(0, .ref a_this)] := hl
  refine lv_aload_n hx hb dX3_init_0 rfl (lv_at hl 0 rfl) ?_
  refine W.objInit hx hb hown (hts _ kX3_init_0) (hts _ kX3_init_1) (hts _ kX3_init_2) rfl (by rw [hml]; exact hl.1) rfl dX3_init_1 (Nat.le_of_ble_eq_true rfl) (Nat.le_of_ble_eq_true rfl) ?_
  refine W.eq (g2 := F0 m 4 ls []) rfl ?_
  refine lv_aload_n hx hb dX3_init_4 rfl (lv_at hl 0 rfl) ?_
  refine lv_bipush (v := 22) hx hb dX3_init_5 (by decide) ?_
  refine va_newa (atype := .int) (ty := .int) hx hb (hts _ kX3_init_3) rfl hK hP hD hS hA (n := 22) (N' := 22) (a0 := (22, .inl rf_z)) (fun _ => rfl) (by decide) (by decide) (Nat.le_of_ble_eq_true rfl) (Nat.le_of_ble_eq_true rfl) (Nat.le_of_ble_eq_true rfl) dX3_init_7 (fun q7 cA9 H hK9 hP hD hS => ?_)
  have e9 := rf_cA hK9
  clear hK9
  subst e9
  have hP : va_P D vwCl [(a_this, .inr (3, [.null, .null, .null, .null, .int 0, .null, .null, .null, .int 0, .int 0, .int 0, .null, .null, .int 0, .int 0, .int 0])), (q7, .inl (cA, 22, .inl rf_z))] H := hP
  have hD : va_D A [(a_this, .inr (3, [.null, .null, .null, .null, .int 0, .null, .null, .null, .int 0, .int 0, .int 0, .null, .null, .int 0, .int 0, .int 0])), (q7, .inl (cA, 22, .inl rf_z))] := hD
  refine W.widen (k := 1) (n := 22) (Nat.le_of_ble_eq_true rfl) (Nat.le_of_ble_eq_true rfl) ?_
  refine va_putF (D := D) (ci := 3) (v := .ref q7) (ty := (.array .int)) (C := RX3) (T := TX3) (N := 16) hx hb hts jX3_init_X3 tyX3 tyX3_ok nmX3 hown hK hP hD hS 0 rfl rfl 0 (by decide) (hts _ kX3_init_4) (fun _ h9 => h9) rfl hin rfl (by decide +kernel) rfl rfl (Nat.le_of_ble_eq_true rfl) dX3_init_9 (fun H locs hP hD hS => ?_)
  have hP : va_P D vwCl [(a_this, .inr (3, [.ref q7, .null, .null, .null, .int 0, .null, .null, .null, .int 0, .int 0, .int 0, .null, .null, .int 0, .int 0, .int 0])), (q7, .inl (cA, 22, .inl rf_z))] H := hP
  have hD : va_D A [(a_this, .inr (3, [.ref q7, .null, .null, .null, .int 0, .null, .null, .null, .int 0, .int 0, .int 0, .null, .null, .int 0, .int 0, .int 0])), (q7, .inl (cA, 22, .inl rf_z))] := hD
  refine lv_aload_n hx hb dX3_init_12 rfl (lv_at hl 0 rfl) ?_
  refine lv_bipush (v := 22) hx hb dX3_init_13 (by decide) ?_
  refine va_newa (atype := .int) (ty := .int) hx hb (hts _ kX3_init_3) rfl hK hP hD hS hA (n := 22) (N' := 22) (a0 := (22, .inl rf_z)) (fun _ => rfl) (by decide) (by decide) (Nat.le_of_ble_eq_true rfl) (Nat.le_of_ble_eq_true rfl) (Nat.le_of_ble_eq_true rfl) dX3_init_15 (fun q15 cA9 H hK9 hP hD hS => ?_)
  have e9 := rf_cA hK9
  clear hK9
  subst e9
  have hP : va_P D vwCl [(a_this, .inr (3, [.ref q7, .null, .null, .null, .int 0, .null, .null, .null, .int 0, .int 0, .int 0, .null, .null, .int 0, .int 0, .int 0])), (q7, .inl (cA, 22, .inl rf_z)), (q15, .inl (cA, 22, .inl rf_z))] H := hP
  have hD : va_D A [(a_this, .inr (3, [.ref q7, .null, .null, .null, .int 0, .null, .null, .null, .int 0, .int 0, .int 0, .null, .null, .int 0, .int 0, .int 0])), (q7, .inl (cA, 22, .inl rf_z)), (q15, .inl (cA, 22, .inl rf_z))] := hD
  refine W.widen (k := 2) (n := 44) (Nat.le_of_ble_eq_true rfl) (Nat.le_of_ble_eq_true rfl) ?_
  refine va_putF (D := D) (ci := 3) (v := .ref q15) (ty := (.array .int)) (C := RX3) (T := TX3) (N := 16) hx hb hts jX3_init_X3 tyX3 tyX3_ok nmX3 hown hK hP hD hS 0 rfl rfl 1 (by decide) (hts _ kX3_init_5) (fun _ h9 => h9) rfl hin rfl (by decide +kernel) rfl rfl (Nat.le_of_ble_eq_true rfl) dX3_init_17 (fun H locs hP hD hS => ?_)
  have hP : va_P D vwCl [(a_this, .inr (3, [.ref q7, .ref q15, .null, .null, .int 0, .null, .null, .null, .int 0, .int 0, .int 0, .null, .null, .int 0, .int 0, .int 0])), (q7, .inl (cA, 22, .inl rf_z)), (q15, .inl (cA, 22, .inl rf_z))] H := hP
  have hD : va_D A [(a_this, .inr (3, [.ref q7, .ref q15, .null, .null, .int 0, .null, .null, .null, .int 0, .int 0, .int 0, .null, .null, .int 0, .int 0, .int 0])), (q7, .inl (cA, 22, .inl rf_z)), (q15, .inl (cA, 22, .inl rf_z))] := hD
  refine lv_aload_n hx hb dX3_init_20 rfl (lv_at hl 0 rfl) ?_
  refine lv_bipush (v := 22) hx hb dX3_init_21 (by decide) ?_
  refine va_newa (atype := .int) (ty := .int) hx hb (hts _ kX3_init_3) rfl hK hP hD hS hA (n := 22) (N' := 22) (a0 := (22, .inl rf_z)) (fun _ => rfl) (by decide) (by decide) (Nat.le_of_ble_eq_true rfl) (Nat.le_of_ble_eq_true rfl) (Nat.le_of_ble_eq_true rfl) dX3_init_23 (fun q23 cA9 H hK9 hP hD hS => ?_)
  have e9 := rf_cA hK9
  clear hK9
  subst e9
  have hP : va_P D vwCl [(a_this, .inr (3, [.ref q7, .ref q15, .null, .null, .int 0, .null, .null, .null, .int 0, .int 0, .int 0, .null, .null, .int 0, .int 0, .int 0])), (q7, .inl (cA, 22, .inl rf_z)), (q15, .inl (cA, 22, .inl rf_z)), (q23, .inl (cA, 22, .inl rf_z))] H := hP
  have hD : va_D A [(a_this, .inr (3, [.ref q7, .ref q15, .null, .null, .int 0, .null, .null, .null, .int 0, .int 0, .int 0, .null, .null, .int 0, .int 0, .int 0])), (q7, .inl (cA, 22, .inl rf_z)), (q15, .inl (cA, 22, .inl rf_z)), (q23, .inl (cA, 22, .inl rf_z))] := hD
  refine W.widen (k := 3) (n := 66) (Nat.le_of_ble_eq_true rfl) (Nat.le_of_ble_eq_true rfl) ?_
  refine va_putF (D := D) (ci := 3) (v := .ref q23) (ty := (.array .int)) (C := RX3) (T := TX3) (N := 16) hx hb hts jX3_init_X3 tyX3 tyX3_ok nmX3 hown hK hP hD hS 0 rfl rfl 2 (by decide) (hts _ kX3_init_6) (fun _ h9 => h9) rfl hin rfl (by decide +kernel) rfl rfl (Nat.le_of_ble_eq_true rfl) dX3_init_25 (fun H locs hP hD hS => ?_)
  have hP : va_P D vwCl [(a_this, .inr (3, [.ref q7, .ref q15, .ref q23, .null, .int 0, .null, .null, .null, .int 0, .int 0, .int 0, .null, .null, .int 0, .int 0, .int 0])), (q7, .inl (cA, 22, .inl rf_z)), (q15, .inl (cA, 22, .inl rf_z)), (q23, .inl (cA, 22, .inl rf_z))] H := hP
  have hD : va_D A [(a_this, .inr (3, [.ref q7, .ref q15, .ref q23, .null, .int 0, .null, .null, .null, .int 0, .int 0, .int 0, .null, .null, .int 0, .int 0, .int 0])), (q7, .inl (cA, 22, .inl rf_z)), (q15, .inl (cA, 22, .inl rf_z)), (q23, .inl (cA, 22, .inl rf_z))] := hD
  refine lv_aload_n hx hb dX3_init_28 rfl (lv_at hl 0 rfl) ?_
  refine lv_bipush (v := 22) hx hb dX3_init_29 (by decide) ?_
  refine va_newa (atype := .int) (ty := .int) hx hb (hts _ kX3_init_3) rfl hK hP hD hS hA (n := 22) (N' := 22) (a0 := (22, .inl rf_z)) (fun _ => rfl) (by decide) (by decide) (Nat.le_of_ble_eq_true rfl) (Nat.le_of_ble_eq_true rfl) (Nat.le_of_ble_eq_true rfl) dX3_init_31 (fun q31 cA9 H hK9 hP hD hS => ?_)
  have e9 := rf_cA hK9
  clear hK9
  subst e9
  have hP : va_P D vwCl [(a_this, .inr (3, [.ref q7, .ref q15, .ref q23, .null, .int 0, .null, .null, .null, .int 0, .int 0, .int 0, .null, .null, .int 0, .int 0, .int 0])), (q7, .inl (cA, 22, .inl rf_z)), (q15, .inl (cA, 22, .inl rf_z)), (q23, .inl (cA, 22, .inl rf_z)), (q31, .inl (cA, 22, .inl rf_z))] H := hP
  have hD : va_D A [(a_this, .inr (3, [.ref q7, .ref q15, .ref q23, .null, .int 0, .null, .null, .null, .int 0, .int 0, .int 0, .null, .null, .int 0, .int 0, .int 0])), (q7, .inl (cA, 22, .inl rf_z)), (q15, .inl (cA, 22, .inl rf_z)), (q23, .inl (cA, 22, .inl rf_z)), (q31, .inl (cA, 22, .inl rf_z))] := hD
  refine W.widen (k := 4) (n := 88) (Nat.le_of_ble_eq_true rfl) (Nat.le_of_ble_eq_true rfl) ?_
  refine va_putF (D := D) (ci := 3) (v := .ref q31) (ty := (.array .int)) (C := RX3) (T := TX3) (N := 16) hx hb hts jX3_init_X3 tyX3 tyX3_ok nmX3 hown hK hP hD hS 0 rfl rfl 3 (by decide) (hts _ kX3_init_7) (fun _ h9 => h9) rfl hin rfl (by decide +kernel) rfl rfl (Nat.le_of_ble_eq_true rfl) dX3_init_33 (fun H locs hP hD hS => ?_)
  have hP : va_P D vwCl [(a_this, .inr (3, [.ref q7, .ref q15, .ref q23, .ref q31, .int 0, .null, .null, .null, .int 0, .int 0, .int 0, .null, .null, .int 0, .int 0, .int 0])), (q7, .inl (cA, 22, .inl rf_z)), (q15, .inl (cA, 22, .inl rf_z)), (q23, .inl (cA, 22, .inl rf_z)), (q31, .inl (cA, 22, .inl rf_z))] H := hP
  have hD : va_D A [(a_this, .inr (3, [.ref q7, .ref q15, .ref q23, .ref q31, .int 0, .null, .null, .null, .int 0, .int 0, .int 0, .null, .null, .int 0, .int 0, .int 0])), (q7, .inl (cA, 22, .inl rf_z)), (q15, .inl (cA, 22, .inl rf_z)), (q23, .inl (cA, 22, .inl rf_z)), (q31, .inl (cA, 22, .inl rf_z))] := hD
  refine lv_aload_n hx hb dX3_init_36 rfl (lv_at hl 0 rfl) ?_
  refine lv_bipush (v := 96) hx hb dX3_init_37 (by decide) ?_
  refine va_newa (atype := .int) (ty := .int) hx hb (hts _ kX3_init_3) rfl hK hP hD hS hA (n := 96) (N' := 96) (a0 := (96, .inl rf_z)) (fun _ => rfl) (by decide) (by decide) (Nat.le_of_ble_eq_true rfl) (Nat.le_of_ble_eq_true rfl) (Nat.le_of_ble_eq_true rfl) dX3_init_39 (fun q39 cA9 H hK9 hP hD hS => ?_)
  have e9 := rf_cA hK9
  clear hK9
  subst e9
  have hP : va_P D vwCl [(a_this, .inr (3, [.ref q7, .ref q15, .ref q23, .ref q31, .int 0, .null, .null, .null, .int 0, .int 0, .int 0, .null, .null, .int 0, .int 0, .int 0])), (q7, .inl (cA, 22, .inl rf_z)), (q15, .inl (cA, 22, .inl rf_z)), (q23, .inl (cA, 22, .inl rf_z)), (q31, .inl (cA, 22, .inl rf_z)), (q39, .inl (cA, 96, .inl rf_z))] H := hP
  have hD : va_D A [(a_this, .inr (3, [.ref q7, .ref q15, .ref q23, .ref q31, .int 0, .null, .null, .null, .int 0, .int 0, .int 0, .null, .null, .int 0, .int 0, .int 0])), (q7, .inl (cA, 22, .inl rf_z)), (q15, .inl (cA, 22, .inl rf_z)), (q23, .inl (cA, 22, .inl rf_z)), (q31, .inl (cA, 22, .inl rf_z)), (q39, .inl (cA, 96, .inl rf_z))] := hD
  refine W.widen (k := 5) (n := 184) (Nat.le_of_ble_eq_true rfl) (Nat.le_of_ble_eq_true rfl) ?_
  refine va_putF (D := D) (ci := 3) (v := .ref q39) (ty := (.array .int)) (C := RX3) (T := TX3) (N := 16) hx hb hts jX3_init_X3 tyX3 tyX3_ok nmX3 hown hK hP hD hS 0 rfl rfl 5 (by decide) (hts _ kX3_init_8) (fun _ h9 => h9) rfl hin rfl (by decide +kernel) rfl rfl (Nat.le_of_ble_eq_true rfl) dX3_init_41 (fun H locs hP hD hS => ?_)
  have hP : va_P D vwCl [(a_this, .inr (3, [.ref q7, .ref q15, .ref q23, .ref q31, .int 0, .ref q39, .null, .null, .int 0, .int 0, .int 0, .null, .null, .int 0, .int 0, .int 0])), (q7, .inl (cA, 22, .inl rf_z)), (q15, .inl (cA, 22, .inl rf_z)), (q23, .inl (cA, 22, .inl rf_z)), (q31, .inl (cA, 22, .inl rf_z)), (q39, .inl (cA, 96, .inl rf_z))] H := hP
  have hD : va_D A [(a_this, .inr (3, [.ref q7, .ref q15, .ref q23, .ref q31, .int 0, .ref q39, .null, .null, .int 0, .int 0, .int 0, .null, .null, .int 0, .int 0, .int 0])), (q7, .inl (cA, 22, .inl rf_z)), (q15, .inl (cA, 22, .inl rf_z)), (q23, .inl (cA, 22, .inl rf_z)), (q31, .inl (cA, 22, .inl rf_z)), (q39, .inl (cA, 96, .inl rf_z))] := hD
  refine lv_aload_n hx hb dX3_init_44 rfl (lv_at hl 0 rfl) ?_
  refine lv_bipush (v := 12) hx hb dX3_init_45 (by decide) ?_
  refine va_newa (atype := .int) (ty := .int) hx hb (hts _ kX3_init_3) rfl hK hP hD hS hA (n := 12) (N' := 12) (a0 := (12, .inl rf_z)) (fun _ => rfl) (by decide) (by decide) (Nat.le_of_ble_eq_true rfl) (Nat.le_of_ble_eq_true rfl) (Nat.le_of_ble_eq_true rfl) dX3_init_47 (fun q47 cA9 H hK9 hP hD hS => ?_)
  have e9 := rf_cA hK9
  clear hK9
  subst e9
  have hP : va_P D vwCl [(a_this, .inr (3, [.ref q7, .ref q15, .ref q23, .ref q31, .int 0, .ref q39, .null, .null, .int 0, .int 0, .int 0, .null, .null, .int 0, .int 0, .int 0])), (q7, .inl (cA, 22, .inl rf_z)), (q15, .inl (cA, 22, .inl rf_z)), (q23, .inl (cA, 22, .inl rf_z)), (q31, .inl (cA, 22, .inl rf_z)), (q39, .inl (cA, 96, .inl rf_z)), (q47, .inl (cA, 12, .inl rf_z))] H := hP
  have hD : va_D A [(a_this, .inr (3, [.ref q7, .ref q15, .ref q23, .ref q31, .int 0, .ref q39, .null, .null, .int 0, .int 0, .int 0, .null, .null, .int 0, .int 0, .int 0])), (q7, .inl (cA, 22, .inl rf_z)), (q15, .inl (cA, 22, .inl rf_z)), (q23, .inl (cA, 22, .inl rf_z)), (q31, .inl (cA, 22, .inl rf_z)), (q39, .inl (cA, 96, .inl rf_z)), (q47, .inl (cA, 12, .inl rf_z))] := hD
  refine W.widen (k := 6) (n := 196) (Nat.le_of_ble_eq_true rfl) (Nat.le_of_ble_eq_true rfl) ?_
  refine va_putF (D := D) (ci := 3) (v := .ref q47) (ty := (.array .int)) (C := RX3) (T := TX3) (N := 16) hx hb hts jX3_init_X3 tyX3 tyX3_ok nmX3 hown hK hP hD hS 0 rfl rfl 6 (by decide) (hts _ kX3_init_9) (fun _ h9 => h9) rfl hin rfl (by decide +kernel) rfl rfl (Nat.le_of_ble_eq_true rfl) dX3_init_49 (fun H locs hP hD hS => ?_)
  have hP : va_P D vwCl [(a_this, .inr (3, [.ref q7, .ref q15, .ref q23, .ref q31, .int 0, .ref q39, .ref q47, .null, .int 0, .int 0, .int 0, .null, .null, .int 0, .int 0, .int 0])), (q7, .inl (cA, 22, .inl rf_z)), (q15, .inl (cA, 22, .inl rf_z)), (q23, .inl (cA, 22, .inl rf_z)), (q31, .inl (cA, 22, .inl rf_z)), (q39, .inl (cA, 96, .inl rf_z)), (q47, .inl (cA, 12, .inl rf_z))] H := hP
  have hD : va_D A [(a_this, .inr (3, [.ref q7, .ref q15, .ref q23, .ref q31, .int 0, .ref q39, .ref q47, .null, .int 0, .int 0, .int 0, .null, .null, .int 0, .int 0, .int 0])), (q7, .inl (cA, 22, .inl rf_z)), (q15, .inl (cA, 22, .inl rf_z)), (q23, .inl (cA, 22, .inl rf_z)), (q31, .inl (cA, 22, .inl rf_z)), (q39, .inl (cA, 96, .inl rf_z)), (q47, .inl (cA, 12, .inl rf_z))] := hD
  refine lv_aload_n hx hb dX3_init_52 rfl (lv_at hl 0 rfl) ?_
  refine lv_bipush (v := 7) hx hb dX3_init_53 (by decide) ?_
  refine va_newa (atype := .int) (ty := .int) hx hb (hts _ kX3_init_3) rfl hK hP hD hS hA (n := 7) (N' := 7) (a0 := (7, .inl rf_z)) (fun _ => rfl) (by decide) (by decide) (Nat.le_of_ble_eq_true rfl) (Nat.le_of_ble_eq_true rfl) (Nat.le_of_ble_eq_true rfl) dX3_init_55 (fun q55 cA9 H hK9 hP hD hS => ?_)
  have e9 := rf_cA hK9
  clear hK9
  subst e9
  have hP : va_P D vwCl [(a_this, .inr (3, [.ref q7, .ref q15, .ref q23, .ref q31, .int 0, .ref q39, .ref q47, .null, .int 0, .int 0, .int 0, .null, .null, .int 0, .int 0, .int 0])), (q7, .inl (cA, 22, .inl rf_z)), (q15, .inl (cA, 22, .inl rf_z)), (q23, .inl (cA, 22, .inl rf_z)), (q31, .inl (cA, 22, .inl rf_z)), (q39, .inl (cA, 96, .inl rf_z)), (q47, .inl (cA, 12, .inl rf_z)), (q55, .inl (cA, 7, .inl rf_z))] H := hP
  have hD : va_D A [(a_this, .inr (3, [.ref q7, .ref q15, .ref q23, .ref q31, .int 0, .ref q39, .ref q47, .null, .int 0, .int 0, .int 0, .null, .null, .int 0, .int 0, .int 0])), (q7, .inl (cA, 22, .inl rf_z)), (q15, .inl (cA, 22, .inl rf_z)), (q23, .inl (cA, 22, .inl rf_z)), (q31, .inl (cA, 22, .inl rf_z)), (q39, .inl (cA, 96, .inl rf_z)), (q47, .inl (cA, 12, .inl rf_z)), (q55, .inl (cA, 7, .inl rf_z))] := hD
  refine W.widen (k := 7) (n := 203) (Nat.le_of_ble_eq_true rfl) (Nat.le_of_ble_eq_true rfl) ?_
  refine va_putF (D := D) (ci := 3) (v := .ref q55) (ty := (.array .int)) (C := RX3) (T := TX3) (N := 16) hx hb hts jX3_init_X3 tyX3 tyX3_ok nmX3 hown hK hP hD hS 0 rfl rfl 7 (by decide) (hts _ kX3_init_10) (fun _ h9 => h9) rfl hin rfl (by decide +kernel) rfl rfl (Nat.le_of_ble_eq_true rfl) dX3_init_57 (fun H locs hP hD hS => ?_)
  have hP : va_P D vwCl [(a_this, .inr (3, [.ref q7, .ref q15, .ref q23, .ref q31, .int 0, .ref q39, .ref q47, .ref q55, .int 0, .int 0, .int 0, .null, .null, .int 0, .int 0, .int 0])), (q7, .inl (cA, 22, .inl rf_z)), (q15, .inl (cA, 22, .inl rf_z)), (q23, .inl (cA, 22, .inl rf_z)), (q31, .inl (cA, 22, .inl rf_z)), (q39, .inl (cA, 96, .inl rf_z)), (q47, .inl (cA, 12, .inl rf_z)), (q55, .inl (cA, 7, .inl rf_z))] H := hP
  have hD : va_D A [(a_this, .inr (3, [.ref q7, .ref q15, .ref q23, .ref q31, .int 0, .ref q39, .ref q47, .ref q55, .int 0, .int 0, .int 0, .null, .null, .int 0, .int 0, .int 0])), (q7, .inl (cA, 22, .inl rf_z)), (q15, .inl (cA, 22, .inl rf_z)), (q23, .inl (cA, 22, .inl rf_z)), (q31, .inl (cA, 22, .inl rf_z)), (q39, .inl (cA, 96, .inl rf_z)), (q47, .inl (cA, 12, .inl rf_z)), (q55, .inl (cA, 7, .inl rf_z))] := hD
  refine lv_aload_n hx hb dX3_init_60 rfl (lv_at hl 0 rfl) ?_
  refine lv_iconst (v := 2) hx hb dX3_init_61 (by decide) ?_
  refine va_newa (atype := .int) (ty := .int) hx hb (hts _ kX3_init_3) rfl hK hP hD hS hA (n := 2) (N' := 2) (a0 := (2, .inl rf_z)) (fun _ => rfl) (by decide) (by decide) (Nat.le_of_ble_eq_true rfl) (Nat.le_of_ble_eq_true rfl) (Nat.le_of_ble_eq_true rfl) dX3_init_62 (fun q62 cA9 H hK9 hP hD hS => ?_)
  have e9 := rf_cA hK9
  clear hK9
  subst e9
  have hP : va_P D vwCl [(a_this, .inr (3, [.ref q7, .ref q15, .ref q23, .ref q31, .int 0, .ref q39, .ref q47, .ref q55, .int 0, .int 0, .int 0, .null, .null, .int 0, .int 0, .int 0])), (q7, .inl (cA, 22, .inl rf_z)), (q15, .inl (cA, 22, .inl rf_z)), (q23, .inl (cA, 22, .inl rf_z)), (q31, .inl (cA, 22, .inl rf_z)), (q39, .inl (cA, 96, .inl rf_z)), (q47, .inl (cA, 12, .inl rf_z)), (q55, .inl (cA, 7, .inl rf_z)), (q62, .inl (cA, 2, .inl rf_z))] H := hP
  have hD : va_D A [(a_this, .inr (3, [.ref q7, .ref q15, .ref q23, .ref q31, .int 0, .ref q39, .ref q47, .ref q55, .int 0, .int 0, .int 0, .null, .null, .int 0, .int 0, .int 0])), (q7, .inl (cA, 22, .inl rf_z)), (q15, .inl (cA, 22, .inl rf_z)), (q23, .inl (cA, 22, .inl rf_z)), (q31, .inl (cA, 22, .inl rf_z)), (q39, .inl (cA, 96, .inl rf_z)), (q47, .inl (cA, 12, .inl rf_z)), (q55, .inl (cA, 7, .inl rf_z)), (q62, .inl (cA, 2, .inl rf_z))] := hD
  refine W.widen (k := 8) (n := 205) (Nat.le_of_ble_eq_true rfl) (Nat.le_of_ble_eq_true rfl) ?_
  refine va_putF (D := D) (ci := 3) (v := .ref q62) (ty := (.array .int)) (C := RX3) (T := TX3) (N := 16) hx hb hts jX3_init_X3 tyX3 tyX3_ok nmX3 hown hK hP hD hS 0 rfl rfl 11 (by decide) (hts _ kX3_init_11) (fun _ h9 => h9) rfl hin rfl (by decide +kernel) rfl rfl (Nat.le_of_ble_eq_true rfl) dX3_init_64 (fun H locs hP hD hS => ?_)
  have hP : va_P D vwCl [(a_this, .inr (3, [.ref q7, .ref q15, .ref q23, .ref q31, .int 0, .ref q39, .ref q47, .ref q55, .int 0, .int 0, .int 0, .ref q62, .null, .int 0, .int 0, .int 0])), (q7, .inl (cA, 22, .inl rf_z)), (q15, .inl (cA, 22, .inl rf_z)), (q23, .inl (cA, 22, .inl rf_z)), (q31, .inl (cA, 22, .inl rf_z)), (q39, .inl (cA, 96, .inl rf_z)), (q47, .inl (cA, 12, .inl rf_z)), (q55, .inl (cA, 7, .inl rf_z)), (q62, .inl (cA, 2, .inl rf_z))] H := hP
  have hD : va_D A [(a_this, .inr (3, [.ref q7, .ref q15, .ref q23, .ref q31, .int 0, .ref q39, .ref q47, .ref q55, .int 0, .int 0, .int 0, .ref q62, .null, .int 0, .int 0, .int 0])), (q7, .inl (cA, 22, .inl rf_z)), (q15, .inl (cA, 22, .inl rf_z)), (q23, .inl (cA, 22, .inl rf_z)), (q31, .inl (cA, 22, .inl rf_z)), (q39, .inl (cA, 96, .inl rf_z)), (q47, .inl (cA, 12, .inl rf_z)), (q55, .inl (cA, 7, .inl rf_z)), (q62, .inl (cA, 2, .inl rf_z))] := hD
  refine lv_aload_n hx hb dX3_init_67 rfl (lv_at hl 0 rfl) ?_
  refine lv_sipush (v := 13671) hx hb dX3_init_68 (by decide) ?_
  refine va_newa (atype := .int) (ty := .int) hx hb (hts _ kX3_init_3) rfl hK hP hD hS hA (n := 13671) (N' := 13671) (a0 := (13671, .inl rf_z)) (fun _ => rfl) (by decide) (by decide) (Nat.le_of_ble_eq_true rfl) (Nat.le_of_ble_eq_true rfl) (Nat.le_of_ble_eq_true rfl) dX3_init_71 (fun q71 cA9 H hK9 hP hD hS => ?_)
  have e9 := rf_cA hK9
  clear hK9
  subst e9
  have hP : va_P D vwCl [(a_this, .inr (3, [.ref q7, .ref q15, .ref q23, .ref q31, .int 0, .ref q39, .ref q47, .ref q55, .int 0, .int 0, .int 0, .ref q62, .null, .int 0, .int 0, .int 0])), (q7, .inl (cA, 22, .inl rf_z)), (q15, .inl (cA, 22, .inl rf_z)), (q23, .inl (cA, 22, .inl rf_z)), (q31, .inl (cA, 22, .inl rf_z)), (q39, .inl (cA, 96, .inl rf_z)), (q47, .inl (cA, 12, .inl rf_z)), (q55, .inl (cA, 7, .inl rf_z)), (q62, .inl (cA, 2, .inl rf_z)), (q71, .inl (cA, 13671, .inl rf_z))] H := hP
  have hD : va_D A [(a_this, .inr (3, [.ref q7, .ref q15, .ref q23, .ref q31, .int 0, .ref q39, .ref q47, .ref q55, .int 0, .int 0, .int 0, .ref q62, .null, .int 0, .int 0, .int 0])), (q7, .inl (cA, 22, .inl rf_z)), (q15, .inl (cA, 22, .inl rf_z)), (q23, .inl (cA, 22, .inl rf_z)), (q31, .inl (cA, 22, .inl rf_z)), (q39, .inl (cA, 96, .inl rf_z)), (q47, .inl (cA, 12, .inl rf_z)), (q55, .inl (cA, 7, .inl rf_z)), (q62, .inl (cA, 2, .inl rf_z)), (q71, .inl (cA, 13671, .inl rf_z))] := hD
  refine W.widen (k := 9) (n := 13876) (Nat.le_of_ble_eq_true rfl) (Nat.le_of_ble_eq_true rfl) ?_
  refine va_putF (D := D) (ci := 3) (v := .ref q71) (ty := (.array .int)) (C := RX3) (T := TX3) (N := 16) hx hb hts jX3_init_X3 tyX3 tyX3_ok nmX3 hown hK hP hD hS 0 rfl rfl 12 (by decide) (hts _ kX3_init_12) (fun _ h9 => h9) rfl hin rfl (by decide +kernel) rfl rfl (Nat.le_of_ble_eq_true rfl) dX3_init_73 (fun H locs hP hD hS => ?_)
  have hP : va_P D vwCl [(a_this, .inr (3, [.ref q7, .ref q15, .ref q23, .ref q31, .int 0, .ref q39, .ref q47, .ref q55, .int 0, .int 0, .int 0, .ref q62, .ref q71, .int 0, .int 0, .int 0])), (q7, .inl (cA, 22, .inl rf_z)), (q15, .inl (cA, 22, .inl rf_z)), (q23, .inl (cA, 22, .inl rf_z)), (q31, .inl (cA, 22, .inl rf_z)), (q39, .inl (cA, 96, .inl rf_z)), (q47, .inl (cA, 12, .inl rf_z)), (q55, .inl (cA, 7, .inl rf_z)), (q62, .inl (cA, 2, .inl rf_z)), (q71, .inl (cA, 13671, .inl rf_z))] H := hP
  have hD : va_D A [(a_this, .inr (3, [.ref q7, .ref q15, .ref q23, .ref q31, .int 0, .ref q39, .ref q47, .ref q55, .int 0, .int 0, .int 0, .ref q62, .ref q71, .int 0, .int 0, .int 0])), (q7, .inl (cA, 22, .inl rf_z)), (q15, .inl (cA, 22, .inl rf_z)), (q23, .inl (cA, 22, .inl rf_z)), (q31, .inl (cA, 22, .inl rf_z)), (q39, .inl (cA, 96, .inl rf_z)), (q47, .inl (cA, 12, .inl rf_z)), (q55, .inl (cA, 7, .inl rf_z)), (q62, .inl (cA, 2, .inl rf_z)), (q71, .inl (cA, 13671, .inl rf_z))] := hD
  refine lv_aload_n hx hb dX3_init_76 rfl (lv_at hl 0 rfl) ?_
  refine va_get (D := D) (ci := 3) (v := .ref q7) (C := RX3) (T := TX3) (N := 16) hx hb hts jX3_init_X3 hown hK hP 0 rfl rfl 0 (by decide) (hts _ kX3_init_4) (fun _ h9 => h9) rfl dX3_init_77 ?_
  refine lv_iconst (v := 1) hx hb dX3_init_80 (by decide) ?_
  refine lv_sipush (v := 180) hx hb dX3_init_81 (by decide) ?_
  refine rf_iastorek hx hb hK hP hD hS 1 0 rfl rfl (k := 1) (by decide) (by decide) (by decide) dX3_init_84 (fun H locs hP hD hS => ?_)
  have hP : va_P D vwCl [(a_this, .inr (3, [.ref q7, .ref q15, .ref q23, .ref q31, .int 0, .ref q39, .ref q47, .ref q55, .int 0, .int 0, .int 0, .ref q62, .ref q71, .int 0, .int 0, .int 0])), (q7, .inl (cA, 22, .inl (upd rf_z 1 180))), (q15, .inl (cA, 22, .inl rf_z)), (q23, .inl (cA, 22, .inl rf_z)), (q31, .inl (cA, 22, .inl rf_z)), (q39, .inl (cA, 96, .inl rf_z)), (q47, .inl (cA, 12, .inl rf_z)), (q55, .inl (cA, 7, .inl rf_z)), (q62, .inl (cA, 2, .inl rf_z)), (q71, .inl (cA, 13671, .inl rf_z))] H := hP
  have hD : va_D A [(a_this, .inr (3, [.ref q7, .ref q15, .ref q23, .ref q31, .int 0, .ref q39, .ref q47, .ref q55, .int 0, .int 0, .int 0, .ref q62, .ref q71, .int 0, .int 0, .int 0])), (q7, .inl (cA, 22, .inl (upd rf_z 1 180))), (q15, .inl (cA, 22, .inl rf_z)), (q23, .inl (cA, 22, .inl rf_z)), (q31, .inl (cA, 22, .inl rf_z)), (q39, .inl (cA, 96, .inl rf_z)), (q47, .inl (cA, 12, .inl rf_z)), (q55, .inl (cA, 7, .inl rf_z)), (q62, .inl (cA, 2, .inl rf_z)), (q71, .inl (cA, 13671, .inl rf_z))] := hD
  refine lv_aload_n hx hb dX3_init_85 rfl (lv_at hl 0 rfl) ?_
  refine va_get (D := D) (ci := 3) (v := .ref q7) (C := RX3) (T := TX3) (N := 16) hx hb hts jX3_init_X3 hown hK hP 0 rfl rfl 0 (by decide) (hts _ kX3_init_4) (fun _ h9 => h9) rfl dX3_init_86 ?_
  refine lv_iconst (v := 2) hx hb dX3_init_89 (by decide) ?_
  refine lv_iconst (v := 4) hx hb dX3_init_90 (by decide) ?_
  refine rf_iastorek hx hb hK hP hD hS 1 0 rfl rfl (k := 2) (by decide) (by decide) (by decide) dX3_init_91 (fun H locs hP hD hS => ?_)
  have hP : va_P D vwCl [(a_this, .inr (3, [.ref q7, .ref q15, .ref q23, .ref q31, .int 0, .ref q39, .ref q47, .ref q55, .int 0, .int 0, .int 0, .ref q62, .ref q71, .int 0, .int 0, .int 0])), (q7, .inl (cA, 22, .inl (upd (upd rf_z 1 180) 2 4))), (q15, .inl (cA, 22, .inl rf_z)), (q23, .inl (cA, 22, .inl rf_z)), (q31, .inl (cA, 22, .inl rf_z)), (q39, .inl (cA, 96, .inl rf_z)), (q47, .inl (cA, 12, .inl rf_z)), (q55, .inl (cA, 7, .inl rf_z)), (q62, .inl (cA, 2, .inl rf_z)), (q71, .inl (cA, 13671, .inl rf_z))] H := hP
  have hD : va_D A [(a_this, .inr (3, [.ref q7, .ref q15, .ref q23, .ref q31, .int 0, .ref q39, .ref q47, .ref q55, .int 0, .int 0, .int 0, .ref q62, .ref q71, .int 0, .int 0, .int 0])), (q7, .inl (cA, 22, .inl (upd (upd rf_z 1 180) 2 4))), (q15, .inl (cA, 22, .inl rf_z)), (q23, .inl (cA, 22, .inl rf_z)), (q31, .inl (cA, 22, .inl rf_z)), (q39, .inl (cA, 96, .inl rf_z)), (q47, .inl (cA, 12, .inl rf_z)), (q55, .inl (cA, 7, .inl rf_z)), (q62, .inl (cA, 2, .inl rf_z)), (q71, .inl (cA, 13671, .inl rf_z))] := hD
  refine lv_aload_n hx hb dX3_init_92 rfl (lv_at hl 0 rfl) ?_
  refine va_get (D := D) (ci := 3) (v := .ref q7) (C := RX3) (T := TX3) (N := 16) hx hb hts jX3_init_X3 hown hK hP 0 rfl rfl 0 (by decide) (hts _ kX3_init_4) (fun _ h9 => h9) rfl dX3_init_93 ?_
  refine lv_bipush (v := 7) hx hb dX3_init_96 (by decide) ?_
  refine lv_iconst (v := 3) hx hb dX3_init_98 (by decide) ?_
  refine rf_iastorek hx hb hK hP hD hS 1 0 rfl rfl (k := 7) (by decide) (by decide) (by decide) dX3_init_99 (fun H locs hP hD hS => ?_)
  have hP : va_P D vwCl [(a_this, .inr (3, [.ref q7, .ref q15, .ref q23, .ref q31, .int 0, .ref q39, .ref q47, .ref q55, .int 0, .int 0, .int 0, .ref q62, .ref q71, .int 0, .int 0, .int 0])), (q7, .inl (cA, 22, .inl (upd (upd (upd rf_z 1 180) 2 4) 7 3))), (q15, .inl (cA, 22, .inl rf_z)), (q23, .inl (cA, 22, .inl rf_z)), (q31, .inl (cA, 22, .inl rf_z)), (q39, .inl (cA, 96, .inl rf_z)), (q47, .inl (cA, 12, .inl rf_z)), (q55, .inl (cA, 7, .inl rf_z)), (q62, .inl (cA, 2, .inl rf_z)), (q71, .inl (cA, 13671, .inl rf_z))] H := hP
  have hD : va_D A [(a_this, .inr (3, [.ref q7, .ref q15, .ref q23, .ref q31, .int 0, .ref q39, .ref q47, .ref q55, .int 0, .int 0, .int 0, .ref q62, .ref q71, .int 0, .int 0, .int 0])), (q7, .inl (cA, 22, .inl (upd (upd (upd rf_z 1 180) 2 4) 7 3))), (q15, .inl (cA, 22, .inl rf_z)), (q23, .inl (cA, 22, .inl rf_z)), (q31, .inl (cA, 22, .inl rf_z)), (q39, .inl (cA, 96, .inl rf_z)), (q47, .inl (cA, 12, .inl rf_z)), (q55, .inl (cA, 7, .inl rf_z)), (q62, .inl (cA, 2, .inl rf_z)), (q71, .inl (cA, 13671, .inl rf_z))] := hD
  have hP9 := hP.sub (ws' := [(a_this, .inr (3, [.ref q7, .ref q15, .ref q23, .ref q31, .int 0, .ref q39, .ref q47, .ref q55, .int 0, .int 0, .int 0, .ref q62, .ref q71, .int 0, .int 0, .int 0])), (q7, .inl (cA, 22, .inl (upd (upd (upd rf_z 1 180) 2 4) 7 3))), (q15, .inl (cA, 22, .inl rf_z)), (q23, .inl (cA, 22, .inl rf_z)), (q31, .inl (cA, 22, .inl rf_z)), (q39, .inl (cA, 96, .inl rf_z)), (q47, .inl (cA, 12, .inl rf_z)), (q55, .inl (cA, 7, .inl rf_z)), (q62, .inl (cA, 2, .inl rf_z)), (q71, .inl (cA, 13671, .inl rf_z))]) [0, 1, 2, 3, 4, 5, 6, 7, 8, 9] rfl
  have hD9 := hD.sub (ws' := [(a_this, .inr (3, [.ref q7, .ref q15, .ref q23, .ref q31, .int 0, .ref q39, .ref q47, .ref q55, .int 0, .int 0, .int 0, .ref q62, .ref q71, .int 0, .int 0, .int 0])), (q7, .inl (cA, 22, .inl (upd (upd (upd rf_z 1 180) 2 4) 7 3))), (q15, .inl (cA, 22, .inl rf_z)), (q23, .inl (cA, 22, .inl rf_z)), (q31, .inl (cA, 22, .inl rf_z)), (q39, .inl (cA, 96, .inl rf_z)), (q47, .inl (cA, 12, .inl rf_z)), (q55, .inl (cA, 7, .inl rf_z)), (q62, .inl (cA, 2, .inl rf_z)), (q71, .inl (cA, 13671, .inl rf_z))]) [0, 1, 2, 3, 4, 5, 6, 7, 8, 9] (by decide) rfl
  exact W.vret hx hb hr (fun t ht hW => ⟨⟨(q7, q15, q23, q31, q39, q47, q55, q62, q71), rfl, trivial, rf_mk ht hP9 hD9⟩, hS.F ht⟩) hS.2.2 dX3_init_100
