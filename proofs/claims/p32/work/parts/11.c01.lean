theorem hs_X2_at : yX2_at.cls ≠ "java/lang/invoke/MethodHandle" ∧ yX2_at.cls ≠ "java/lang/invoke/VarHandle" ∧ (parseMethodDescriptor yX2_at.desc).map (fun d => d.parameters.length) = some 2 := by decide +kernel
theorem hs_X2_fits : yX2_fits.cls ≠ "java/lang/invoke/MethodHandle" ∧ yX2_fits.cls ≠ "java/lang/invoke/VarHandle" ∧ (parseMethodDescriptor yX2_fits.desc).map (fun d => d.parameters.length) = some 4 := by decide +kernel
theorem hs_X2_kindOf : yX2_kindOf.cls ≠ "java/lang/invoke/MethodHandle" ∧ yX2_kindOf.cls ≠ "java/lang/invoke/VarHandle" ∧ (parseMethodDescriptor yX2_kindOf.desc).map (fun d => d.parameters.length) = some 1 := by decide +kernel
theorem hs_X2_put : yX2_put.cls ≠ "java/lang/invoke/MethodHandle" ∧ yX2_put.cls ≠ "java/lang/invoke/VarHandle" ∧ (parseMethodDescriptor yX2_put.desc).map (fun d => d.parameters.length) = some 3 := by decide +kernel
theorem hs_X2_statementLength : yX2_statementLength.cls ≠ "java/lang/invoke/MethodHandle" ∧ yX2_statementLength.cls ≠ "java/lang/invoke/VarHandle" ∧ (parseMethodDescriptor yX2_statementLength.desc).map (fun d => d.parameters.length) = some 1 := by decide +kernel
theorem hv_X0_copyFrom : yX0_copyFrom.cls = RX0 ∧ yX0_copyFrom.cls ≠ "java/lang/invoke/MethodHandle" ∧ yX0_copyFrom.cls ≠ "java/lang/invoke/VarHandle" ∧ (parseMethodDescriptor yX0_copyFrom.desc).map (fun d => d.parameters.length) = some 1 := by decide +kernel
theorem hv_X0_rest : yX0_rest.cls = RX0 ∧ yX0_rest.cls ≠ "java/lang/invoke/MethodHandle" ∧ yX0_rest.cls ≠ "java/lang/invoke/VarHandle" ∧ (parseMethodDescriptor yX0_rest.desc).map (fun d => d.parameters.length) = some 1 := by decide +kernel
theorem hv_X0_takePart : yX0_takePart.cls = RX0 ∧ yX0_takePart.cls ≠ "java/lang/invoke/MethodHandle" ∧ yX0_takePart.cls ≠ "java/lang/invoke/VarHandle" ∧ (parseMethodDescriptor yX0_takePart.desc).map (fun d => d.parameters.length) = some 2 := by decide +kernel
theorem hv_X0_takeSetting : yX0_takeSetting.cls = RX0 ∧ yX0_takeSetting.cls ≠ "java/lang/invoke/MethodHandle" ∧ yX0_takeSetting.cls ≠ "java/lang/invoke/VarHandle" ∧ (parseMethodDescriptor yX0_takeSetting.desc).map (fun d => d.parameters.length) = some 2 := by decide +kernel
theorem hv_X0_takeTry : yX0_takeTry.cls = RX0 ∧ yX0_takeTry.cls ≠ "java/lang/invoke/MethodHandle" ∧ yX0_takeTry.cls ≠ "java/lang/invoke/VarHandle" ∧ (parseMethodDescriptor yX0_takeTry.desc).map (fun d => d.parameters.length) = some 1 := by decide +kernel
theorem hv_X0_takeWait : yX0_takeWait.cls = RX0 ∧ yX0_takeWait.cls ≠ "java/lang/invoke/MethodHandle" ∧ yX0_takeWait.cls ≠ "java/lang/invoke/VarHandle" ∧ (parseMethodDescriptor yX0_takeWait.desc).map (fun d => d.parameters.length) = some 1 := by decide +kernel
theorem hv_X2_formFault : yX2_formFault.cls = RX2 ∧ yX2_formFault.cls ≠ "java/lang/invoke/MethodHandle" ∧ yX2_formFault.cls ≠ "java/lang/invoke/VarHandle" ∧ (parseMethodDescriptor yX2_formFault.desc).map (fun d => d.parameters.length) = some 0 := by decide +kernel
theorem hv_X2_letterAt : yX2_letterAt.cls = RX2 ∧ yX2_letterAt.cls ≠ "java/lang/invoke/MethodHandle" ∧ yX2_letterAt.cls ≠ "java/lang/invoke/VarHandle" ∧ (parseMethodDescriptor yX2_letterAt.desc).map (fun d => d.parameters.length) = some 1 := by decide +kernel
theorem hv_X2_numberAt : yX2_numberAt.cls = RX2 ∧ yX2_numberAt.cls ≠ "java/lang/invoke/MethodHandle" ∧ yX2_numberAt.cls ≠ "java/lang/invoke/VarHandle" ∧ (parseMethodDescriptor yX2_numberAt.desc).map (fun d => d.parameters.length) = some 2 := by decide +kernel
theorem hv_X2_refuse : yX2_refuse.cls = RX2 ∧ yX2_refuse.cls ≠ "java/lang/invoke/MethodHandle" ∧ yX2_refuse.cls ≠ "java/lang/invoke/VarHandle" ∧ (parseMethodDescriptor yX2_refuse.desc).map (fun d => d.parameters.length) = some 1 := by decide +kernel
theorem hv_X2_takeStatement : yX2_takeStatement.cls = RX2 ∧ yX2_takeStatement.cls ≠ "java/lang/invoke/MethodHandle" ∧ yX2_takeStatement.cls ≠ "java/lang/invoke/VarHandle" ∧ (parseMethodDescriptor yX2_takeStatement.desc).map (fun d => d.parameters.length) = some 1 := by decide +kernel
theorem hv_X2_takeStatements : yX2_takeStatements.cls = RX2 ∧ yX2_takeStatements.cls ≠ "java/lang/invoke/MethodHandle" ∧ yX2_takeStatements.cls ≠ "java/lang/invoke/VarHandle" ∧ (parseMethodDescriptor yX2_takeStatements.desc).map (fun d => d.parameters.length) = some 0 := by decide +kernel

set_option maxHeartbeats 8000000 in
set_option maxRecDepth 100000 in
theorem c_X0_takeWait (l : Launch) (D : va_G) (cA : ClassId) (ad : Nat → Nat) (a_this a_this_kinds a_this_thicks : Nat) (sz : Nat) (g_this : Nat → Int32) (p1 : Int32) (q : Int32 × (Nat → Int32)) (hf : f_X0_takeWait g_this p1 = some q) : Met l yX0_takeWait wsX0_takeWait ({ frames := 2, cells := 0, slots := 0, locals := 42 } : Room) (va_Pc [.ref a_this, .int p1] (rf_Pre D cA ad [(a_this, .inr (0, rf_o0 a_this_kinds a_this_thicks g_this))] sz)) (va_Qi (fun (r : Int32) (_ : Unit) => r = q.1) (fun _ t => rf_Post D (va_A [(a_this, .inr (0, rf_o0 a_this_kinds a_this_thicks g_this))] sz) [(a_this, .inr (0, rf_o0 a_this_kinds a_this_thicks q.2))] t) (va_A [(a_this, .inr (0, rf_o0 a_this_kinds a_this_thicks g_this))] sz)) 0 0 (va_A [(a_this, .inr (0, rf_o0 a_this_kinds a_this_thicks g_this))] sz) := by
  refine Met.ofW (cc := cX0_takeWait) (maxL := 2) (ret := (some .boolean)) (by decide) rfl ?_
  intro p e s m args below meth c s₁ B hml hv
  obtain ⟨rfl, hsz, hP, hK, hD0, hE⟩ := hv
  have hx := B.exec
  have hb := B.bytes
  have hr := B.returns
  have hts := atoms_spec (ws := wsX0_takeWait) B.pre
  have hown : s.vm.findClass RX0 = some m.cls := findClass_of_methodNamed B.named
  have hlocks := B.notSynchronized
  subst hsz
  have hD := hD0.self (sz := s.heap.size)
  generalize hAe : va_A [(a_this, .inr (0, rf_o0 a_this_kinds a_this_thicks g_this))] s.heap.size = A at hD hE ⊢
  have hA : ∀ q : Nat, s.heap.size ≤ q → A q := fun q h => by rw [← hAe]; exact Or.inr h
  have hS : va_S A s.heap s.heap [] := va_S.rf
  have hP : va_P D vwCl [(a_this, .inr (0, rf_o0 a_this_kinds a_this_thicks g_this))] s.heap := hP
  have hl := lv_entry ([.ref a_this, .int p1]) (n := 2) (Nat.le_of_ble_eq_true rfl)
  rw [lg_entry_eq]
  generalize (lg_sl ([.ref a_this, .int p1]) ++ List.replicate (2 - (lg_sl ([.ref a_this, .int p1])).length) Slot.unset).toArray = ls at hl ⊢
  have hl : lv_has ls 2 [(0, .ref a_this), (1, .int p1)] := hl
  rw [f_X0_takeWait] at hf
  refine lv_iload_n hx hb dX0_takeWait_0 rfl (lv_at hl 1 rfl) ?_
  refine lv_iconst (v := 1) hx hb dX0_takeWait_1 (by decide) ?_
  refine lv_icmp_lt (tgt := 19) hx hb dX0_takeWait_2 (by decide) (fun c1 => ?_) (fun c1 => ?_)
  · have hf := rf_ifp hf c1
    refine lv_iconst (v := 0) hx hb dX0_takeWait_19 (by decide) ?_
    obtain rfl := Option.some.inj hf
    exact W.zret (v := 0) hx hb hr rfl (fun t ht hW => ⟨⟨0, (), rfl, rfl, rf_mk ht hP hD⟩, hS.F ht⟩) hS.2.2 dX0_takeWait_20
  · have hf := rf_ifn hf c1
    refine lv_iload_n hx hb dX0_takeWait_5 rfl (lv_at hl 1 rfl) ?_
    refine lv_bipush (v := 60) hx hb dX0_takeWait_6 (by decide) ?_
    refine lv_icmp_gt (tgt := 19) hx hb dX0_takeWait_8 (by decide) (fun c2 => ?_) (fun c2 => ?_)
    · have hf := rf_ifp hf c2
      refine lv_iconst (v := 0) hx hb dX0_takeWait_19 (by decide) ?_
      obtain rfl := Option.some.inj hf
      exact W.zret (v := 0) hx hb hr rfl (fun t ht hW => ⟨⟨0, (), rfl, rfl, rf_mk ht hP hD⟩, hS.F ht⟩) hS.2.2 dX0_takeWait_20
    · have hf := rf_ifn hf c2
      refine lv_aload_n hx hb dX0_takeWait_11 rfl (lv_at hl 0 rfl) ?_
      refine lv_iload_n hx hb dX0_takeWait_12 rfl (lv_at hl 1 rfl) ?_
      obtain ⟨q3, hq3, hf⟩ := rf_bindq hf
      refine rf_Vi (As := [.int p1]) (rest := []) (wr := []) (wn := [(a_this, .inr (0, rf_o0 a_this_kinds a_this_thicks g_this))]) ⟨hx, hb, hml, hown, hts⟩ hK hP hD hS hA hE (c_X0_hasMinutes l D cA ad a_this a_this_kinds a_this_thicks s.heap.size g_this p1 q3 hq3) (cwV 1 hts gX0_takeWait_X0_hasMinutes rfl rfl rfl hv_X0_hasMinutes ⟨Nat.le_of_ble_eq_true rfl, Nat.le_of_ble_eq_true rfl⟩) [0] [] [0] rfl rfl rfl rfl (by decide) rfl rfl 0 0 rfl rfl rfl rfl rfl hl.1 (Nat.le_of_ble_eq_true rfl) dX0_takeWait_13 ⟨Nat.zero_le _, Nat.zero_le _⟩ (fun H locs hP hD hS => ?_)
      refine lv_if_ne (tgt := 21) hx hb dX0_takeWait_16 (by decide) (fun c4 => ?_) (fun c4 => ?_)
      · have hf := rf_ifn hf c4
        refine lv_aload_n hx hb dX0_takeWait_21 rfl (lv_at hl 0 rfl) ?_
        refine lv_iload_n hx hb dX0_takeWait_22 rfl (lv_at hl 1 rfl) ?_
        obtain ⟨q5, hq5, hf⟩ := rf_bindq hf
        refine rf_Vv (As := [.int p1]) (rest := []) (wr := []) (wn := [(a_this, .inr (0, rf_o0 a_this_kinds a_this_thicks q5))]) ⟨hx, hb, hml, hown, hts⟩ hK hP hD hS hA hE (c_X0_rest l D cA ad a_this a_this_kinds a_this_thicks H.size g_this p1 q5 hq5) (cwV 1 hts gX0_takeWait_X0_rest rfl rfl rfl hv_X0_rest ⟨Nat.le_of_ble_eq_true rfl, Nat.le_of_ble_eq_true rfl⟩) [0] [] [0] rfl rfl rfl rfl (by decide) rfl rfl 0 0 rfl rfl rfl rfl rfl hl.1 (Nat.le_of_ble_eq_true rfl) dX0_takeWait_23 ⟨Nat.zero_le _, Nat.zero_le _⟩ (fun H locs hP hD hS => ?_)
        refine lv_iconst (v := 1) hx hb dX0_takeWait_26 (by decide) ?_
        obtain rfl := Option.some.inj hf
        exact W.zret (v := 1) hx hb hr rfl (fun t ht hW => ⟨⟨1, (), rfl, rfl, rf_mk ht hP hD⟩, hS.F ht⟩) hS.2.2 dX0_takeWait_27
      · have hf := rf_ifp hf c4
        refine lv_iconst (v := 0) hx hb dX0_takeWait_19 (by decide) ?_
        obtain rfl := Option.some.inj hf
        exact W.zret (v := 0) hx hb hr rfl (fun t ht hW => ⟨⟨0, (), rfl, rfl, rf_mk ht hP hD⟩, hS.F ht⟩) hS.2.2 dX0_takeWait_20
theorem kX2_refuse_0 : (.fieldLink RX2 39 "RingAndFinger" "refusals" "[I" : Cond) ∈ wsX2_refuse := by decide +kernel
theorem jX2_refuse_X2 : ∀ w ∈ u_ws RX2 TX2 12, w ∈ wsX2_refuse := by decide +kernel
set_option maxHeartbeats 8000000 in
set_option maxRecDepth 100000 in
theorem c_X2_refuse (l : Launch) (D : va_G) (cA : ClassId) (ad : Nat → Nat) (a_this a_this_now a_this_then a_this_trial a_this_search a_this_letters a_this_numbers a_this_thickest a_this_refusals : Nat) (sz : Nat) (g_this f_this_refusals : Nat → Int32) (p1 : Int32) (q : Int32 × (Nat → Int32)) (hf : f_X2_refuse g_this f_this_refusals p1 = some q) : Met l yX2_refuse wsX2_refuse ({ frames := 1, cells := 0, slots := 0, locals := 22 } : Room) (va_Pc [.ref a_this, .int p1] (rf_Pre D cA ad [(a_this, .inr (2, rf_o2 a_this_now a_this_then a_this_trial a_this_search a_this_letters a_this_numbers a_this_thickest a_this_refusals g_this)), (a_this_refusals, .inl (cA, 7, .inl f_this_refusals))] sz)) (va_Qi (fun (r : Int32) (_ : Unit) => r = q.1) (fun _ t => rf_Post D (va_A [(a_this, .inr (2, rf_o2 a_this_now a_this_then a_this_trial a_this_search a_this_letters a_this_numbers a_this_thickest a_this_refusals g_this)), (a_this_refusals, .inl (cA, 7, .inl f_this_refusals))] sz) [(a_this, .inr (2, rf_o2 a_this_now a_this_then a_this_trial a_this_search a_this_letters a_this_numbers a_this_thickest a_this_refusals g_this)), (a_this_refusals, .inl (cA, 7, .inl q.2))] t) (va_A [(a_this, .inr (2, rf_o2 a_this_now a_this_then a_this_trial a_this_search a_this_letters a_this_numbers a_this_thickest a_this_refusals g_this)), (a_this_refusals, .inl (cA, 7, .inl f_this_refusals))] sz)) 0 0 (va_A [(a_this, .inr (2, rf_o2 a_this_now a_this_then a_this_trial a_this_search a_this_letters a_this_numbers a_this_thickest a_this_refusals g_this)), (a_this_refusals, .inl (cA, 7, .inl f_this_refusals))] sz) := by
  refine Met.ofW (cc := cX2_refuse) (maxL := 2) (ret := (some .int)) (by decide) rfl ?_
  intro p e s m args below meth c s₁ B hml hv
  obtain ⟨rfl, hsz, hP, hK, hD0, hE⟩ := hv
  have hx := B.exec
  have hb := B.bytes
  have hr := B.returns
  have hts := atoms_spec (ws := wsX2_refuse) B.pre
  have hown : s.vm.findClass RX2 = some m.cls := findClass_of_methodNamed B.named
  have hlocks := B.notSynchronized
  subst hsz
  have hD := hD0.self (sz := s.heap.size)
  generalize hAe : va_A [(a_this, .inr (2, rf_o2 a_this_now a_this_then a_this_trial a_this_search a_this_letters a_this_numbers a_this_thickest a_this_refusals g_this)), (a_this_refusals, .inl (cA, 7, .inl f_this_refusals))] s.heap.size = A at hD hE ⊢
  have hA : ∀ q : Nat, s.heap.size ≤ q → A q := fun q h => by rw [← hAe]; exact Or.inr h
  have hS : va_S A s.heap s.heap [] := va_S.rf
  have hP : va_P D vwCl [(a_this, .inr (2, rf_o2 a_this_now a_this_then a_this_trial a_this_search a_this_letters a_this_numbers a_this_thickest a_this_refusals g_this)), (a_this_refusals, .inl (cA, 7, .inl f_this_refusals))] s.heap := hP
  have hl := lv_entry ([.ref a_this, .int p1]) (n := 2) (Nat.le_of_ble_eq_true rfl)
  rw [lg_entry_eq]
  generalize (lg_sl ([.ref a_this, .int p1]) ++ List.replicate (2 - (lg_sl ([.ref a_this, .int p1])).length) Slot.unset).toArray = ls at hl ⊢
  have hl : lv_has ls 2 [(0, .ref a_this), (1, .int p1)] := hl
  rw [f_X2_refuse] at hf
  refine lv_aload_n hx hb dX2_refuse_0 rfl (lv_at hl 0 rfl) ?_
  refine va_get (D := D) (ci := 2) (v := .ref a_this_refusals) (C := RX2) (T := TX2) (N := 12) hx hb hts jX2_refuse_X2 hown hK hP 0 rfl rfl 7 (by decide) (hts _ kX2_refuse_0) (fun _ h9 => h9) rfl dX2_refuse_1 ?_
  refine lv_iload_n hx hb dX2_refuse_4 rfl (lv_at hl 1 rfl) ?_
  refine lv_ineg hx hb dX2_refuse_5 ?_
  refine lv_aload_n hx hb dX2_refuse_6 rfl (lv_at hl 0 rfl) ?_
  refine va_get (D := D) (ci := 2) (v := .ref a_this_refusals) (C := RX2) (T := TX2) (N := 12) hx hb hts jX2_refuse_X2 hown hK hP 0 rfl rfl 7 (by decide) (hts _ kX2_refuse_0) (fun _ h9 => h9) rfl dX2_refuse_7 ?_
  refine lv_iload_n hx hb dX2_refuse_10 rfl (lv_at hl 1 rfl) ?_
  refine lv_ineg hx hb dX2_refuse_11 ?_
  obtain ⟨q1, hq1, hf⟩ := rf_bindq hf
  refine rf_Si (As := [.ref a_this_refusals, .int (-p1)]) (rest := [.int (-p1), .ref a_this_refusals]) (wr := [(a_this, .inr (2, rf_o2 a_this_now a_this_then a_this_trial a_this_search a_this_letters a_this_numbers a_this_thickest a_this_refusals g_this))]) (wn := [(a_this, .inr (2, rf_o2 a_this_now a_this_then a_this_trial a_this_search a_this_letters a_this_numbers a_this_thickest a_this_refusals g_this)), (a_this_refusals, .inl (cA, 7, .inl f_this_refusals))]) ⟨hx, hb, hml, hown, hts⟩ hK hP hD hS hA hE (c_X2_at l D cA ad a_this_refusals s.heap.size 7 f_this_refusals (-p1) q1 hq1) (va_cwS 2 hts gX2_refuse_X2_at rfl rfl rfl hs_X2_at ⟨Nat.le_of_ble_eq_true rfl, Nat.le_of_ble_eq_true rfl⟩) [1] [0] [0, 1] rfl rfl rfl rfl (by decide) rfl rfl rfl rfl hl.1 (Nat.le_of_ble_eq_true rfl) dX2_refuse_12 ⟨Nat.zero_le _, Nat.zero_le _⟩ (fun H locs hP hD hS => ?_)
  refine lv_iconst (v := 1) hx hb dX2_refuse_15 (by decide) ?_
  refine lv_iadd hx hb dX2_refuse_16 ?_
  obtain ⟨q2, hq2, hf⟩ := rf_bindq hf
  refine rf_Sv (As := [.ref a_this_refusals, .int (-p1), .int (q1 + 1)]) (rest := []) (wr := [(a_this, .inr (2, rf_o2 a_this_now a_this_then a_this_trial a_this_search a_this_letters a_this_numbers a_this_thickest a_this_refusals g_this))]) (wn := [(a_this, .inr (2, rf_o2 a_this_now a_this_then a_this_trial a_this_search a_this_letters a_this_numbers a_this_thickest a_this_refusals g_this)), (a_this_refusals, .inl (cA, 7, .inl q2))]) ⟨hx, hb, hml, hown, hts⟩ hK hP hD hS hA hE (c_X2_put l D cA ad a_this_refusals H.size 7 f_this_refusals (-p1) (q1 + 1) q2 hq2) (va_cwS 3 hts gX2_refuse_X2_put rfl rfl rfl hs_X2_put ⟨Nat.le_of_ble_eq_true rfl, Nat.le_of_ble_eq_true rfl⟩) [1] [0] [0, 1] rfl rfl rfl rfl (by decide) rfl rfl rfl rfl hl.1 (Nat.le_of_ble_eq_true rfl) dX2_refuse_17 ⟨Nat.zero_le _, Nat.zero_le _⟩ (fun H locs hP hD hS => ?_)
  refine lv_iload_n hx hb dX2_refuse_20 rfl (lv_at hl 1 rfl) ?_
  obtain rfl := Option.some.inj hf
  exact W.iret (v := p1) hx hb hr (fun t ht hW => ⟨⟨p1, (), rfl, rfl, rf_mk ht hP hD⟩, hS.F ht⟩) hS.2.2 dX2_refuse_21
theorem kX2_letter_0 : (.fieldLink RX2 42 "RingAndFinger" "letterCount" "I" : Cond) ∈ wsX2_letter := by decide +kernel
theorem kX2_letter_1 : (.fieldLink RX2 29 "RingAndFinger" "letters" "[I" : Cond) ∈ wsX2_letter := by decide +kernel
theorem jX2_letter_X2 : ∀ w ∈ u_ws RX2 TX2 12, w ∈ wsX2_letter := by decide +kernel
set_option maxHeartbeats 8000000 in
set_option maxRecDepth 100000 in
theorem c_X2_letter (l : Launch) (D : va_G) (cA : ClassId) (ad : Nat → Nat) (a_this a_this_now a_this_then a_this_trial a_this_search a_this_letters a_this_numbers a_this_thickest a_this_refusals : Nat) (sz : Nat) (g_this f_this_letters f_this_refusals : Nat → Int32) (p1 : Int32) (q : Int32 × (Nat → Int32) × (Nat → Int32) × (Nat → Int32)) (hf : f_X2_letter g_this f_this_letters f_this_refusals p1 = some q) : Met l yX2_letter wsX2_letter ({ frames := 2, cells := 0, slots := 0, locals := 43 } : Room) (va_Pc [.ref a_this, .int p1] (rf_Pre D cA ad [(a_this, .inr (2, rf_o2 a_this_now a_this_then a_this_trial a_this_search a_this_letters a_this_numbers a_this_thickest a_this_refusals g_this)), (a_this_letters, .inl (cA, 96, .inl f_this_letters)), (a_this_refusals, .inl (cA, 7, .inl f_this_refusals))] sz)) (va_Qi (fun (r : Int32) (_ : Unit) => r = q.1) (fun _ t => rf_Post D (va_A [(a_this, .inr (2, rf_o2 a_this_now a_this_then a_this_trial a_this_search a_this_letters a_this_numbers a_this_thickest a_this_refusals g_this)), (a_this_letters, .inl (cA, 96, .inl f_this_letters)), (a_this_refusals, .inl (cA, 7, .inl f_this_refusals))] sz) [(a_this, .inr (2, rf_o2 a_this_now a_this_then a_this_trial a_this_search a_this_letters a_this_numbers a_this_thickest a_this_refusals q.2.1)), (a_this_letters, .inl (cA, 96, .inl q.2.2.1)), (a_this_refusals, .inl (cA, 7, .inl q.2.2.2))] t) (va_A [(a_this, .inr (2, rf_o2 a_this_now a_this_then a_this_trial a_this_search a_this_letters a_this_numbers a_this_thickest a_this_refusals g_this)), (a_this_letters, .inl (cA, 96, .inl f_this_letters)), (a_this_refusals, .inl (cA, 7, .inl f_this_refusals))] sz)) 0 0 (va_A [(a_this, .inr (2, rf_o2 a_this_now a_this_then a_this_trial a_this_search a_this_letters a_this_numbers a_this_thickest a_this_refusals g_this)), (a_this_letters, .inl (cA, 96, .inl f_this_letters)), (a_this_refusals, .inl (cA, 7, .inl f_this_refusals))] sz) := by
  refine Met.ofW (cc := cX2_letter) (maxL := 2) (ret := (some .int)) (by decide) rfl ?_
  intro p e s m args below meth c s₁ B hml hv
  obtain ⟨rfl, hsz, hP, hK, hD0, hE⟩ := hv
  have hx := B.exec
  have hb := B.bytes
  have hr := B.returns
  have hts := atoms_spec (ws := wsX2_letter) B.pre
  have hown : s.vm.findClass RX2 = some m.cls := findClass_of_methodNamed B.named
  have hlocks := B.notSynchronized
  subst hsz
  have hD := hD0.self (sz := s.heap.size)
  generalize hAe : va_A [(a_this, .inr (2, rf_o2 a_this_now a_this_then a_this_trial a_this_search a_this_letters a_this_numbers a_this_thickest a_this_refusals g_this)), (a_this_letters, .inl (cA, 96, .inl f_this_letters)), (a_this_refusals, .inl (cA, 7, .inl f_this_refusals))] s.heap.size = A at hD hE ⊢
  have hA : ∀ q : Nat, s.heap.size ≤ q → A q := fun q h => by rw [← hAe]; exact Or.inr h
  have hS : va_S A s.heap s.heap [] := va_S.rf
  have hP : va_P D vwCl [(a_this, .inr (2, rf_o2 a_this_now a_this_then a_this_trial a_this_search a_this_letters a_this_numbers a_this_thickest a_this_refusals g_this)), (a_this_letters, .inl (cA, 96, .inl f_this_letters)), (a_this_refusals, .inl (cA, 7, .inl f_this_refusals))] s.heap := hP
  have hl := lv_entry ([.ref a_this, .int p1]) (n := 2) (Nat.le_of_ble_eq_true rfl)
  rw [lg_entry_eq]
  generalize (lg_sl ([.ref a_this, .int p1]) ++ List.replicate (2 - (lg_sl ([.ref a_this, .int p1])).length) Slot.unset).toArray = ls at hl ⊢
  have hl : lv_has ls 2 [(0, .ref a_this), (1, .int p1)] := hl
  rw [f_X2_letter] at hf
  refine lv_iload_n hx hb dX2_letter_0 rfl (lv_at hl 1 rfl) ?_
  refine lv_if_ge (tgt := 11) hx hb dX2_letter_1 (by decide) (fun c1 => ?_) (fun c1 => ?_)
  · have hf := rf_ifp hf c1
    refine lv_iload_n hx hb dX2_letter_11 rfl (lv_at hl 1 rfl) ?_
    refine lv_sipush (v := 255) hx hb dX2_letter_12 (by decide) ?_
    refine lv_icmp_gt (tgt := 27) hx hb dX2_letter_15 (by decide) (fun c2 => ?_) (fun c2 => ?_)
    · have hf := rf_ifp hf c2
      refine lv_aload_n hx hb dX2_letter_27 rfl (lv_at hl 0 rfl) ?_
      refine lv_bipush (v := (-6)) hx hb dX2_letter_28 (by decide) ?_
      obtain ⟨q3, hq3, hf⟩ := rf_bindq hf
      refine rf_Vi (As := [.int (-6)]) (rest := []) (wr := [(a_this_letters, .inl (cA, 96, .inl f_this_letters))]) (wn := [(a_this, .inr (2, rf_o2 a_this_now a_this_then a_this_trial a_this_search a_this_letters a_this_numbers a_this_thickest a_this_refusals g_this)), (a_this_letters, .inl (cA, 96, .inl f_this_letters)), (a_this_refusals, .inl (cA, 7, .inl q3.2))]) ⟨hx, hb, hml, hown, hts⟩ hK hP hD hS hA hE (c_X2_refuse l D cA ad a_this a_this_now a_this_then a_this_trial a_this_search a_this_letters a_this_numbers a_this_thickest a_this_refusals s.heap.size g_this f_this_refusals (-6) q3 hq3) (cwV 1 hts gX2_letter_X2_refuse rfl rfl rfl hv_X2_refuse ⟨Nat.le_of_ble_eq_true rfl, Nat.le_of_ble_eq_true rfl⟩) [0, 2] [1] [1, 0, 2] rfl rfl rfl rfl (by decide) rfl rfl 2 0 rfl rfl rfl rfl rfl hl.1 (Nat.le_of_ble_eq_true rfl) dX2_letter_30 ⟨Nat.zero_le _, Nat.zero_le _⟩ (fun H locs hP hD hS => ?_)
      obtain rfl := Option.some.inj hf
      exact W.iret (v := q3.1) hx hb hr (fun t ht hW => ⟨⟨q3.1, (), rfl, rfl, rf_mk ht hP hD⟩, hS.F ht⟩) hS.2.2 dX2_letter_33
    · have hf := rf_ifn hf c2
      refine lv_aload_n hx hb dX2_letter_18 rfl (lv_at hl 0 rfl) ?_
      refine va_get (D := D) (ci := 2) (v := .int (g_this 0)) (C := RX2) (T := TX2) (N := 12) hx hb hts jX2_letter_X2 hown hK hP 0 rfl rfl 8 (by decide) (hts _ kX2_letter_0) (fun _ h9 => h9) rfl dX2_letter_19 ?_
      refine lv_bipush (v := 96) hx hb dX2_letter_22 (by decide) ?_
      refine lv_icmp_lt (tgt := 34) hx hb dX2_letter_24 (by decide) (fun c4 => ?_) (fun c4 => ?_)
      · have hf := rf_ifp hf c4
        refine lv_aload_n hx hb dX2_letter_34 rfl (lv_at hl 0 rfl) ?_
        refine va_get (D := D) (ci := 2) (v := .ref a_this_letters) (C := RX2) (T := TX2) (N := 12) hx hb hts jX2_letter_X2 hown hK hP 0 rfl rfl 4 (by decide) (hts _ kX2_letter_1) (fun _ h9 => h9) rfl dX2_letter_35 ?_
        refine lv_aload_n hx hb dX2_letter_38 rfl (lv_at hl 0 rfl) ?_
        refine va_get (D := D) (ci := 2) (v := .int (g_this 0)) (C := RX2) (T := TX2) (N := 12) hx hb hts jX2_letter_X2 hown hK hP 0 rfl rfl 8 (by decide) (hts _ kX2_letter_0) (fun _ h9 => h9) rfl dX2_letter_39 ?_
        refine lv_iload_n hx hb dX2_letter_42 rfl (lv_at hl 1 rfl) ?_
        obtain ⟨q5, hq5, hf⟩ := rf_bindq hf
        refine rf_Sv (As := [.ref a_this_letters, .int (g_this 0), .int p1]) (rest := []) (wr := [(a_this, .inr (2, rf_o2 a_this_now a_this_then a_this_trial a_this_search a_this_letters a_this_numbers a_this_thickest a_this_refusals g_this)), (a_this_refusals, .inl (cA, 7, .inl f_this_refusals))]) (wn := [(a_this, .inr (2, rf_o2 a_this_now a_this_then a_this_trial a_this_search a_this_letters a_this_numbers a_this_thickest a_this_refusals g_this)), (a_this_letters, .inl (cA, 96, .inl q5)), (a_this_refusals, .inl (cA, 7, .inl f_this_refusals))]) ⟨hx, hb, hml, hown, hts⟩ hK hP hD hS hA hE (c_X2_put l D cA ad a_this_letters s.heap.size 96 f_this_letters (g_this 0) p1 q5 hq5) (va_cwS 3 hts gX2_letter_X2_put rfl rfl rfl hs_X2_put ⟨Nat.le_of_ble_eq_true rfl, Nat.le_of_ble_eq_true rfl⟩) [1] [0, 2] [0, 2, 1] rfl rfl rfl rfl (by decide) rfl rfl rfl rfl hl.1 (Nat.le_of_ble_eq_true rfl) dX2_letter_43 ⟨Nat.zero_le _, Nat.zero_le _⟩ (fun H locs hP hD hS => ?_)
        refine lv_aload_n hx hb dX2_letter_46 rfl (lv_at hl 0 rfl) ?_
        refine lv_dup hx hb dX2_letter_47 rfl ?_
        refine va_get (D := D) (ci := 2) (v := .int (g_this 0)) (C := RX2) (T := TX2) (N := 12) hx hb hts jX2_letter_X2 hown hK hP 0 rfl rfl 8 (by decide) (hts _ kX2_letter_0) (fun _ h9 => h9) rfl dX2_letter_48 ?_
        refine lv_iconst (v := 1) hx hb dX2_letter_51 (by decide) ?_
        refine lv_iadd hx hb dX2_letter_52 ?_
        refine lv_topi (fun v6 ev6 => ?_)
        have hf := rf_bindv hf ev6
        clear ev6
        refine va_put (D := D) (ci := 2) (v := .int v6) (ty := .int) (C := RX2) (T := TX2) (N := 12) hx hb hts jX2_letter_X2 tyX2 tyX2_ok nmX2 hown hK hP hD hS 0 rfl rfl 8 (by decide) (hts _ kX2_letter_0) (fun _ h9 => h9) rfl (by decide +kernel) rfl rfl (Nat.le_of_ble_eq_true rfl) dX2_letter_53 (fun H locs hP hD hS => ?_)
        have hP : va_P D vwCl [(a_this, .inr (2, rf_o2 a_this_now a_this_then a_this_trial a_this_search a_this_letters a_this_numbers a_this_thickest a_this_refusals (upd g_this 0 v6))), (a_this_letters, .inl (cA, 96, .inl q5)), (a_this_refusals, .inl (cA, 7, .inl f_this_refusals))] H := hP
        have hD : va_D A [(a_this, .inr (2, rf_o2 a_this_now a_this_then a_this_trial a_this_search a_this_letters a_this_numbers a_this_thickest a_this_refusals (upd g_this 0 v6))), (a_this_letters, .inl (cA, 96, .inl q5)), (a_this_refusals, .inl (cA, 7, .inl f_this_refusals))] := hD
        refine lv_aload_n hx hb dX2_letter_56 rfl (lv_at hl 0 rfl) ?_
        refine va_get (D := D) (ci := 2) (v := .int v6) (C := RX2) (T := TX2) (N := 12) hx hb hts jX2_letter_X2 hown hK hP 0 rfl rfl 8 (by decide) (hts _ kX2_letter_0) (fun _ h9 => h9) rfl dX2_letter_57 ?_
        obtain rfl := Option.some.inj hf
        exact W.iret (v := v6) hx hb hr (fun t ht hW => ⟨⟨v6, (), rfl, rfl, rf_mk ht hP hD⟩, hS.F ht⟩) hS.2.2 dX2_letter_60
      · have hf := rf_ifn hf c4
        refine lv_aload_n hx hb dX2_letter_27 rfl (lv_at hl 0 rfl) ?_
        refine lv_bipush (v := (-6)) hx hb dX2_letter_28 (by decide) ?_
        obtain ⟨q7, hq7, hf⟩ := rf_bindq hf
        refine rf_Vi (As := [.int (-6)]) (rest := []) (wr := [(a_this_letters, .inl (cA, 96, .inl f_this_letters))]) (wn := [(a_this, .inr (2, rf_o2 a_this_now a_this_then a_this_trial a_this_search a_this_letters a_this_numbers a_this_thickest a_this_refusals g_this)), (a_this_letters, .inl (cA, 96, .inl f_this_letters)), (a_this_refusals, .inl (cA, 7, .inl q7.2))]) ⟨hx, hb, hml, hown, hts⟩ hK hP hD hS hA hE (c_X2_refuse l D cA ad a_this a_this_now a_this_then a_this_trial a_this_search a_this_letters a_this_numbers a_this_thickest a_this_refusals s.heap.size g_this f_this_refusals (-6) q7 hq7) (cwV 1 hts gX2_letter_X2_refuse rfl rfl rfl hv_X2_refuse ⟨Nat.le_of_ble_eq_true rfl, Nat.le_of_ble_eq_true rfl⟩) [0, 2] [1] [1, 0, 2] rfl rfl rfl rfl (by decide) rfl rfl 2 0 rfl rfl rfl rfl rfl hl.1 (Nat.le_of_ble_eq_true rfl) dX2_letter_30 ⟨Nat.zero_le _, Nat.zero_le _⟩ (fun H locs hP hD hS => ?_)
        obtain rfl := Option.some.inj hf
        exact W.iret (v := q7.1) hx hb hr (fun t ht hW => ⟨⟨q7.1, (), rfl, rfl, rf_mk ht hP hD⟩, hS.F ht⟩) hS.2.2 dX2_letter_33
  · have hf := rf_ifn hf c1
    refine lv_aload_n hx hb dX2_letter_4 rfl (lv_at hl 0 rfl) ?_
    refine lv_bipush (v := (-4)) hx hb dX2_letter_5 (by decide) ?_
    obtain ⟨q8, hq8, hf⟩ := rf_bindq hf
    refine rf_Vi (As := [.int (-4)]) (rest := []) (wr := [(a_this_letters, .inl (cA, 96, .inl f_this_letters))]) (wn := [(a_this, .inr (2, rf_o2 a_this_now a_this_then a_this_trial a_this_search a_this_letters a_this_numbers a_this_thickest a_this_refusals g_this)), (a_this_letters, .inl (cA, 96, .inl f_this_letters)), (a_this_refusals, .inl (cA, 7, .inl q8.2))]) ⟨hx, hb, hml, hown, hts⟩ hK hP hD hS hA hE (c_X2_refuse l D cA ad a_this a_this_now a_this_then a_this_trial a_this_search a_this_letters a_this_numbers a_this_thickest a_this_refusals s.heap.size g_this f_this_refusals (-4) q8 hq8) (cwV 1 hts gX2_letter_X2_refuse rfl rfl rfl hv_X2_refuse ⟨Nat.le_of_ble_eq_true rfl, Nat.le_of_ble_eq_true rfl⟩) [0, 2] [1] [1, 0, 2] rfl rfl rfl rfl (by decide) rfl rfl 2 0 rfl rfl rfl rfl rfl hl.1 (Nat.le_of_ble_eq_true rfl) dX2_letter_7 ⟨Nat.zero_le _, Nat.zero_le _⟩ (fun H locs hP hD hS => ?_)
    obtain rfl := Option.some.inj hf
    exact W.iret (v := q8.1) hx hb hr (fun t ht hW => ⟨⟨q8.1, (), rfl, rfl, rf_mk ht hP hD⟩, hS.F ht⟩) hS.2.2 dX2_letter_10

set_option maxHeartbeats 8000000 in
set_option maxRecDepth 100000 in
theorem c_X2_kindOf (l : Launch) (D : va_G) (cA : ClassId) (ad : Nat → Nat) (sz : Nat) (p0 : Int32) (q : Int32) (hf : f_X2_kindOf p0 = some q) : Met l yX2_kindOf wsX2_kindOf ({ frames := 0, cells := 0, slots := 0, locals := 0 } : Room) (va_Pc [.int p0] (rf_Pre D cA ad [] sz)) (va_Qi (fun (r : Int32) (_ : Unit) => r = q) (fun _ t => rf_Post D (va_A [] sz) [] t) (va_A [] sz)) 0 0 (va_A [] sz) := by
  refine Met.ofW (cc := cX2_kindOf) (maxL := 1) (ret := (some .int)) (by decide) rfl ?_
  intro p e s m args below meth c s₁ B hml hv
  obtain ⟨rfl, hsz, hP, hK, hD0, hE⟩ := hv
  have hx := B.exec
  have hb := B.bytes
  have hr := B.returns
  have hts := atoms_spec (ws := wsX2_kindOf) B.pre
  have hown : s.vm.findClass RX2 = some m.cls := findClass_of_methodNamed B.named
  have hlocks := B.notSynchronized
  subst hsz
  have hD := hD0.self (sz := s.heap.size)
  generalize hAe : va_A [] s.heap.size = A at hD hE ⊢
  have hA : ∀ q : Nat, s.heap.size ≤ q → A q := fun q h => by rw [← hAe]; exact Or.inr h
  have hS : va_S A s.heap s.heap [] := va_S.rf
  have hP : va_P D vwCl [] s.heap := hP
  have hl := lv_entry ([.int p0]) (n := 1) (Nat.le_of_ble_eq_true rfl)
  rw [lg_entry_eq]
  generalize (lg_sl ([.int p0]) ++ List.replicate (1 - (lg_sl ([.int p0])).length) Slot.unset).toArray = ls at hl ⊢
  have hl : lv_has ls 1 [(0, .int p0)] := hl
  rw [f_X2_kindOf] at hf
  refine lv_iload_n hx hb dX2_kindOf_0 rfl (lv_at hl 0 rfl) ?_
  by_cases c1 : p0 = 106
  · have hf := rf_ifp hf c1
    refine rf_tabC (off := 67) (tgt := 68) hx hb dX2_kindOf_1 c1 (by decide) (by decide) (by decide) (by decide) ?_
    refine lv_iconst (v := 4) hx hb dX2_kindOf_68 (by decide) ?_
    obtain rfl := Option.some.inj hf
    exact W.iret (v := 4) hx hb hr (fun t ht hW => ⟨⟨4, (), rfl, rfl, rf_mk ht hP hD⟩, hS.F ht⟩) hS.2.2 dX2_kindOf_69
  · have hf := rf_ifn hf c1
    by_cases c2 : p0 = 107
    · have hf := rf_ifp hf c2
      refine rf_tabC (off := 61) (tgt := 62) hx hb dX2_kindOf_1 c2 (by decide) (by decide) (by decide) (by decide) ?_
      refine lv_iconst (v := 1) hx hb dX2_kindOf_62 (by decide) ?_
      obtain rfl := Option.some.inj hf
      exact W.iret (v := 1) hx hb hr (fun t ht hW => ⟨⟨1, (), rfl, rfl, rf_mk ht hP hD⟩, hS.F ht⟩) hS.2.2 dX2_kindOf_63
    · have hf := rf_ifn hf c2
      by_cases c3 : p0 = 112
      · have hf := rf_ifp hf c3
        refine rf_tabC (off := 59) (tgt := 60) hx hb dX2_kindOf_1 c3 (by decide) (by decide) (by decide) (by decide) ?_
        refine lv_iconst (v := 0) hx hb dX2_kindOf_60 (by decide) ?_
        obtain rfl := Option.some.inj hf
        exact W.iret (v := 0) hx hb hr (fun t ht hW => ⟨⟨0, (), rfl, rfl, rf_mk ht hP hD⟩, hS.F ht⟩) hS.2.2 dX2_kindOf_61
      · have hf := rf_ifn hf c3
        by_cases c4 : p0 = 114
        · have hf := rf_ifp hf c4
          refine rf_tabC (off := 65) (tgt := 66) hx hb dX2_kindOf_1 c4 (by decide) (by decide) (by decide) (by decide) ?_
          refine lv_iconst (v := 3) hx hb dX2_kindOf_66 (by decide) ?_
          obtain rfl := Option.some.inj hf
          exact W.iret (v := 3) hx hb hr (fun t ht hW => ⟨⟨3, (), rfl, rfl, rf_mk ht hP hD⟩, hS.F ht⟩) hS.2.2 dX2_kindOf_67
        · have hf := rf_ifn hf c4
          by_cases c5 : p0 = 115
          · have hf := rf_ifp hf c5
            refine rf_tabC (off := 63) (tgt := 64) hx hb dX2_kindOf_1 c5 (by decide) (by decide) (by decide) (by decide) ?_
            refine lv_iconst (v := 2) hx hb dX2_kindOf_64 (by decide) ?_
            obtain rfl := Option.some.inj hf
            exact W.iret (v := 2) hx hb hr (fun t ht hW => ⟨⟨2, (), rfl, rfl, rf_mk ht hP hD⟩, hS.F ht⟩) hS.2.2 dX2_kindOf_65
          · have hf := rf_ifn hf c5
            by_cases c6 : p0 = 116
            · have hf := rf_ifp hf c6
              refine rf_tabC (off := 69) (tgt := 70) hx hb dX2_kindOf_1 c6 (by decide) (by decide) (by decide) (by decide) ?_
              refine lv_iconst (v := 5) hx hb dX2_kindOf_70 (by decide) ?_
              obtain rfl := Option.some.inj hf
              exact W.iret (v := 5) hx hb hr (fun t ht hW => ⟨⟨5, (), rfl, rfl, rf_mk ht hP hD⟩, hS.F ht⟩) hS.2.2 dX2_kindOf_71
            · have hf := rf_ifn hf c6
              refine rf_tabD (tgt := 72) (ks := [106, 107, 112, 114, 115, 116]) hx hb dX2_kindOf_1 (by intro z hz; simp only [List.mem_cons, List.not_mem_nil, or_false] at hz; rcases hz with rfl | rfl | rfl | rfl | rfl | rfl <;> assumption) (by decide) (by decide) ?_
              refine lv_iconst (v := (-1)) hx hb dX2_kindOf_72 (by decide) ?_
              obtain rfl := Option.some.inj hf
              exact W.iret (v := (-1)) hx hb hr (fun t ht hW => ⟨⟨(-1), (), rfl, rfl, rf_mk ht hP hD⟩, hS.F ht⟩) hS.2.2 dX2_kindOf_73

set_option maxHeartbeats 8000000 in
set_option maxRecDepth 100000 in
theorem c_X2_fits (l : Launch) (D : va_G) (cA : ClassId) (ad : Nat → Nat) (sz : Nat) (p0 p1 p2 p3 : Int32) (q : Int32) (hf : f_X2_fits p0 p1 p2 p3 = some q) : Met l yX2_fits wsX2_fits ({ frames := 1, cells := 0, slots := 0, locals := 20 } : Room) (va_Pc [.int p0, .int p1, .int p2, .int p3] (rf_Pre D cA ad [] sz)) (va_Qi (fun (r : Int32) (_ : Unit) => r = q) (fun _ t => rf_Post D (va_A [] sz) [] t) (va_A [] sz)) 0 0 (va_A [] sz) := by
  refine Met.ofW (cc := cX2_fits) (maxL := 4) (ret := (some .boolean)) (by decide) rfl ?_
  intro p e s m args below meth c s₁ B hml hv
  obtain ⟨rfl, hsz, hP, hK, hD0, hE⟩ := hv
  have hx := B.exec
  have hb := B.bytes
  have hr := B.returns
  have hts := atoms_spec (ws := wsX2_fits) B.pre
  have hown : s.vm.findClass RX2 = some m.cls := findClass_of_methodNamed B.named
  have hlocks := B.notSynchronized
  subst hsz
  have hD := hD0.self (sz := s.heap.size)
  generalize hAe : va_A [] s.heap.size = A at hD hE ⊢
  have hA : ∀ q : Nat, s.heap.size ≤ q → A q := fun q h => by rw [← hAe]; exact Or.inr h
  have hS : va_S A s.heap s.heap [] := va_S.rf
  have hP : va_P D vwCl [] s.heap := hP
  have hl := lv_entry ([.int p0, .int p1, .int p2, .int p3]) (n := 4) (Nat.le_of_ble_eq_true rfl)
  rw [lg_entry_eq]
  generalize (lg_sl ([.int p0, .int p1, .int p2, .int p3]) ++ List.replicate (4 - (lg_sl ([.int p0, .int p1, .int p2, .int p3])).length) Slot.unset).toArray = ls at hl ⊢
  have hl : lv_has ls 4 [(0, .int p0), (1, .int p1), (2, .int p2), (3, .int p3)] := hl
  rw [f_X2_fits] at hf
  refine lv_iload_n hx hb dX2_fits_0 rfl (lv_at hl 1 rfl) ?_
  refine lv_iload_n hx hb dX2_fits_1 rfl (lv_at hl 2 rfl) ?_
  refine lv_iconst (v := 1) hx hb dX2_fits_2 (by decide) ?_
  refine lv_isub hx hb dX2_fits_3 ?_
  refine lv_icmp_ne (tgt := 19) hx hb dX2_fits_4 (by decide) (fun c1 => ?_) (fun c1 => ?_)
  · have hf := rf_ifn hf c1
    refine lv_iload_n hx hb dX2_fits_19 rfl (lv_at hl 0 rfl) ?_
    refine lv_bipush (v := 112) hx hb dX2_fits_20 (by decide) ?_
    refine lv_icmp_ne (tgt := 43) hx hb dX2_fits_22 (by decide) (fun c2 => ?_) (fun c2 => ?_)
    · have hf := rf_ifn hf c2
      refine lv_iload_n hx hb dX2_fits_43 rfl (lv_at hl 3 rfl) ?_
      refine lv_bipush (v := 48) hx hb dX2_fits_44 (by decide) ?_
      refine lv_icmp_lt (tgt := 59) hx hb dX2_fits_46 (by decide) (fun c3 => ?_) (fun c3 => ?_)
      · have hf := rf_ifp hf c3
        refine lv_iconst (v := 0) hx hb dX2_fits_59 (by decide) ?_
        obtain rfl := Option.some.inj hf
        exact W.zret (v := 0) hx hb hr rfl (fun t ht hW => ⟨⟨0, (), rfl, rfl, rf_mk ht hP hD⟩, hS.F ht⟩) hS.2.2 dX2_fits_60
      · have hf := rf_ifn hf c3
        refine lv_iload_n hx hb dX2_fits_49 rfl (lv_at hl 3 rfl) ?_
        refine lv_bipush (v := 57) hx hb dX2_fits_50 (by decide) ?_
        refine lv_icmp_gt (tgt := 59) hx hb dX2_fits_52 (by decide) (fun c4 => ?_) (fun c4 => ?_)
        · have hf := rf_ifp hf c4
          refine lv_iconst (v := 0) hx hb dX2_fits_59 (by decide) ?_
          obtain rfl := Option.some.inj hf
          exact W.zret (v := 0) hx hb hr rfl (fun t ht hW => ⟨⟨0, (), rfl, rfl, rf_mk ht hP hD⟩, hS.F ht⟩) hS.2.2 dX2_fits_60
        · have hf := rf_ifn hf c4
          refine lv_iconst (v := 1) hx hb dX2_fits_55 (by decide) ?_
          refine lv_goto (tgt := 60) hx hb dX2_fits_56 (by decide) ?_
          obtain rfl := Option.some.inj hf
          exact W.zret (v := 1) hx hb hr rfl (fun t ht hW => ⟨⟨1, (), rfl, rfl, rf_mk ht hP hD⟩, hS.F ht⟩) hS.2.2 dX2_fits_60
    · have hf := rf_ifp hf c2
      refine lv_iload_n hx hb dX2_fits_25 rfl (lv_at hl 1 rfl) ?_
      refine lv_iconst (v := 1) hx hb dX2_fits_26 (by decide) ?_
      refine lv_icmp_ne (tgt := 43) hx hb dX2_fits_27 (by decide) (fun c5 => ?_) (fun c5 => ?_)
      · have hf := rf_ifn hf c5
        refine lv_iload_n hx hb dX2_fits_43 rfl (lv_at hl 3 rfl) ?_
        refine lv_bipush (v := 48) hx hb dX2_fits_44 (by decide) ?_
        refine lv_icmp_lt (tgt := 59) hx hb dX2_fits_46 (by decide) (fun c6 => ?_) (fun c6 => ?_)
        · have hf := rf_ifp hf c6
          refine lv_iconst (v := 0) hx hb dX2_fits_59 (by decide) ?_
          obtain rfl := Option.some.inj hf
          exact W.zret (v := 0) hx hb hr rfl (fun t ht hW => ⟨⟨0, (), rfl, rfl, rf_mk ht hP hD⟩, hS.F ht⟩) hS.2.2 dX2_fits_60
        · have hf := rf_ifn hf c6
          refine lv_iload_n hx hb dX2_fits_49 rfl (lv_at hl 3 rfl) ?_
          refine lv_bipush (v := 57) hx hb dX2_fits_50 (by decide) ?_
          refine lv_icmp_gt (tgt := 59) hx hb dX2_fits_52 (by decide) (fun c7 => ?_) (fun c7 => ?_)
          · have hf := rf_ifp hf c7
            refine lv_iconst (v := 0) hx hb dX2_fits_59 (by decide) ?_
            obtain rfl := Option.some.inj hf
            exact W.zret (v := 0) hx hb hr rfl (fun t ht hW => ⟨⟨0, (), rfl, rfl, rf_mk ht hP hD⟩, hS.F ht⟩) hS.2.2 dX2_fits_60
          · have hf := rf_ifn hf c7
            refine lv_iconst (v := 1) hx hb dX2_fits_55 (by decide) ?_
            refine lv_goto (tgt := 60) hx hb dX2_fits_56 (by decide) ?_
            obtain rfl := Option.some.inj hf
            exact W.zret (v := 1) hx hb hr rfl (fun t ht hW => ⟨⟨1, (), rfl, rfl, rf_mk ht hP hD⟩, hS.F ht⟩) hS.2.2 dX2_fits_60
      · have hf := rf_ifp hf c5
        refine lv_iload_n hx hb dX2_fits_30 rfl (lv_at hl 3 rfl) ?_
        obtain ⟨q8, hq8, hf⟩ := rf_bindq hf
        refine rf_Si (As := [.int p3]) (rest := []) (wr := []) (wn := []) ⟨hx, hb, hml, hown, hts⟩ hK hP hD hS hA hE (c_X2_kindOf l D cA ad s.heap.size p3 q8 hq8) (va_cwS 1 hts gX2_fits_X2_kindOf rfl rfl rfl hs_X2_kindOf ⟨Nat.le_of_ble_eq_true rfl, Nat.le_of_ble_eq_true rfl⟩) [] [] [] rfl rfl rfl rfl (by decide) rfl rfl rfl rfl hl.1 (Nat.le_of_ble_eq_true rfl) dX2_fits_31 ⟨Nat.zero_le _, Nat.zero_le _⟩ (fun H locs hP hD hS => ?_)
        refine lv_if_lt (tgt := 41) hx hb dX2_fits_34 (by decide) (fun c9 => ?_) (fun c9 => ?_)
        · have hf := rf_ifp hf c9
          refine lv_iconst (v := 0) hx hb dX2_fits_41 (by decide) ?_
          obtain rfl := Option.some.inj hf
          exact W.zret (v := 0) hx hb hr rfl (fun t ht hW => ⟨⟨0, (), rfl, rfl, rf_mk ht hP hD⟩, hS.F ht⟩) hS.2.2 dX2_fits_42
        · have hf := rf_ifn hf c9
          refine lv_iconst (v := 1) hx hb dX2_fits_37 (by decide) ?_
          refine lv_goto (tgt := 42) hx hb dX2_fits_38 (by decide) ?_
          obtain rfl := Option.some.inj hf
          exact W.zret (v := 1) hx hb hr rfl (fun t ht hW => ⟨⟨1, (), rfl, rfl, rf_mk ht hP hD⟩, hS.F ht⟩) hS.2.2 dX2_fits_42
  · have hf := rf_ifp hf c1
    refine lv_iload_n hx hb dX2_fits_7 rfl (lv_at hl 3 rfl) ?_
    refine lv_bipush (v := 59) hx hb dX2_fits_8 (by decide) ?_
    refine lv_icmp_ne (tgt := 17) hx hb dX2_fits_10 (by decide) (fun c10 => ?_) (fun c10 => ?_)
    · have hf := rf_ifn hf c10
      refine lv_iconst (v := 0) hx hb dX2_fits_17 (by decide) ?_
      obtain rfl := Option.some.inj hf
      exact W.zret (v := 0) hx hb hr rfl (fun t ht hW => ⟨⟨0, (), rfl, rfl, rf_mk ht hP hD⟩, hS.F ht⟩) hS.2.2 dX2_fits_18
    · have hf := rf_ifp hf c10
      refine lv_iconst (v := 1) hx hb dX2_fits_13 (by decide) ?_
      refine lv_goto (tgt := 18) hx hb dX2_fits_14 (by decide) ?_
      obtain rfl := Option.some.inj hf
      exact W.zret (v := 1) hx hb hr rfl (fun t ht hW => ⟨⟨1, (), rfl, rfl, rf_mk ht hP hD⟩, hS.F ht⟩) hS.2.2 dX2_fits_18
theorem kX2_letterAt_0 : (.fieldLink RX2 42 "RingAndFinger" "letterCount" "I" : Cond) ∈ wsX2_letterAt := by decide +kernel
theorem kX2_letterAt_1 : (.fieldLink RX2 29 "RingAndFinger" "letters" "[I" : Cond) ∈ wsX2_letterAt := by decide +kernel
theorem jX2_letterAt_X2 : ∀ w ∈ u_ws RX2 TX2 12, w ∈ wsX2_letterAt := by decide +kernel
set_option maxHeartbeats 8000000 in
set_option maxRecDepth 100000 in
theorem c_X2_letterAt (l : Launch) (D : va_G) (cA : ClassId) (ad : Nat → Nat) (a_this a_this_now a_this_then a_this_trial a_this_search a_this_letters a_this_numbers a_this_thickest a_this_refusals : Nat) (sz : Nat) (g_this f_this_letters : Nat → Int32) (p1 : Int32) (q : Int32) (hf : f_X2_letterAt g_this f_this_letters p1 = some q) : Met l yX2_letterAt wsX2_letterAt ({ frames := 1, cells := 0, slots := 0, locals := 21 } : Room) (va_Pc [.ref a_this, .int p1] (rf_Pre D cA ad [(a_this, .inr (2, rf_o2 a_this_now a_this_then a_this_trial a_this_search a_this_letters a_this_numbers a_this_thickest a_this_refusals g_this)), (a_this_letters, .inl (cA, 96, .inl f_this_letters))] sz)) (va_Qi (fun (r : Int32) (_ : Unit) => r = q) (fun _ t => rf_Post D (va_A [(a_this, .inr (2, rf_o2 a_this_now a_this_then a_this_trial a_this_search a_this_letters a_this_numbers a_this_thickest a_this_refusals g_this)), (a_this_letters, .inl (cA, 96, .inl f_this_letters))] sz) [(a_this, .inr (2, rf_o2 a_this_now a_this_then a_this_trial a_this_search a_this_letters a_this_numbers a_this_thickest a_this_refusals g_this)), (a_this_letters, .inl (cA, 96, .inl f_this_letters))] t) (va_A [(a_this, .inr (2, rf_o2 a_this_now a_this_then a_this_trial a_this_search a_this_letters a_this_numbers a_this_thickest a_this_refusals g_this)), (a_this_letters, .inl (cA, 96, .inl f_this_letters))] sz)) 0 0 (va_A [(a_this, .inr (2, rf_o2 a_this_now a_this_then a_this_trial a_this_search a_this_letters a_this_numbers a_this_thickest a_this_refusals g_this)), (a_this_letters, .inl (cA, 96, .inl f_this_letters))] sz) := by
  refine Met.ofW (cc := cX2_letterAt) (maxL := 2) (ret := (some .int)) (by decide) rfl ?_
  intro p e s m args below meth c s₁ B hml hv
  obtain ⟨rfl, hsz, hP, hK, hD0, hE⟩ := hv
  have hx := B.exec
  have hb := B.bytes
  have hr := B.returns
  have hts := atoms_spec (ws := wsX2_letterAt) B.pre
  have hown : s.vm.findClass RX2 = some m.cls := findClass_of_methodNamed B.named
  have hlocks := B.notSynchronized
  subst hsz
  have hD := hD0.self (sz := s.heap.size)
  generalize hAe : va_A [(a_this, .inr (2, rf_o2 a_this_now a_this_then a_this_trial a_this_search a_this_letters a_this_numbers a_this_thickest a_this_refusals g_this)), (a_this_letters, .inl (cA, 96, .inl f_this_letters))] s.heap.size = A at hD hE ⊢
  have hA : ∀ q : Nat, s.heap.size ≤ q → A q := fun q h => by rw [← hAe]; exact Or.inr h
  have hS : va_S A s.heap s.heap [] := va_S.rf
  have hP : va_P D vwCl [(a_this, .inr (2, rf_o2 a_this_now a_this_then a_this_trial a_this_search a_this_letters a_this_numbers a_this_thickest a_this_refusals g_this)), (a_this_letters, .inl (cA, 96, .inl f_this_letters))] s.heap := hP
  have hl := lv_entry ([.ref a_this, .int p1]) (n := 2) (Nat.le_of_ble_eq_true rfl)
  rw [lg_entry_eq]
  generalize (lg_sl ([.ref a_this, .int p1]) ++ List.replicate (2 - (lg_sl ([.ref a_this, .int p1])).length) Slot.unset).toArray = ls at hl ⊢
  have hl : lv_has ls 2 [(0, .ref a_this), (1, .int p1)] := hl
  rw [f_X2_letterAt] at hf
  refine lv_iload_n hx hb dX2_letterAt_0 rfl (lv_at hl 1 rfl) ?_
  refine lv_aload_n hx hb dX2_letterAt_1 rfl (lv_at hl 0 rfl) ?_
  refine va_get (D := D) (ci := 2) (v := .int (g_this 0)) (C := RX2) (T := TX2) (N := 12) hx hb hts jX2_letterAt_X2 hown hK hP 0 rfl rfl 8 (by decide) (hts _ kX2_letterAt_0) (fun _ h9 => h9) rfl dX2_letterAt_2 ?_
  refine lv_icmp_ge (tgt := 19) hx hb dX2_letterAt_5 (by decide) (fun c1 => ?_) (fun c1 => ?_)
  · have hf := rf_ifp hf c1
    refine lv_iconst (v := (-1)) hx hb dX2_letterAt_19 (by decide) ?_
    obtain rfl := Option.some.inj hf
    exact W.iret (v := (-1)) hx hb hr (fun t ht hW => ⟨⟨(-1), (), rfl, rfl, rf_mk ht hP hD⟩, hS.F ht⟩) hS.2.2 dX2_letterAt_20
  · have hf := rf_ifn hf c1
    refine lv_aload_n hx hb dX2_letterAt_8 rfl (lv_at hl 0 rfl) ?_
    refine va_get (D := D) (ci := 2) (v := .ref a_this_letters) (C := RX2) (T := TX2) (N := 12) hx hb hts jX2_letterAt_X2 hown hK hP 0 rfl rfl 4 (by decide) (hts _ kX2_letterAt_1) (fun _ h9 => h9) rfl dX2_letterAt_9 ?_
    refine lv_iload_n hx hb dX2_letterAt_12 rfl (lv_at hl 1 rfl) ?_
    obtain ⟨q2, hq2, hf⟩ := rf_bindq hf
    refine rf_Si (As := [.ref a_this_letters, .int p1]) (rest := []) (wr := [(a_this, .inr (2, rf_o2 a_this_now a_this_then a_this_trial a_this_search a_this_letters a_this_numbers a_this_thickest a_this_refusals g_this))]) (wn := [(a_this, .inr (2, rf_o2 a_this_now a_this_then a_this_trial a_this_search a_this_letters a_this_numbers a_this_thickest a_this_refusals g_this)), (a_this_letters, .inl (cA, 96, .inl f_this_letters))]) ⟨hx, hb, hml, hown, hts⟩ hK hP hD hS hA hE (c_X2_at l D cA ad a_this_letters s.heap.size 96 f_this_letters p1 q2 hq2) (va_cwS 2 hts gX2_letterAt_X2_at rfl rfl rfl hs_X2_at ⟨Nat.le_of_ble_eq_true rfl, Nat.le_of_ble_eq_true rfl⟩) [1] [0] [0, 1] rfl rfl rfl rfl (by decide) rfl rfl rfl rfl hl.1 (Nat.le_of_ble_eq_true rfl) dX2_letterAt_13 ⟨Nat.zero_le _, Nat.zero_le _⟩ (fun H locs hP hD hS => ?_)
    refine lv_goto (tgt := 20) hx hb dX2_letterAt_16 (by decide) ?_
    obtain rfl := Option.some.inj hf
    exact W.iret (v := q2) hx hb hr (fun t ht hW => ⟨⟨q2, (), rfl, rfl, rf_mk ht hP hD⟩, hS.F ht⟩) hS.2.2 dX2_letterAt_20

set_option maxHeartbeats 8000000 in
set_option maxRecDepth 100000 in
theorem c_X2_statementLength (l : Launch) (D : va_G) (cA : ClassId) (ad : Nat → Nat) (sz : Nat) (p0 : Int32) (q : Int32) (hf : f_X2_statementLength p0 = some q) : Met l yX2_statementLength wsX2_statementLength ({ frames := 0, cells := 0, slots := 0, locals := 0 } : Room) (va_Pc [.int p0] (rf_Pre D cA ad [] sz)) (va_Qi (fun (r : Int32) (_ : Unit) => r = q) (fun _ t => rf_Post D (va_A [] sz) [] t) (va_A [] sz)) 0 0 (va_A [] sz) := by
  refine Met.ofW (cc := cX2_statementLength) (maxL := 1) (ret := (some .int)) (by decide) rfl ?_
  intro p e s m args below meth c s₁ B hml hv
  obtain ⟨rfl, hsz, hP, hK, hD0, hE⟩ := hv
  have hx := B.exec
  have hb := B.bytes
  have hr := B.returns
  have hts := atoms_spec (ws := wsX2_statementLength) B.pre
  have hown : s.vm.findClass RX2 = some m.cls := findClass_of_methodNamed B.named
  have hlocks := B.notSynchronized
  subst hsz
  have hD := hD0.self (sz := s.heap.size)
  generalize hAe : va_A [] s.heap.size = A at hD hE ⊢
  have hA : ∀ q : Nat, s.heap.size ≤ q → A q := fun q h => by rw [← hAe]; exact Or.inr h
  have hS : va_S A s.heap s.heap [] := va_S.rf
  have hP : va_P D vwCl [] s.heap := hP
  have hl := lv_entry ([.int p0]) (n := 1) (Nat.le_of_ble_eq_true rfl)
  rw [lg_entry_eq]
  generalize (lg_sl ([.int p0]) ++ List.replicate (1 - (lg_sl ([.int p0])).length) Slot.unset).toArray = ls at hl ⊢
  have hl : lv_has ls 1 [(0, .int p0)] := hl
  rw [f_X2_statementLength] at hf
  refine lv_iload_n hx hb dX2_statementLength_0 rfl (lv_at hl 0 rfl) ?_
  by_cases c1 : p0 = 99
  · have hf := rf_ifp hf c1
    refine rf_tabC (off := 102) (tgt := 103) hx hb dX2_statementLength_1 c1 (by decide) (by decide) (by decide) (by decide) ?_
    refine lv_iconst (v := 4) hx hb dX2_statementLength_103 (by decide) ?_
    obtain rfl := Option.some.inj hf
    exact W.iret (v := 4) hx hb hr (fun t ht hW => ⟨⟨4, (), rfl, rfl, rf_mk ht hP hD⟩, hS.F ht⟩) hS.2.2 dX2_statementLength_104
  · have hf := rf_ifn hf c1
    by_cases c2 : p0 = 104
    · have hf := rf_ifp hf c2
      refine rf_tabC (off := 104) (tgt := 105) hx hb dX2_statementLength_1 c2 (by decide) (by decide) (by decide) (by decide) ?_
      refine lv_iconst (v := 3) hx hb dX2_statementLength_105 (by decide) ?_
      obtain rfl := Option.some.inj hf
      exact W.iret (v := 3) hx hb hr (fun t ht hW => ⟨⟨3, (), rfl, rfl, rf_mk ht hP hD⟩, hS.F ht⟩) hS.2.2 dX2_statementLength_106
    · have hf := rf_ifn hf c2
      by_cases c3 : p0 = 112
      · have hf := rf_ifp hf c3
        refine rf_tabC (off := 99) (tgt := 100) hx hb dX2_statementLength_1 c3 (by decide) (by decide) (by decide) (by decide) ?_
        refine lv_bipush (v := 6) hx hb dX2_statementLength_100 (by decide) ?_
        obtain rfl := Option.some.inj hf
        exact W.iret (v := 6) hx hb hr (fun t ht hW => ⟨⟨6, (), rfl, rfl, rf_mk ht hP hD⟩, hS.F ht⟩) hS.2.2 dX2_statementLength_102
      · have hf := rf_ifn hf c3
        by_cases c4 : p0 = 114
        · have hf := rf_ifp hf c4
          refine rf_tabC (off := 99) (tgt := 100) hx hb dX2_statementLength_1 c4 (by decide) (by decide) (by decide) (by decide) ?_
          refine lv_bipush (v := 6) hx hb dX2_statementLength_100 (by decide) ?_
          obtain rfl := Option.some.inj hf
          exact W.iret (v := 6) hx hb hr (fun t ht hW => ⟨⟨6, (), rfl, rfl, rf_mk ht hP hD⟩, hS.F ht⟩) hS.2.2 dX2_statementLength_102
        · have hf := rf_ifn hf c4
          by_cases c5 : p0 = 115
          · have hf := rf_ifp hf c5
            refine rf_tabC (off := 102) (tgt := 103) hx hb dX2_statementLength_1 c5 (by decide) (by decide) (by decide) (by decide) ?_
            refine lv_iconst (v := 4) hx hb dX2_statementLength_103 (by decide) ?_
            obtain rfl := Option.some.inj hf
            exact W.iret (v := 4) hx hb hr (fun t ht hW => ⟨⟨4, (), rfl, rfl, rf_mk ht hP hD⟩, hS.F ht⟩) hS.2.2 dX2_statementLength_104
          · have hf := rf_ifn hf c5
            by_cases c6 : p0 = 116
            · have hf := rf_ifp hf c6
              refine rf_tabC (off := 104) (tgt := 105) hx hb dX2_statementLength_1 c6 (by decide) (by decide) (by decide) (by decide) ?_
              refine lv_iconst (v := 3) hx hb dX2_statementLength_105 (by decide) ?_
              obtain rfl := Option.some.inj hf
              exact W.iret (v := 3) hx hb hr (fun t ht hW => ⟨⟨3, (), rfl, rfl, rf_mk ht hP hD⟩, hS.F ht⟩) hS.2.2 dX2_statementLength_106
            · have hf := rf_ifn hf c6
              by_cases c7 : p0 = 119
              · have hf := rf_ifp hf c7
                refine rf_tabC (off := 102) (tgt := 103) hx hb dX2_statementLength_1 c7 (by decide) (by decide) (by decide) (by decide) ?_
                refine lv_iconst (v := 4) hx hb dX2_statementLength_103 (by decide) ?_
                obtain rfl := Option.some.inj hf
                exact W.iret (v := 4) hx hb hr (fun t ht hW => ⟨⟨4, (), rfl, rfl, rf_mk ht hP hD⟩, hS.F ht⟩) hS.2.2 dX2_statementLength_104
              · have hf := rf_ifn hf c7
                refine rf_tabD (tgt := 107) (ks := [99, 104, 112, 114, 115, 116, 119]) hx hb dX2_statementLength_1 (by intro z hz; simp only [List.mem_cons, List.not_mem_nil, or_false] at hz; rcases hz with rfl | rfl | rfl | rfl | rfl | rfl | rfl <;> assumption) (by decide) (by decide) ?_
                refine lv_iconst (v := 0) hx hb dX2_statementLength_107 (by decide) ?_
                obtain rfl := Option.some.inj hf
                exact W.iret (v := 0) hx hb hr (fun t ht hW => ⟨⟨0, (), rfl, rfl, rf_mk ht hP hD⟩, hS.F ht⟩) hS.2.2 dX2_statementLength_108
theorem kX2_formFault_0 : (.fieldLink RX2 42 "RingAndFinger" "letterCount" "I" : Cond) ∈ wsX2_formFault := by decide +kernel
theorem jX2_formFault_X2 : ∀ w ∈ u_ws RX2 TX2 12, w ∈ wsX2_formFault := by decide +kernel
set_option maxHeartbeats 8000000 in
set_option maxRecDepth 100000 in
theorem c_X2_formFault (l : Launch) (D : va_G) (cA : ClassId) (ad : Nat → Nat) (a_this a_this_now a_this_then a_this_trial a_this_search a_this_letters a_this_numbers a_this_thickest a_this_refusals : Nat) (sz : Nat) (g_this f_this_letters : Nat → Int32) (q : Int32) (hf : f_X2_formFault g_this f_this_letters = some q) : Met l yX2_formFault wsX2_formFault ({ frames := 2, cells := 0, slots := 0, locals := 43 } : Room) (va_Pc [.ref a_this] (rf_Pre D cA ad [(a_this, .inr (2, rf_o2 a_this_now a_this_then a_this_trial a_this_search a_this_letters a_this_numbers a_this_thickest a_this_refusals g_this)), (a_this_letters, .inl (cA, 96, .inl f_this_letters))] sz)) (va_Qi (fun (r : Int32) (_ : Unit) => r = q) (fun _ t => rf_Post D (va_A [(a_this, .inr (2, rf_o2 a_this_now a_this_then a_this_trial a_this_search a_this_letters a_this_numbers a_this_thickest a_this_refusals g_this)), (a_this_letters, .inl (cA, 96, .inl f_this_letters))] sz) [(a_this, .inr (2, rf_o2 a_this_now a_this_then a_this_trial a_this_search a_this_letters a_this_numbers a_this_thickest a_this_refusals g_this)), (a_this_letters, .inl (cA, 96, .inl f_this_letters))] t) (va_A [(a_this, .inr (2, rf_o2 a_this_now a_this_then a_this_trial a_this_search a_this_letters a_this_numbers a_this_thickest a_this_refusals g_this)), (a_this_letters, .inl (cA, 96, .inl f_this_letters))] sz)) 0 0 (va_A [(a_this, .inr (2, rf_o2 a_this_now a_this_then a_this_trial a_this_search a_this_letters a_this_numbers a_this_thickest a_this_refusals g_this)), (a_this_letters, .inl (cA, 96, .inl f_this_letters))] sz) := by
  refine Met.ofW (cc := cX2_formFault) (maxL := 6) (ret := (some .int)) (by decide) rfl ?_
  intro p e s m args below meth c s₁ B hml hv
  obtain ⟨rfl, hsz, hP, hK, hD0, hE⟩ := hv
  have hx := B.exec
  have hb := B.bytes
  have hr := B.returns
  have hts := atoms_spec (ws := wsX2_formFault) B.pre
  have hown : s.vm.findClass RX2 = some m.cls := findClass_of_methodNamed B.named
  have hlocks := B.notSynchronized
  subst hsz
  have hD := hD0.self (sz := s.heap.size)
  generalize hAe : va_A [(a_this, .inr (2, rf_o2 a_this_now a_this_then a_this_trial a_this_search a_this_letters a_this_numbers a_this_thickest a_this_refusals g_this)), (a_this_letters, .inl (cA, 96, .inl f_this_letters))] s.heap.size = A at hD hE ⊢
  have hA : ∀ q : Nat, s.heap.size ≤ q → A q := fun q h => by rw [← hAe]; exact Or.inr h
  have hS : va_S A s.heap s.heap [] := va_S.rf
  have hP : va_P D vwCl [(a_this, .inr (2, rf_o2 a_this_now a_this_then a_this_trial a_this_search a_this_letters a_this_numbers a_this_thickest a_this_refusals g_this)), (a_this_letters, .inl (cA, 96, .inl f_this_letters))] s.heap := hP
  have hl := lv_entry ([.ref a_this]) (n := 6) (Nat.le_of_ble_eq_true rfl)
  rw [lg_entry_eq]
  generalize (lg_sl ([.ref a_this]) ++ List.replicate (6 - (lg_sl ([.ref a_this])).length) Slot.unset).toArray = ls at hl ⊢
  have hl : lv_has ls 6 [(0, .ref a_this)] := hl
  have key_49 : ∀ (x1 x2 x3 x4 : Int32) (n : Nat) (x5 : Int32) (ql : (Int32) ⊕ (Int32)), f_X2_formFault_L49 g_this f_this_letters x1 x2 x3 x4 n x5 = some ql → ∀ (H : Heap) (locs : List Loc) (ls : Array Slot), va_P D vwCl [(a_this, .inr (2, rf_o2 a_this_now a_this_then a_this_trial a_this_search a_this_letters a_this_numbers a_this_thickest a_this_refusals g_this)), (a_this_letters, .inl (cA, 96, .inl f_this_letters))] H → va_D A [(a_this, .inr (2, rf_o2 a_this_now a_this_then a_this_trial a_this_search a_this_letters a_this_numbers a_this_thickest a_this_refusals g_this)), (a_this_letters, .inl (cA, 96, .inl f_this_letters))] → va_S A s.heap H locs → lv_has ls 6 [(0, .ref a_this), (1, .int x1), (2, .int x2), (3, .int x3), (4, .int x4), (5, .int x5)] → (∀ r : Int32, ql = .inl r → r = q) → (∀ (x : Int32), ql = .inr x → ∀ (H : Heap) (locs : List Loc) (ls : Array Slot), va_P D vwCl [(a_this, .inr (2, rf_o2 a_this_now a_this_then a_this_trial a_this_search a_this_letters a_this_numbers a_this_thickest a_this_refusals g_this)), (a_this_letters, .inl (cA, 96, .inl f_this_letters))] H → va_D A [(a_this, .inr (2, rf_o2 a_this_now a_this_then a_this_trial a_this_search a_this_letters a_this_numbers a_this_thickest a_this_refusals g_this)), (a_this_letters, .inl (cA, 96, .inl f_this_letters))] → va_S A s.heap H locs → lv_has ls 6 [(0, .ref a_this), (1, .int x1), (2, .int x2), (3, .int x3), (4, .int x4), (5, .int x)] → W p l e (headSpec wsX2_formFault ({ frames := 2, cells := 0, slots := 0, locals := 43 } : Room)).room s m ([.ref a_this] : List Value).toArray below meth c H locs 0 0 (MQ below (va_Qi (fun (r : Int32) (_ : Unit) => r = q) (fun _ t => rf_Post D A [(a_this, .inr (2, rf_o2 a_this_now a_this_then a_this_trial a_this_search a_this_letters a_this_numbers a_this_thickest a_this_refusals g_this)), (a_this_letters, .inl (cA, 96, .inl f_this_letters))] t) A) ([.ref a_this] : List Value).toArray s 0 0 A) (F0 m 86 ls [])) → W p l e (headSpec wsX2_formFault ({ frames := 2, cells := 0, slots := 0, locals := 43 } : Room)).room s m ([.ref a_this] : List Value).toArray below meth c H locs 0 0 (MQ below (va_Qi (fun (r : Int32) (_ : Unit) => r = q) (fun _ t => rf_Post D A [(a_this, .inr (2, rf_o2 a_this_now a_this_then a_this_trial a_this_search a_this_letters a_this_numbers a_this_thickest a_this_refusals g_this)), (a_this_letters, .inl (cA, 96, .inl f_this_letters))] t) A) ([.ref a_this] : List Value).toArray s 0 0 A) (F0 m 49 ls []) := by
    intro x1 x2 x3 x4 n
    induction n with
    | zero =>
      intro x5 ql hf H locs ls hP hD hS hl hret kx
      exact absurd (show (none : Option ((Int32) ⊕ (Int32))) = some ql from hf) (fun h9 => by cases h9)
    | succ n ih =>
      intro x5 ql hf H locs ls hP hD hS hl hret kx
      rw [f_X2_formFault_L49] at hf
      refine lv_iload hx hb dX2_formFault_49 (lv_at hl 5 rfl) ?_
      refine lv_iload hx hb dX2_formFault_51 (lv_at hl 4 rfl) ?_
      refine lv_icmp_ge (tgt := 86) hx hb dX2_formFault_53 (by decide) (fun c1 => ?_) (fun c1 => ?_)
      · have hf := rf_ifp hf c1
        exact kx _ (Option.some.inj hf).symm _ _ _ hP hD hS (lv_sub hl [0, 1, 2, 3, 4, 5] rfl)
      · have hf := rf_ifn hf c1
        refine lv_iload_n hx hb dX2_formFault_56 rfl (lv_at hl 3 rfl) ?_
        refine lv_iload hx hb dX2_formFault_57 (lv_at hl 5 rfl) ?_
        refine lv_iload hx hb dX2_formFault_59 (lv_at hl 4 rfl) ?_
        refine lv_aload_n hx hb dX2_formFault_61 rfl (lv_at hl 0 rfl) ?_
        refine lv_iload_n hx hb dX2_formFault_62 rfl (lv_at hl 1 rfl) ?_
        refine lv_iload hx hb dX2_formFault_63 (lv_at hl 5 rfl) ?_
        refine lv_iadd hx hb dX2_formFault_65 ?_
        obtain ⟨q2, hq2, hf⟩ := rf_bindq hf
        refine rf_Vi (As := [.int (x1 + x5)]) (rest := [.int x4, .int x5, .int x3]) (wr := []) (wn := [(a_this, .inr (2, rf_o2 a_this_now a_this_then a_this_trial a_this_search a_this_letters a_this_numbers a_this_thickest a_this_refusals g_this)), (a_this_letters, .inl (cA, 96, .inl f_this_letters))]) ⟨hx, hb, hml, hown, hts⟩ hK hP hD hS hA hE (c_X2_letterAt l D cA ad a_this a_this_now a_this_then a_this_trial a_this_search a_this_letters a_this_numbers a_this_thickest a_this_refusals H.size g_this f_this_letters (x1 + x5) q2 hq2) (cwV 1 hts gX2_formFault_X2_letterAt rfl rfl rfl hv_X2_letterAt ⟨Nat.le_of_ble_eq_true rfl, Nat.le_of_ble_eq_true rfl⟩) [0, 1] [] [0, 1] rfl rfl rfl rfl (by decide) rfl rfl 2 0 rfl rfl rfl rfl rfl hl.1 (Nat.le_of_ble_eq_true rfl) dX2_formFault_66 ⟨Nat.zero_le _, Nat.zero_le _⟩ (fun H locs hP hD hS => ?_)
        obtain ⟨q3, hq3, hf⟩ := rf_bindq hf
        refine rf_Si (As := [.int x3, .int x5, .int x4, .int q2]) (rest := []) (wr := [(a_this, .inr (2, rf_o2 a_this_now a_this_then a_this_trial a_this_search a_this_letters a_this_numbers a_this_thickest a_this_refusals g_this)), (a_this_letters, .inl (cA, 96, .inl f_this_letters))]) (wn := [(a_this, .inr (2, rf_o2 a_this_now a_this_then a_this_trial a_this_search a_this_letters a_this_numbers a_this_thickest a_this_refusals g_this)), (a_this_letters, .inl (cA, 96, .inl f_this_letters))]) ⟨hx, hb, hml, hown, hts⟩ hK hP hD hS hA hE (c_X2_fits l D cA ad H.size x3 x5 x4 q2 q3 hq3) (va_cwS 4 hts gX2_formFault_X2_fits rfl rfl rfl hs_X2_fits ⟨Nat.le_of_ble_eq_true rfl, Nat.le_of_ble_eq_true rfl⟩) [] [0, 1] [0, 1] rfl rfl rfl rfl (by decide) rfl rfl rfl rfl hl.1 (Nat.le_of_ble_eq_true rfl) dX2_formFault_69 ⟨Nat.zero_le _, Nat.zero_le _⟩ (fun H locs hP hD hS => ?_)
        refine lv_if_ne (tgt := 80) hx hb dX2_formFault_72 (by decide) (fun c4 => ?_) (fun c4 => ?_)
        · have hf := rf_ifn hf c4
          obtain ⟨v5, ev5⟩ : ∃ y : Int32, y = x5 + 1 := ⟨_, rfl⟩
          have hf := rf_bindv hf ev5
          refine lv_iinc (v := v5) (lv' := [(5, .int v5), (0, .ref a_this), (1, .int x1), (2, .int x2), (3, .int x3), (4, .int x4)]) hx hb dX2_formFault_80 hl (k := 5) rfl (by rw [ev5]; rfl) (by decide) rfl (fun ls hl => ?_)
          clear ev5
          refine lv_goto (tgt := 49) hx hb dX2_formFault_83 (by decide) ?_
          exact ih v5 ql hf _ _ _ hP hD hS (lv_sub hl [1, 2, 3, 4, 5, 0] rfl) hret kx
        · have hf := rf_ifp hf c4
          refine lv_iload_n hx hb dX2_formFault_75 rfl (lv_at hl 1 rfl) ?_
          refine lv_iload hx hb dX2_formFault_76 (lv_at hl 5 rfl) ?_
          refine lv_iadd hx hb dX2_formFault_78 ?_
          obtain rfl := hret _ (Option.some.inj hf).symm
          exact W.iret (v := (x1 + x5)) hx hb hr (fun t ht hW => ⟨⟨(x1 + x5), (), rfl, rfl, rf_mk ht hP hD⟩, hS.F ht⟩) hS.2.2 dX2_formFault_79
  have key_13 : ∀ (n : Nat) (x1 x2 : Int32) (ql : (Int32) ⊕ (Int32 × Int32)), f_X2_formFault_L13 g_this f_this_letters n x1 x2 = some ql → ∀ (H : Heap) (locs : List Loc) (ls : Array Slot), va_P D vwCl [(a_this, .inr (2, rf_o2 a_this_now a_this_then a_this_trial a_this_search a_this_letters a_this_numbers a_this_thickest a_this_refusals g_this)), (a_this_letters, .inl (cA, 96, .inl f_this_letters))] H → va_D A [(a_this, .inr (2, rf_o2 a_this_now a_this_then a_this_trial a_this_search a_this_letters a_this_numbers a_this_thickest a_this_refusals g_this)), (a_this_letters, .inl (cA, 96, .inl f_this_letters))] → va_S A s.heap H locs → lv_has ls 6 [(0, .ref a_this), (1, .int x1), (2, .int x2)] → (∀ r : Int32, ql = .inl r → r = q) → (∀ (x : Int32 × Int32), ql = .inr x → ∀ (H : Heap) (locs : List Loc) (ls : Array Slot), va_P D vwCl [(a_this, .inr (2, rf_o2 a_this_now a_this_then a_this_trial a_this_search a_this_letters a_this_numbers a_this_thickest a_this_refusals g_this)), (a_this_letters, .inl (cA, 96, .inl f_this_letters))] H → va_D A [(a_this, .inr (2, rf_o2 a_this_now a_this_then a_this_trial a_this_search a_this_letters a_this_numbers a_this_thickest a_this_refusals g_this)), (a_this_letters, .inl (cA, 96, .inl f_this_letters))] → va_S A s.heap H locs → lv_has ls 6 [(0, .ref a_this), (1, .int x.1), (2, .int x.2)] → W p l e (headSpec wsX2_formFault ({ frames := 2, cells := 0, slots := 0, locals := 43 } : Room)).room s m ([.ref a_this] : List Value).toArray below meth c H locs 0 0 (MQ below (va_Qi (fun (r : Int32) (_ : Unit) => r = q) (fun _ t => rf_Post D A [(a_this, .inr (2, rf_o2 a_this_now a_this_then a_this_trial a_this_search a_this_letters a_this_numbers a_this_thickest a_this_refusals g_this)), (a_this_letters, .inl (cA, 96, .inl f_this_letters))] t) A) ([.ref a_this] : List Value).toArray s 0 0 A) (F0 m 97 ls [])) → W p l e (headSpec wsX2_formFault ({ frames := 2, cells := 0, slots := 0, locals := 43 } : Room)).room s m ([.ref a_this] : List Value).toArray below meth c H locs 0 0 (MQ below (va_Qi (fun (r : Int32) (_ : Unit) => r = q) (fun _ t => rf_Post D A [(a_this, .inr (2, rf_o2 a_this_now a_this_then a_this_trial a_this_search a_this_letters a_this_numbers a_this_thickest a_this_refusals g_this)), (a_this_letters, .inl (cA, 96, .inl f_this_letters))] t) A) ([.ref a_this] : List Value).toArray s 0 0 A) (F0 m 13 ls []) := by
    intro n
    induction n with
    | zero =>
      intro x1 x2 ql hf H locs ls hP hD hS hl hret kx
      exact absurd (show (none : Option ((Int32) ⊕ (Int32 × Int32))) = some ql from hf) (fun h9 => by cases h9)
    | succ n ih =>
      intro x1 x2 ql hf H locs ls hP hD hS hl hret kx
      rw [f_X2_formFault_L13] at hf
      refine lv_iload_n hx hb dX2_formFault_13 rfl (lv_at hl 2 rfl) ?_
      refine lv_bipush (v := 96) hx hb dX2_formFault_14 (by decide) ?_
      refine lv_icmp_ge (tgt := 97) hx hb dX2_formFault_16 (by decide) (fun c6 => ?_) (fun c6 => ?_)
      · have hf := rf_ifp hf c6
        exact kx _ (Option.some.inj hf).symm _ _ _ hP hD hS (lv_sub hl [0, 1, 2] rfl)
      · have hf := rf_ifn hf c6
        refine lv_iload_n hx hb dX2_formFault_19 rfl (lv_at hl 1 rfl) ?_
        refine lv_aload_n hx hb dX2_formFault_20 rfl (lv_at hl 0 rfl) ?_
        refine va_get (D := D) (ci := 2) (v := .int (g_this 0)) (C := RX2) (T := TX2) (N := 12) hx hb hts jX2_formFault_X2 hown hK hP 0 rfl rfl 8 (by decide) (hts _ kX2_formFault_0) (fun _ h9 => h9) rfl dX2_formFault_21 ?_
        refine lv_icmp_ge (tgt := 97) hx hb dX2_formFault_24 (by decide) (fun c7 => ?_) (fun c7 => ?_)
        · have hf := rf_ifp hf c7
          exact kx _ (Option.some.inj hf).symm _ _ _ hP hD hS (lv_sub hl [0, 1, 2] rfl)
        · have hf := rf_ifn hf c7
          refine lv_aload_n hx hb dX2_formFault_27 rfl (lv_at hl 0 rfl) ?_
          refine lv_iload_n hx hb dX2_formFault_28 rfl (lv_at hl 1 rfl) ?_
          obtain ⟨q8, hq8, hf⟩ := rf_bindq hf
          refine rf_Vi (As := [.int x1]) (rest := []) (wr := []) (wn := [(a_this, .inr (2, rf_o2 a_this_now a_this_then a_this_trial a_this_search a_this_letters a_this_numbers a_this_thickest a_this_refusals g_this)), (a_this_letters, .inl (cA, 96, .inl f_this_letters))]) ⟨hx, hb, hml, hown, hts⟩ hK hP hD hS hA hE (c_X2_letterAt l D cA ad a_this a_this_now a_this_then a_this_trial a_this_search a_this_letters a_this_numbers a_this_thickest a_this_refusals H.size g_this f_this_letters x1 q8 hq8) (cwV 1 hts gX2_formFault_X2_letterAt rfl rfl rfl hv_X2_letterAt ⟨Nat.le_of_ble_eq_true rfl, Nat.le_of_ble_eq_true rfl⟩) [0, 1] [] [0, 1] rfl rfl rfl rfl (by decide) rfl rfl 2 0 rfl rfl rfl rfl rfl hl.1 (Nat.le_of_ble_eq_true rfl) dX2_formFault_29 ⟨Nat.zero_le _, Nat.zero_le _⟩ (fun H locs hP hD hS => ?_)
          refine lv_istore_n (lv' := [(3, .int q8), (0, .ref a_this), (1, .int x1), (2, .int x2)]) hx hb dX2_formFault_32 rfl hl (by decide) rfl (fun ls hl => ?_)
          refine lv_iload_n hx hb dX2_formFault_33 rfl (lv_at hl 0 rfl) ?_
          obtain ⟨q9, hq9, hf⟩ := rf_bindq hf
          refine rf_Si (As := [.int q8]) (rest := []) (wr := [(a_this, .inr (2, rf_o2 a_this_now a_this_then a_this_trial a_this_search a_this_letters a_this_numbers a_this_thickest a_this_refusals g_this)), (a_this_letters, .inl (cA, 96, .inl f_this_letters))]) (wn := [(a_this, .inr (2, rf_o2 a_this_now a_this_then a_this_trial a_this_search a_this_letters a_this_numbers a_this_thickest a_this_refusals g_this)), (a_this_letters, .inl (cA, 96, .inl f_this_letters))]) ⟨hx, hb, hml, hown, hts⟩ hK hP hD hS hA hE (c_X2_statementLength l D cA ad H.size q8 q9 hq9) (va_cwS 1 hts gX2_formFault_X2_statementLength rfl rfl rfl hs_X2_statementLength ⟨Nat.le_of_ble_eq_true rfl, Nat.le_of_ble_eq_true rfl⟩) [] [0, 1] [0, 1] rfl rfl rfl rfl (by decide) rfl rfl rfl rfl hl.1 (Nat.le_of_ble_eq_true rfl) dX2_formFault_34 ⟨Nat.zero_le _, Nat.zero_le _⟩ (fun H locs hP hD hS => ?_)
          refine lv_istore (lv' := [(4, .int q9), (3, .int q8), (0, .ref a_this), (1, .int x1), (2, .int x2)]) hx hb dX2_formFault_37 hl (by decide) rfl (fun ls hl => ?_)
          refine lv_iload hx hb dX2_formFault_39 (lv_at hl 0 rfl) ?_
          refine lv_if_ne (tgt := 46) hx hb dX2_formFault_41 (by decide) (fun c10 => ?_) (fun c10 => ?_)
          · have hf := rf_ifn hf c10
            refine lv_iconst (v := 1) hx hb dX2_formFault_46 (by decide) ?_
            refine lv_istore (lv' := [(5, .int 1), (4, .int q9), (3, .int q8), (0, .ref a_this), (1, .int x1), (2, .int x2)]) hx hb dX2_formFault_47 hl (by decide) rfl (fun ls hl => ?_)
            obtain ⟨q11, hq11, hf⟩ := rf_bindq hf
            refine key_49 x1 x2 q8 q9 rf_fu 1 q11 hq11 _ _ _ hP hD hS (lv_sub hl [3, 4, 5, 2, 1, 0] rfl) (fun r h9 => ?_) (fun x12 h9 H locs ls hP hD hS hl => ?_)
            · subst h9
              exact hret _ (Option.some.inj hf).symm
            · subst h9
              have hf := rf_sumr hf
              refine lv_iload_n hx hb dX2_formFault_86 rfl (lv_at hl 1 rfl) ?_
              refine lv_iload hx hb dX2_formFault_87 (lv_at hl 4 rfl) ?_
              refine lv_iadd hx hb dX2_formFault_89 ?_
              refine lv_topi (fun v13 ev13 => ?_)
              have hf := rf_bindv hf ev13
              clear ev13
              refine lv_istore_n (lv' := [(1, .int v13), (0, .ref a_this), (2, .int x2), (3, .int q8), (4, .int q9), (5, .int x12)]) hx hb dX2_formFault_90 rfl hl (by decide) rfl (fun ls hl => ?_)
              obtain ⟨v14, ev14⟩ : ∃ y : Int32, y = x2 + 1 := ⟨_, rfl⟩
              have hf := rf_bindv hf ev14
              refine lv_iinc (v := v14) (lv' := [(2, .int v14), (1, .int v13), (0, .ref a_this), (3, .int q8), (4, .int q9), (5, .int x12)]) hx hb dX2_formFault_91 hl (k := 2) rfl (by rw [ev14]; rfl) (by decide) rfl (fun ls hl => ?_)
              clear ev14
              refine lv_goto (tgt := 13) hx hb dX2_formFault_94 (by decide) ?_
              exact ih v13 v14 ql hf _ _ _ hP hD hS (lv_sub hl [2, 1, 0] rfl) hret kx
          · have hf := rf_ifp hf c10
            refine lv_iload_n hx hb dX2_formFault_44 rfl (lv_at hl 3 rfl) ?_
            obtain rfl := hret _ (Option.some.inj hf).symm
            exact W.iret (v := x1) hx hb hr (fun t ht hW => ⟨⟨x1, (), rfl, rfl, rf_mk ht hP hD⟩, hS.F ht⟩) hS.2.2 dX2_formFault_45
  rw [f_X2_formFault] at hf
  refine lv_aload_n hx hb dX2_formFault_0 rfl (lv_at hl 0 rfl) ?_
  refine va_get (D := D) (ci := 2) (v := .int (g_this 0)) (C := RX2) (T := TX2) (N := 12) hx hb hts jX2_formFault_X2 hown hK hP 0 rfl rfl 8 (by decide) (hts _ kX2_formFault_0) (fun _ h9 => h9) rfl dX2_formFault_1 ?_
  refine lv_if_ne (tgt := 9) hx hb dX2_formFault_4 (by decide) (fun c15 => ?_) (fun c15 => ?_)
  · have hf := rf_ifn hf c15
    refine lv_iconst (v := 0) hx hb dX2_formFault_9 (by decide) ?_
    refine lv_istore_n (lv' := [(1, .int 0), (0, .ref a_this)]) hx hb dX2_formFault_10 rfl hl (by decide) rfl (fun ls hl => ?_)
    refine lv_iconst (v := 0) hx hb dX2_formFault_11 (by decide) ?_
    refine lv_istore_n (lv' := [(2, .int 0), (1, .int 0), (0, .ref a_this)]) hx hb dX2_formFault_12 rfl hl (by decide) rfl (fun ls hl => ?_)
    obtain ⟨q16, hq16, hf⟩ := rf_bindq hf
    refine key_13 rf_fu 0 0 q16 hq16 _ _ _ hP hD hS (lv_sub hl [2, 1, 0] rfl) (fun r h9 => ?_) (fun x17 h9 H locs ls hP hD hS hl => ?_)
    · subst h9
      exact Option.some.inj hf
    · subst h9
      have hf := rf_sumr hf
      refine lv_iconst (v := (-1)) hx hb dX2_formFault_97 (by decide) ?_
      obtain rfl := Option.some.inj hf
      exact W.iret (v := (-1)) hx hb hr (fun t ht hW => ⟨⟨(-1), (), rfl, rfl, rf_mk ht hP hD⟩, hS.F ht⟩) hS.2.2 dX2_formFault_98
  · have hf := rf_ifp hf c15
    refine lv_iconst (v := 0) hx hb dX2_formFault_7 (by decide) ?_
    obtain rfl := Option.some.inj hf
    exact W.iret (v := 0) hx hb hr (fun t ht hW => ⟨⟨0, (), rfl, rfl, rf_mk ht hP hD⟩, hS.F ht⟩) hS.2.2 dX2_formFault_8

set_option maxHeartbeats 8000000 in
set_option maxRecDepth 100000 in
theorem c_X2_numberAt (l : Launch) (D : va_G) (cA : ClassId) (ad : Nat → Nat) (a_this a_this_now a_this_then a_this_trial a_this_search a_this_letters a_this_numbers a_this_thickest a_this_refusals : Nat) (sz : Nat) (g_this f_this_letters : Nat → Int32) (p1 p2 : Int32) (q : Int32) (hf : f_X2_numberAt g_this f_this_letters p1 p2 = some q) : Met l yX2_numberAt wsX2_numberAt ({ frames := 2, cells := 0, slots := 0, locals := 42 } : Room) (va_Pc [.ref a_this, .int p1, .int p2] (rf_Pre D cA ad [(a_this, .inr (2, rf_o2 a_this_now a_this_then a_this_trial a_this_search a_this_letters a_this_numbers a_this_thickest a_this_refusals g_this)), (a_this_letters, .inl (cA, 96, .inl f_this_letters))] sz)) (va_Qi (fun (r : Int32) (_ : Unit) => r = q) (fun _ t => rf_Post D (va_A [(a_this, .inr (2, rf_o2 a_this_now a_this_then a_this_trial a_this_search a_this_letters a_this_numbers a_this_thickest a_this_refusals g_this)), (a_this_letters, .inl (cA, 96, .inl f_this_letters))] sz) [(a_this, .inr (2, rf_o2 a_this_now a_this_then a_this_trial a_this_search a_this_letters a_this_numbers a_this_thickest a_this_refusals g_this)), (a_this_letters, .inl (cA, 96, .inl f_this_letters))] t) (va_A [(a_this, .inr (2, rf_o2 a_this_now a_this_then a_this_trial a_this_search a_this_letters a_this_numbers a_this_thickest a_this_refusals g_this)), (a_this_letters, .inl (cA, 96, .inl f_this_letters))] sz)) 0 0 (va_A [(a_this, .inr (2, rf_o2 a_this_now a_this_then a_this_trial a_this_search a_this_letters a_this_numbers a_this_thickest a_this_refusals g_this)), (a_this_letters, .inl (cA, 96, .inl f_this_letters))] sz) := by
  refine Met.ofW (cc := cX2_numberAt) (maxL := 5) (ret := (some .int)) (by decide) rfl ?_
  intro p e s m args below meth c s₁ B hml hv
  obtain ⟨rfl, hsz, hP, hK, hD0, hE⟩ := hv
  have hx := B.exec
  have hb := B.bytes
  have hr := B.returns
  have hts := atoms_spec (ws := wsX2_numberAt) B.pre
  have hown : s.vm.findClass RX2 = some m.cls := findClass_of_methodNamed B.named
  have hlocks := B.notSynchronized
  subst hsz
  have hD := hD0.self (sz := s.heap.size)
  generalize hAe : va_A [(a_this, .inr (2, rf_o2 a_this_now a_this_then a_this_trial a_this_search a_this_letters a_this_numbers a_this_thickest a_this_refusals g_this)), (a_this_letters, .inl (cA, 96, .inl f_this_letters))] s.heap.size = A at hD hE ⊢
  have hA : ∀ q : Nat, s.heap.size ≤ q → A q := fun q h => by rw [← hAe]; exact Or.inr h
  have hS : va_S A s.heap s.heap [] := va_S.rf
  have hP : va_P D vwCl [(a_this, .inr (2, rf_o2 a_this_now a_this_then a_this_trial a_this_search a_this_letters a_this_numbers a_this_thickest a_this_refusals g_this)), (a_this_letters, .inl (cA, 96, .inl f_this_letters))] s.heap := hP
  have hl := lv_entry ([.ref a_this, .int p1, .int p2]) (n := 5) (Nat.le_of_ble_eq_true rfl)
  rw [lg_entry_eq]
  generalize (lg_sl ([.ref a_this, .int p1, .int p2]) ++ List.replicate (5 - (lg_sl ([.ref a_this, .int p1, .int p2])).length) Slot.unset).toArray = ls at hl ⊢
  have hl : lv_has ls 5 [(0, .ref a_this), (1, .int p1), (2, .int p2)] := hl
  have key_5 : ∀ (n : Nat) (x3 x4 : Int32) (ql : Int32 × Int32), f_X2_numberAt_L5 g_this f_this_letters p1 p2 n x3 x4 = some ql → ∀ (H : Heap) (locs : List Loc) (ls : Array Slot), va_P D vwCl [(a_this, .inr (2, rf_o2 a_this_now a_this_then a_this_trial a_this_search a_this_letters a_this_numbers a_this_thickest a_this_refusals g_this)), (a_this_letters, .inl (cA, 96, .inl f_this_letters))] H → va_D A [(a_this, .inr (2, rf_o2 a_this_now a_this_then a_this_trial a_this_search a_this_letters a_this_numbers a_this_thickest a_this_refusals g_this)), (a_this_letters, .inl (cA, 96, .inl f_this_letters))] → va_S A s.heap H locs → lv_has ls 5 [(0, .ref a_this), (1, .int p1), (2, .int p2), (3, .int x3), (4, .int x4)] → (∀ (H : Heap) (locs : List Loc) (ls : Array Slot), va_P D vwCl [(a_this, .inr (2, rf_o2 a_this_now a_this_then a_this_trial a_this_search a_this_letters a_this_numbers a_this_thickest a_this_refusals g_this)), (a_this_letters, .inl (cA, 96, .inl f_this_letters))] H → va_D A [(a_this, .inr (2, rf_o2 a_this_now a_this_then a_this_trial a_this_search a_this_letters a_this_numbers a_this_thickest a_this_refusals g_this)), (a_this_letters, .inl (cA, 96, .inl f_this_letters))] → va_S A s.heap H locs → lv_has ls 5 [(0, .ref a_this), (1, .int p1), (2, .int p2), (3, .int ql.1), (4, .int ql.2)] → W p l e (headSpec wsX2_numberAt ({ frames := 2, cells := 0, slots := 0, locals := 42 } : Room)).room s m ([.ref a_this, .int p1, .int p2] : List Value).toArray below meth c H locs 0 0 (MQ below (va_Qi (fun (r : Int32) (_ : Unit) => r = q) (fun _ t => rf_Post D A [(a_this, .inr (2, rf_o2 a_this_now a_this_then a_this_trial a_this_search a_this_letters a_this_numbers a_this_thickest a_this_refusals g_this)), (a_this_letters, .inl (cA, 96, .inl f_this_letters))] t) A) ([.ref a_this, .int p1, .int p2] : List Value).toArray s 0 0 A) (F0 m 34 ls [])) → W p l e (headSpec wsX2_numberAt ({ frames := 2, cells := 0, slots := 0, locals := 42 } : Room)).room s m ([.ref a_this, .int p1, .int p2] : List Value).toArray below meth c H locs 0 0 (MQ below (va_Qi (fun (r : Int32) (_ : Unit) => r = q) (fun _ t => rf_Post D A [(a_this, .inr (2, rf_o2 a_this_now a_this_then a_this_trial a_this_search a_this_letters a_this_numbers a_this_thickest a_this_refusals g_this)), (a_this_letters, .inl (cA, 96, .inl f_this_letters))] t) A) ([.ref a_this, .int p1, .int p2] : List Value).toArray s 0 0 A) (F0 m 5 ls []) := by
    intro n
    induction n with
    | zero =>
      intro x3 x4 ql hf H locs ls hP hD hS hl kx
      exact absurd (show (none : Option (Int32 × Int32)) = some ql from hf) (fun h9 => by cases h9)
    | succ n ih =>
      intro x3 x4 ql hf H locs ls hP hD hS hl kx
      rw [f_X2_numberAt_L5] at hf
      refine lv_iload hx hb dX2_numberAt_5 (lv_at hl 4 rfl) ?_
      refine lv_iload_n hx hb dX2_numberAt_7 rfl (lv_at hl 2 rfl) ?_
      refine lv_icmp_ge (tgt := 34) hx hb dX2_numberAt_8 (by decide) (fun c1 => ?_) (fun c1 => ?_)
      · have hf := rf_ifp hf c1
        obtain rfl := Option.some.inj hf
        exact kx _ _ _ hP hD hS (lv_sub hl [0, 1, 2, 3, 4] rfl)
      · have hf := rf_ifn hf c1
        refine lv_iload_n hx hb dX2_numberAt_11 rfl (lv_at hl 3 rfl) ?_
        refine lv_bipush (v := 10) hx hb dX2_numberAt_12 (by decide) ?_
        refine lv_imul hx hb dX2_numberAt_14 ?_
        refine lv_aload_n hx hb dX2_numberAt_15 rfl (lv_at hl 0 rfl) ?_
        refine lv_iload_n hx hb dX2_numberAt_16 rfl (lv_at hl 1 rfl) ?_
        refine lv_iload hx hb dX2_numberAt_17 (lv_at hl 4 rfl) ?_
        refine lv_iadd hx hb dX2_numberAt_19 ?_
        obtain ⟨q2, hq2, hf⟩ := rf_bindq hf
        refine rf_Vi (As := [.int (p1 + x4)]) (rest := [.int (x3 * 10)]) (wr := []) (wn := [(a_this, .inr (2, rf_o2 a_this_now a_this_then a_this_trial a_this_search a_this_letters a_this_numbers a_this_thickest a_this_refusals g_this)), (a_this_letters, .inl (cA, 96, .inl f_this_letters))]) ⟨hx, hb, hml, hown, hts⟩ hK hP hD hS hA hE (c_X2_letterAt l D cA ad a_this a_this_now a_this_then a_this_trial a_this_search a_this_letters a_this_numbers a_this_thickest a_this_refusals H.size g_this f_this_letters (p1 + x4) q2 hq2) (cwV 1 hts gX2_numberAt_X2_letterAt rfl rfl rfl hv_X2_letterAt ⟨Nat.le_of_ble_eq_true rfl, Nat.le_of_ble_eq_true rfl⟩) [0, 1] [] [0, 1] rfl rfl rfl rfl (by decide) rfl rfl 2 0 rfl rfl rfl rfl rfl hl.1 (Nat.le_of_ble_eq_true rfl) dX2_numberAt_20 ⟨Nat.zero_le _, Nat.zero_le _⟩ (fun H locs hP hD hS => ?_)
        refine lv_iadd hx hb dX2_numberAt_23 ?_
        refine lv_bipush (v := 48) hx hb dX2_numberAt_24 (by decide) ?_
        refine lv_isub hx hb dX2_numberAt_26 ?_
        refine lv_topi (fun v3 ev3 => ?_)
        have hf := rf_bindv hf ev3
        clear ev3
        refine lv_istore_n (lv' := [(3, .int v3), (0, .ref a_this), (1, .int p1), (2, .int p2), (4, .int x4)]) hx hb dX2_numberAt_27 rfl hl (by decide) rfl (fun ls hl => ?_)
        obtain ⟨v4, ev4⟩ : ∃ y : Int32, y = x4 + 1 := ⟨_, rfl⟩
        have hf := rf_bindv hf ev4
        refine lv_iinc (v := v4) (lv' := [(4, .int v4), (3, .int v3), (0, .ref a_this), (1, .int p1), (2, .int p2)]) hx hb dX2_numberAt_28 hl (k := 4) rfl (by rw [ev4]; rfl) (by decide) rfl (fun ls hl => ?_)
        clear ev4
        refine lv_goto (tgt := 5) hx hb dX2_numberAt_31 (by decide) ?_
        exact ih v3 v4 ql hf _ _ _ hP hD hS (lv_sub hl [2, 3, 4, 1, 0] rfl) kx
  rw [f_X2_numberAt] at hf
  refine lv_iconst (v := 0) hx hb dX2_numberAt_0 (by decide) ?_
  refine lv_istore_n (lv' := [(3, .int 0), (0, .ref a_this), (1, .int p1), (2, .int p2)]) hx hb dX2_numberAt_1 rfl hl (by decide) rfl (fun ls hl => ?_)
  refine lv_iconst (v := 0) hx hb dX2_numberAt_2 (by decide) ?_
  refine lv_istore (lv' := [(4, .int 0), (3, .int 0), (0, .ref a_this), (1, .int p1), (2, .int p2)]) hx hb dX2_numberAt_3 hl (by decide) rfl (fun ls hl => ?_)
  obtain ⟨q5, hq5, hf⟩ := rf_bindq hf
  refine key_5 rf_fu 0 0 q5 hq5 _ _ _ hP hD hS (lv_sub hl [2, 3, 4, 1, 0] rfl) (fun H locs ls hP hD hS hl => ?_)
  refine lv_iload_n hx hb dX2_numberAt_34 rfl (lv_at hl 3 rfl) ?_
  obtain rfl := Option.some.inj hf
  exact W.iret (v := q5.1) hx hb hr (fun t ht hW => ⟨⟨q5.1, (), rfl, rfl, rf_mk ht hP hD⟩, hS.F ht⟩) hS.2.2 dX2_numberAt_35
theorem kX2_takeStatement_0 : (.fieldLink RX2 19 "RingAndFinger" "trial" "LRingAndFinger$Finger;" : Cond) ∈ wsX2_takeStatement := by decide +kernel
theorem jX2_takeStatement_X2 : ∀ w ∈ u_ws RX2 TX2 12, w ∈ wsX2_takeStatement := by decide +kernel
set_option maxHeartbeats 8000000 in
set_option maxRecDepth 100000 in
theorem c_X2_takeStatement (l : Launch) (D : va_G) (cA : ClassId) (ad : Nat → Nat) (a_this a_this_now a_this_then a_this_trial a_this_search a_this_letters a_this_numbers a_this_thickest a_this_refusals a_this_trial_kinds a_this_trial_thicks : Nat) (sz : Nat) (g_this g_this_trial f_this_trial_kinds f_this_trial_thicks f_this_letters : Nat → Int32) (p1 : Int32) (q : Int32 × (Nat → Int32) × (Nat → Int32) × (Nat → Int32)) (hf : f_X2_takeStatement g_this g_this_trial f_this_trial_kinds f_this_trial_thicks f_this_letters p1 = some q) : Met l yX2_takeStatement wsX2_takeStatement ({ frames := 5, cells := 0, slots := 0, locals := 112 } : Room) (va_Pc [.ref a_this, .int p1] (rf_Pre D cA ad [(a_this, .inr (2, rf_o2 a_this_now a_this_then a_this_trial a_this_search a_this_letters a_this_numbers a_this_thickest a_this_refusals g_this)), (a_this_trial, .inr (0, rf_o0 a_this_trial_kinds a_this_trial_thicks g_this_trial)), (a_this_trial_kinds, .inl (cA, 6, .inl f_this_trial_kinds)), (a_this_trial_thicks, .inl (cA, 6, .inl f_this_trial_thicks)), (a_this_letters, .inl (cA, 96, .inl f_this_letters))] sz)) (va_Qi (fun (r : Int32) (_ : Unit) => r = q.1) (fun _ t => rf_Post D (va_A [(a_this, .inr (2, rf_o2 a_this_now a_this_then a_this_trial a_this_search a_this_letters a_this_numbers a_this_thickest a_this_refusals g_this)), (a_this_trial, .inr (0, rf_o0 a_this_trial_kinds a_this_trial_thicks g_this_trial)), (a_this_trial_kinds, .inl (cA, 6, .inl f_this_trial_kinds)), (a_this_trial_thicks, .inl (cA, 6, .inl f_this_trial_thicks)), (a_this_letters, .inl (cA, 96, .inl f_this_letters))] sz) [(a_this, .inr (2, rf_o2 a_this_now a_this_then a_this_trial a_this_search a_this_letters a_this_numbers a_this_thickest a_this_refusals g_this)), (a_this_trial, .inr (0, rf_o0 a_this_trial_kinds a_this_trial_thicks q.2.1)), (a_this_trial_kinds, .inl (cA, 6, .inl q.2.2.1)), (a_this_trial_thicks, .inl (cA, 6, .inl q.2.2.2)), (a_this_letters, .inl (cA, 96, .inl f_this_letters))] t) (va_A [(a_this, .inr (2, rf_o2 a_this_now a_this_then a_this_trial a_this_search a_this_letters a_this_numbers a_this_thickest a_this_refusals g_this)), (a_this_trial, .inr (0, rf_o0 a_this_trial_kinds a_this_trial_thicks g_this_trial)), (a_this_trial_kinds, .inl (cA, 6, .inl f_this_trial_kinds)), (a_this_trial_thicks, .inl (cA, 6, .inl f_this_trial_thicks)), (a_this_letters, .inl (cA, 96, .inl f_this_letters))] sz)) 0 0 (va_A [(a_this, .inr (2, rf_o2 a_this_now a_this_then a_this_trial a_this_search a_this_letters a_this_numbers a_this_thickest a_this_refusals g_this)), (a_this_trial, .inr (0, rf_o0 a_this_trial_kinds a_this_trial_thicks g_this_trial)), (a_this_trial_kinds, .inl (cA, 6, .inl f_this_trial_kinds)), (a_this_trial_thicks, .inl (cA, 6, .inl f_this_trial_thicks)), (a_this_letters, .inl (cA, 96, .inl f_this_letters))] sz) := by
  refine Met.ofW (cc := cX2_takeStatement) (maxL := 2) (ret := (some .boolean)) (by decide) rfl ?_
  intro p e s m args below meth c s₁ B hml hv
  obtain ⟨rfl, hsz, hP, hK, hD0, hE⟩ := hv
  have hx := B.exec
  have hb := B.bytes
  have hr := B.returns
  have hts := atoms_spec (ws := wsX2_takeStatement) B.pre
  have hown : s.vm.findClass RX2 = some m.cls := findClass_of_methodNamed B.named
  have hlocks := B.notSynchronized
  subst hsz
  have hD := hD0.self (sz := s.heap.size)
  generalize hAe : va_A [(a_this, .inr (2, rf_o2 a_this_now a_this_then a_this_trial a_this_search a_this_letters a_this_numbers a_this_thickest a_this_refusals g_this)), (a_this_trial, .inr (0, rf_o0 a_this_trial_kinds a_this_trial_thicks g_this_trial)), (a_this_trial_kinds, .inl (cA, 6, .inl f_this_trial_kinds)), (a_this_trial_thicks, .inl (cA, 6, .inl f_this_trial_thicks)), (a_this_letters, .inl (cA, 96, .inl f_this_letters))] s.heap.size = A at hD hE ⊢
  have hA : ∀ q : Nat, s.heap.size ≤ q → A q := fun q h => by rw [← hAe]; exact Or.inr h
  have hS : va_S A s.heap s.heap [] := va_S.rf
  have hP : va_P D vwCl [(a_this, .inr (2, rf_o2 a_this_now a_this_then a_this_trial a_this_search a_this_letters a_this_numbers a_this_thickest a_this_refusals g_this)), (a_this_trial, .inr (0, rf_o0 a_this_trial_kinds a_this_trial_thicks g_this_trial)), (a_this_trial_kinds, .inl (cA, 6, .inl f_this_trial_kinds)), (a_this_trial_thicks, .inl (cA, 6, .inl f_this_trial_thicks)), (a_this_letters, .inl (cA, 96, .inl f_this_letters))] s.heap := hP
  have hl := lv_entry ([.ref a_this, .int p1]) (n := 2) (Nat.le_of_ble_eq_true rfl)
  rw [lg_entry_eq]
  generalize (lg_sl ([.ref a_this, .int p1]) ++ List.replicate (2 - (lg_sl ([.ref a_this, .int p1])).length) Slot.unset).toArray = ls at hl ⊢
  have hl : lv_has ls 2 [(0, .ref a_this), (1, .int p1)] := hl
  rw [f_X2_takeStatement] at hf
  refine lv_aload_n hx hb dX2_takeStatement_0 rfl (lv_at hl 0 rfl) ?_
  refine lv_iload_n hx hb dX2_takeStatement_1 rfl (lv_at hl 1 rfl) ?_
  obtain ⟨q1, hq1, hf⟩ := rf_bindq hf
  refine rf_Vi (As := [.int p1]) (rest := []) (wr := [(a_this_trial, .inr (0, rf_o0 a_this_trial_kinds a_this_trial_thicks g_this_trial)), (a_this_trial_kinds, .inl (cA, 6, .inl f_this_trial_kinds)), (a_this_trial_thicks, .inl (cA, 6, .inl f_this_trial_thicks))]) (wn := [(a_this, .inr (2, rf_o2 a_this_now a_this_then a_this_trial a_this_search a_this_letters a_this_numbers a_this_thickest a_this_refusals g_this)), (a_this_trial, .inr (0, rf_o0 a_this_trial_kinds a_this_trial_thicks g_this_trial)), (a_this_trial_kinds, .inl (cA, 6, .inl f_this_trial_kinds)), (a_this_trial_thicks, .inl (cA, 6, .inl f_this_trial_thicks)), (a_this_letters, .inl (cA, 96, .inl f_this_letters))]) ⟨hx, hb, hml, hown, hts⟩ hK hP hD hS hA hE (c_X2_letterAt l D cA ad a_this a_this_now a_this_then a_this_trial a_this_search a_this_letters a_this_numbers a_this_thickest a_this_refusals s.heap.size g_this f_this_letters p1 q1 hq1) (cwV 1 hts gX2_takeStatement_X2_letterAt rfl rfl rfl hv_X2_letterAt ⟨Nat.le_of_ble_eq_true rfl, Nat.le_of_ble_eq_true rfl⟩) [0, 4] [1, 2, 3] [3, 0, 1, 2, 4] rfl rfl rfl rfl (by decide) rfl rfl 2 0 rfl rfl rfl rfl rfl hl.1 (Nat.le_of_ble_eq_true rfl) dX2_takeStatement_2 ⟨Nat.zero_le _, Nat.zero_le _⟩ (fun H locs hP hD hS => ?_)
  by_cases c2 : q1 = 99
  · have hf := rf_ifp hf c2
    refine rf_tabC (off := 186) (tgt := 191) hx hb dX2_takeStatement_5 c2 (by decide) (by decide) (by decide) (by decide) ?_
    refine lv_aload_n hx hb dX2_takeStatement_191 rfl (lv_at hl 0 rfl) ?_
    refine va_get (D := D) (ci := 2) (v := .ref a_this_trial) (C := RX2) (T := TX2) (N := 12) hx hb hts jX2_takeStatement_X2 hown hK hP 0 rfl rfl 2 (by decide) (hts _ kX2_takeStatement_0) (fun _ h9 => h9) rfl dX2_takeStatement_192 ?_
    refine lv_iconst (v := 3) hx hb dX2_takeStatement_195 (by decide) ?_
    refine lv_aload_n hx hb dX2_takeStatement_196 rfl (lv_at hl 0 rfl) ?_
    refine lv_iload_n hx hb dX2_takeStatement_197 rfl (lv_at hl 1 rfl) ?_
    refine lv_iconst (v := 1) hx hb dX2_takeStatement_198 (by decide) ?_
    refine lv_iadd hx hb dX2_takeStatement_199 ?_
    refine lv_iconst (v := 2) hx hb dX2_takeStatement_200 (by decide) ?_
    obtain ⟨q3, hq3, hf⟩ := rf_bindq hf
    refine rf_Vi (As := [.int (p1 + 1), .int 2]) (rest := [.int 3, .ref a_this_trial]) (wr := [(a_this_trial, .inr (0, rf_o0 a_this_trial_kinds a_this_trial_thicks g_this_trial)), (a_this_trial_kinds, .inl (cA, 6, .inl f_this_trial_kinds)), (a_this_trial_thicks, .inl (cA, 6, .inl f_this_trial_thicks))]) (wn := [(a_this, .inr (2, rf_o2 a_this_now a_this_then a_this_trial a_this_search a_this_letters a_this_numbers a_this_thickest a_this_refusals g_this)), (a_this_trial, .inr (0, rf_o0 a_this_trial_kinds a_this_trial_thicks g_this_trial)), (a_this_trial_kinds, .inl (cA, 6, .inl f_this_trial_kinds)), (a_this_trial_thicks, .inl (cA, 6, .inl f_this_trial_thicks)), (a_this_letters, .inl (cA, 96, .inl f_this_letters))]) ⟨hx, hb, hml, hown, hts⟩ hK hP hD hS hA hE (c_X2_numberAt l D cA ad a_this a_this_now a_this_then a_this_trial a_this_search a_this_letters a_this_numbers a_this_thickest a_this_refusals H.size g_this f_this_letters (p1 + 1) 2 q3 hq3) (cwV 2 hts gX2_takeStatement_X2_numberAt rfl rfl rfl hv_X2_numberAt ⟨Nat.le_of_ble_eq_true rfl, Nat.le_of_ble_eq_true rfl⟩) [0, 4] [1, 2, 3] [3, 0, 1, 2, 4] rfl rfl rfl rfl (by decide) rfl rfl 2 0 rfl rfl rfl rfl rfl hl.1 (Nat.le_of_ble_eq_true rfl) dX2_takeStatement_201 ⟨Nat.zero_le _, Nat.zero_le _⟩ (fun H locs hP hD hS => ?_)
    obtain ⟨q4, hq4, hf⟩ := rf_bindq hf
    refine rf_Vi (As := [.int 3, .int q3]) (rest := []) (wr := [(a_this, .inr (2, rf_o2 a_this_now a_this_then a_this_trial a_this_search a_this_letters a_this_numbers a_this_thickest a_this_refusals g_this)), (a_this_trial_kinds, .inl (cA, 6, .inl f_this_trial_kinds)), (a_this_trial_thicks, .inl (cA, 6, .inl f_this_trial_thicks)), (a_this_letters, .inl (cA, 96, .inl f_this_letters))]) (wn := [(a_this, .inr (2, rf_o2 a_this_now a_this_then a_this_trial a_this_search a_this_letters a_this_numbers a_this_thickest a_this_refusals g_this)), (a_this_trial, .inr (0, rf_o0 a_this_trial_kinds a_this_trial_thicks q4.2)), (a_this_trial_kinds, .inl (cA, 6, .inl f_this_trial_kinds)), (a_this_trial_thicks, .inl (cA, 6, .inl f_this_trial_thicks)), (a_this_letters, .inl (cA, 96, .inl f_this_letters))]) ⟨hx, hb, hml, hown, hts⟩ hK hP hD hS hA hE (c_X0_takeSetting l D cA ad a_this_trial a_this_trial_kinds a_this_trial_thicks H.size g_this_trial 3 q3 q4 hq4) (cwV 2 hts gX2_takeStatement_X0_takeSetting rfl rfl rfl hv_X0_takeSetting ⟨Nat.le_of_ble_eq_true rfl, Nat.le_of_ble_eq_true rfl⟩) [1] [0, 2, 3, 4] [0, 4, 1, 2, 3] rfl rfl rfl rfl (by decide) rfl rfl 0 1 rfl rfl rfl rfl rfl hl.1 (Nat.le_of_ble_eq_true rfl) dX2_takeStatement_204 ⟨Nat.zero_le _, Nat.zero_le _⟩ (fun H locs hP hD hS => ?_)
    obtain ⟨c5, hf⟩ := rf_chk hf
    obtain rfl := Option.some.inj hf
    exact W.zret (v := q4.1) hx hb hr (rf_nb c5) (fun t ht hW => ⟨⟨q4.1, (), rfl, rfl, rf_mk ht hP hD⟩, hS.F ht⟩) hS.2.2 dX2_takeStatement_207
  · have hf := rf_ifn hf c2
    by_cases c6 : q1 = 104
    · have hf := rf_ifp hf c6
      refine rf_tabC (off := 203) (tgt := 208) hx hb dX2_takeStatement_5 c6 (by decide) (by decide) (by decide) (by decide) ?_
      refine lv_aload_n hx hb dX2_takeStatement_208 rfl (lv_at hl 0 rfl) ?_
      refine va_get (D := D) (ci := 2) (v := .ref a_this_trial) (C := RX2) (T := TX2) (N := 12) hx hb hts jX2_takeStatement_X2 hown hK hP 0 rfl rfl 2 (by decide) (hts _ kX2_takeStatement_0) (fun _ h9 => h9) rfl dX2_takeStatement_209 ?_
      refine lv_iconst (v := 4) hx hb dX2_takeStatement_212 (by decide) ?_
      refine lv_aload_n hx hb dX2_takeStatement_213 rfl (lv_at hl 0 rfl) ?_
      refine lv_iload_n hx hb dX2_takeStatement_214 rfl (lv_at hl 1 rfl) ?_
      refine lv_iconst (v := 1) hx hb dX2_takeStatement_215 (by decide) ?_
      refine lv_iadd hx hb dX2_takeStatement_216 ?_
      refine lv_iconst (v := 1) hx hb dX2_takeStatement_217 (by decide) ?_
      obtain ⟨q7, hq7, hf⟩ := rf_bindq hf
      refine rf_Vi (As := [.int (p1 + 1), .int 1]) (rest := [.int 4, .ref a_this_trial]) (wr := [(a_this_trial, .inr (0, rf_o0 a_this_trial_kinds a_this_trial_thicks g_this_trial)), (a_this_trial_kinds, .inl (cA, 6, .inl f_this_trial_kinds)), (a_this_trial_thicks, .inl (cA, 6, .inl f_this_trial_thicks))]) (wn := [(a_this, .inr (2, rf_o2 a_this_now a_this_then a_this_trial a_this_search a_this_letters a_this_numbers a_this_thickest a_this_refusals g_this)), (a_this_trial, .inr (0, rf_o0 a_this_trial_kinds a_this_trial_thicks g_this_trial)), (a_this_trial_kinds, .inl (cA, 6, .inl f_this_trial_kinds)), (a_this_trial_thicks, .inl (cA, 6, .inl f_this_trial_thicks)), (a_this_letters, .inl (cA, 96, .inl f_this_letters))]) ⟨hx, hb, hml, hown, hts⟩ hK hP hD hS hA hE (c_X2_numberAt l D cA ad a_this a_this_now a_this_then a_this_trial a_this_search a_this_letters a_this_numbers a_this_thickest a_this_refusals H.size g_this f_this_letters (p1 + 1) 1 q7 hq7) (cwV 2 hts gX2_takeStatement_X2_numberAt rfl rfl rfl hv_X2_numberAt ⟨Nat.le_of_ble_eq_true rfl, Nat.le_of_ble_eq_true rfl⟩) [0, 4] [1, 2, 3] [3, 0, 1, 2, 4] rfl rfl rfl rfl (by decide) rfl rfl 2 0 rfl rfl rfl rfl rfl hl.1 (Nat.le_of_ble_eq_true rfl) dX2_takeStatement_218 ⟨Nat.zero_le _, Nat.zero_le _⟩ (fun H locs hP hD hS => ?_)
      obtain ⟨q8, hq8, hf⟩ := rf_bindq hf
      refine rf_Vi (As := [.int 4, .int q7]) (rest := []) (wr := [(a_this, .inr (2, rf_o2 a_this_now a_this_then a_this_trial a_this_search a_this_letters a_this_numbers a_this_thickest a_this_refusals g_this)), (a_this_trial_kinds, .inl (cA, 6, .inl f_this_trial_kinds)), (a_this_trial_thicks, .inl (cA, 6, .inl f_this_trial_thicks)), (a_this_letters, .inl (cA, 96, .inl f_this_letters))]) (wn := [(a_this, .inr (2, rf_o2 a_this_now a_this_then a_this_trial a_this_search a_this_letters a_this_numbers a_this_thickest a_this_refusals g_this)), (a_this_trial, .inr (0, rf_o0 a_this_trial_kinds a_this_trial_thicks q8.2)), (a_this_trial_kinds, .inl (cA, 6, .inl f_this_trial_kinds)), (a_this_trial_thicks, .inl (cA, 6, .inl f_this_trial_thicks)), (a_this_letters, .inl (cA, 96, .inl f_this_letters))]) ⟨hx, hb, hml, hown, hts⟩ hK hP hD hS hA hE (c_X0_takeSetting l D cA ad a_this_trial a_this_trial_kinds a_this_trial_thicks H.size g_this_trial 4 q7 q8 hq8) (cwV 2 hts gX2_takeStatement_X0_takeSetting rfl rfl rfl hv_X0_takeSetting ⟨Nat.le_of_ble_eq_true rfl, Nat.le_of_ble_eq_true rfl⟩) [1] [0, 2, 3, 4] [0, 4, 1, 2, 3] rfl rfl rfl rfl (by decide) rfl rfl 0 1 rfl rfl rfl rfl rfl hl.1 (Nat.le_of_ble_eq_true rfl) dX2_takeStatement_221 ⟨Nat.zero_le _, Nat.zero_le _⟩ (fun H locs hP hD hS => ?_)
      obtain ⟨c9, hf⟩ := rf_chk hf
      obtain rfl := Option.some.inj hf
      exact W.zret (v := q8.1) hx hb hr (rf_nb c9) (fun t ht hW => ⟨⟨q8.1, (), rfl, rfl, rf_mk ht hP hD⟩, hS.F ht⟩) hS.2.2 dX2_takeStatement_224
    · have hf := rf_ifn hf c6
      by_cases c10 : q1 = 112
      · have hf := rf_ifp hf c10
        refine rf_tabC (off := 99) (tgt := 104) hx hb dX2_takeStatement_5 c10 (by decide) (by decide) (by decide) (by decide) ?_
        refine lv_aload_n hx hb dX2_takeStatement_104 rfl (lv_at hl 0 rfl) ?_
        refine va_get (D := D) (ci := 2) (v := .ref a_this_trial) (C := RX2) (T := TX2) (N := 12) hx hb hts jX2_takeStatement_X2 hown hK hP 0 rfl rfl 2 (by decide) (hts _ kX2_takeStatement_0) (fun _ h9 => h9) rfl dX2_takeStatement_105 ?_
        refine lv_aload_n hx hb dX2_takeStatement_108 rfl (lv_at hl 0 rfl) ?_
        refine lv_iload_n hx hb dX2_takeStatement_109 rfl (lv_at hl 1 rfl) ?_
        refine lv_iconst (v := 1) hx hb dX2_takeStatement_110 (by decide) ?_
        refine lv_iadd hx hb dX2_takeStatement_111 ?_
        obtain ⟨q11, hq11, hf⟩ := rf_bindq hf
        refine rf_Vi (As := [.int (p1 + 1)]) (rest := [.ref a_this_trial]) (wr := [(a_this_trial, .inr (0, rf_o0 a_this_trial_kinds a_this_trial_thicks g_this_trial)), (a_this_trial_kinds, .inl (cA, 6, .inl f_this_trial_kinds)), (a_this_trial_thicks, .inl (cA, 6, .inl f_this_trial_thicks))]) (wn := [(a_this, .inr (2, rf_o2 a_this_now a_this_then a_this_trial a_this_search a_this_letters a_this_numbers a_this_thickest a_this_refusals g_this)), (a_this_trial, .inr (0, rf_o0 a_this_trial_kinds a_this_trial_thicks g_this_trial)), (a_this_trial_kinds, .inl (cA, 6, .inl f_this_trial_kinds)), (a_this_trial_thicks, .inl (cA, 6, .inl f_this_trial_thicks)), (a_this_letters, .inl (cA, 96, .inl f_this_letters))]) ⟨hx, hb, hml, hown, hts⟩ hK hP hD hS hA hE (c_X2_letterAt l D cA ad a_this a_this_now a_this_then a_this_trial a_this_search a_this_letters a_this_numbers a_this_thickest a_this_refusals H.size g_this f_this_letters (p1 + 1) q11 hq11) (cwV 1 hts gX2_takeStatement_X2_letterAt rfl rfl rfl hv_X2_letterAt ⟨Nat.le_of_ble_eq_true rfl, Nat.le_of_ble_eq_true rfl⟩) [0, 4] [1, 2, 3] [3, 0, 1, 2, 4] rfl rfl rfl rfl (by decide) rfl rfl 2 0 rfl rfl rfl rfl rfl hl.1 (Nat.le_of_ble_eq_true rfl) dX2_takeStatement_112 ⟨Nat.zero_le _, Nat.zero_le _⟩ (fun H locs hP hD hS => ?_)
        obtain ⟨q12, hq12, hf⟩ := rf_bindq hf
        refine rf_Si (As := [.int q11]) (rest := [.ref a_this_trial]) (wr := [(a_this, .inr (2, rf_o2 a_this_now a_this_then a_this_trial a_this_search a_this_letters a_this_numbers a_this_thickest a_this_refusals g_this)), (a_this_trial, .inr (0, rf_o0 a_this_trial_kinds a_this_trial_thicks g_this_trial)), (a_this_trial_kinds, .inl (cA, 6, .inl f_this_trial_kinds)), (a_this_trial_thicks, .inl (cA, 6, .inl f_this_trial_thicks)), (a_this_letters, .inl (cA, 96, .inl f_this_letters))]) (wn := [(a_this, .inr (2, rf_o2 a_this_now a_this_then a_this_trial a_this_search a_this_letters a_this_numbers a_this_thickest a_this_refusals g_this)), (a_this_trial, .inr (0, rf_o0 a_this_trial_kinds a_this_trial_thicks g_this_trial)), (a_this_trial_kinds, .inl (cA, 6, .inl f_this_trial_kinds)), (a_this_trial_thicks, .inl (cA, 6, .inl f_this_trial_thicks)), (a_this_letters, .inl (cA, 96, .inl f_this_letters))]) ⟨hx, hb, hml, hown, hts⟩ hK hP hD hS hA hE (c_X2_kindOf l D cA ad H.size q11 q12 hq12) (va_cwS 1 hts gX2_takeStatement_X2_kindOf rfl rfl rfl hs_X2_kindOf ⟨Nat.le_of_ble_eq_true rfl, Nat.le_of_ble_eq_true rfl⟩) [] [0, 1, 2, 3, 4] [0, 1, 2, 3, 4] rfl rfl rfl rfl (by decide) rfl rfl rfl rfl hl.1 (Nat.le_of_ble_eq_true rfl) dX2_takeStatement_115 ⟨Nat.zero_le _, Nat.zero_le _⟩ (fun H locs hP hD hS => ?_)
        refine lv_aload_n hx hb dX2_takeStatement_118 rfl (lv_at hl 0 rfl) ?_
        refine lv_iload_n hx hb dX2_takeStatement_119 rfl (lv_at hl 1 rfl) ?_
        refine lv_iconst (v := 2) hx hb dX2_takeStatement_120 (by decide) ?_
        refine lv_iadd hx hb dX2_takeStatement_121 ?_
        refine lv_iconst (v := 3) hx hb dX2_takeStatement_122 (by decide) ?_
        obtain ⟨q13, hq13, hf⟩ := rf_bindq hf
        refine rf_Vi (As := [.int (p1 + 2), .int 3]) (rest := [.int q12, .ref a_this_trial]) (wr := [(a_this_trial, .inr (0, rf_o0 a_this_trial_kinds a_this_trial_thicks g_this_trial)), (a_this_trial_kinds, .inl (cA, 6, .inl f_this_trial_kinds)), (a_this_trial_thicks, .inl (cA, 6, .inl f_this_trial_thicks))]) (wn := [(a_this, .inr (2, rf_o2 a_this_now a_this_then a_this_trial a_this_search a_this_letters a_this_numbers a_this_thickest a_this_refusals g_this)), (a_this_trial, .inr (0, rf_o0 a_this_trial_kinds a_this_trial_thicks g_this_trial)), (a_this_trial_kinds, .inl (cA, 6, .inl f_this_trial_kinds)), (a_this_trial_thicks, .inl (cA, 6, .inl f_this_trial_thicks)), (a_this_letters, .inl (cA, 96, .inl f_this_letters))]) ⟨hx, hb, hml, hown, hts⟩ hK hP hD hS hA hE (c_X2_numberAt l D cA ad a_this a_this_now a_this_then a_this_trial a_this_search a_this_letters a_this_numbers a_this_thickest a_this_refusals H.size g_this f_this_letters (p1 + 2) 3 q13 hq13) (cwV 2 hts gX2_takeStatement_X2_numberAt rfl rfl rfl hv_X2_numberAt ⟨Nat.le_of_ble_eq_true rfl, Nat.le_of_ble_eq_true rfl⟩) [0, 4] [1, 2, 3] [3, 0, 1, 2, 4] rfl rfl rfl rfl (by decide) rfl rfl 2 0 rfl rfl rfl rfl rfl hl.1 (Nat.le_of_ble_eq_true rfl) dX2_takeStatement_123 ⟨Nat.zero_le _, Nat.zero_le _⟩ (fun H locs hP hD hS => ?_)
        obtain ⟨q14, hq14, hf⟩ := rf_bindq hf
        refine rf_Vi (As := [.int q12, .int q13]) (rest := []) (wr := [(a_this, .inr (2, rf_o2 a_this_now a_this_then a_this_trial a_this_search a_this_letters a_this_numbers a_this_thickest a_this_refusals g_this)), (a_this_letters, .inl (cA, 96, .inl f_this_letters))]) (wn := [(a_this, .inr (2, rf_o2 a_this_now a_this_then a_this_trial a_this_search a_this_letters a_this_numbers a_this_thickest a_this_refusals g_this)), (a_this_trial, .inr (0, rf_o0 a_this_trial_kinds a_this_trial_thicks q14.2.1)), (a_this_trial_kinds, .inl (cA, 6, .inl q14.2.2.1)), (a_this_trial_thicks, .inl (cA, 6, .inl q14.2.2.2)), (a_this_letters, .inl (cA, 96, .inl f_this_letters))]) ⟨hx, hb, hml, hown, hts⟩ hK hP hD hS hA hE (c_X0_takePart l D cA ad a_this_trial a_this_trial_kinds a_this_trial_thicks H.size g_this_trial f_this_trial_kinds f_this_trial_thicks q12 q13 q14 hq14) (cwV 2 hts gX2_takeStatement_X0_takePart rfl rfl rfl hv_X0_takePart ⟨Nat.le_of_ble_eq_true rfl, Nat.le_of_ble_eq_true rfl⟩) [1, 2, 3] [0, 4] [0, 2, 3, 4, 1] rfl rfl rfl rfl (by decide) rfl rfl 0 1 rfl rfl rfl rfl rfl hl.1 (Nat.le_of_ble_eq_true rfl) dX2_takeStatement_126 ⟨Nat.zero_le _, Nat.zero_le _⟩ (fun H locs hP hD hS => ?_)
        obtain ⟨c15, hf⟩ := rf_chk hf
        obtain rfl := Option.some.inj hf
        exact W.zret (v := q14.1) hx hb hr (rf_nb c15) (fun t ht hW => ⟨⟨q14.1, (), rfl, rfl, rf_mk ht hP hD⟩, hS.F ht⟩) hS.2.2 dX2_takeStatement_129
      · have hf := rf_ifn hf c10
        by_cases c16 : q1 = 114
        · have hf := rf_ifp hf c16
          refine rf_tabC (off := 125) (tgt := 130) hx hb dX2_takeStatement_5 c16 (by decide) (by decide) (by decide) (by decide) ?_
          refine lv_aload_n hx hb dX2_takeStatement_130 rfl (lv_at hl 0 rfl) ?_
          refine va_get (D := D) (ci := 2) (v := .ref a_this_trial) (C := RX2) (T := TX2) (N := 12) hx hb hts jX2_takeStatement_X2 hown hK hP 0 rfl rfl 2 (by decide) (hts _ kX2_takeStatement_0) (fun _ h9 => h9) rfl dX2_takeStatement_131 ?_
          refine lv_iconst (v := 0) hx hb dX2_takeStatement_134 (by decide) ?_
          refine lv_aload_n hx hb dX2_takeStatement_135 rfl (lv_at hl 0 rfl) ?_
          refine lv_iload_n hx hb dX2_takeStatement_136 rfl (lv_at hl 1 rfl) ?_
          refine lv_iconst (v := 1) hx hb dX2_takeStatement_137 (by decide) ?_
          refine lv_iadd hx hb dX2_takeStatement_138 ?_
          refine lv_iconst (v := 3) hx hb dX2_takeStatement_139 (by decide) ?_
          obtain ⟨q17, hq17, hf⟩ := rf_bindq hf
          refine rf_Vi (As := [.int (p1 + 1), .int 3]) (rest := [.int 0, .ref a_this_trial]) (wr := [(a_this_trial, .inr (0, rf_o0 a_this_trial_kinds a_this_trial_thicks g_this_trial)), (a_this_trial_kinds, .inl (cA, 6, .inl f_this_trial_kinds)), (a_this_trial_thicks, .inl (cA, 6, .inl f_this_trial_thicks))]) (wn := [(a_this, .inr (2, rf_o2 a_this_now a_this_then a_this_trial a_this_search a_this_letters a_this_numbers a_this_thickest a_this_refusals g_this)), (a_this_trial, .inr (0, rf_o0 a_this_trial_kinds a_this_trial_thicks g_this_trial)), (a_this_trial_kinds, .inl (cA, 6, .inl f_this_trial_kinds)), (a_this_trial_thicks, .inl (cA, 6, .inl f_this_trial_thicks)), (a_this_letters, .inl (cA, 96, .inl f_this_letters))]) ⟨hx, hb, hml, hown, hts⟩ hK hP hD hS hA hE (c_X2_numberAt l D cA ad a_this a_this_now a_this_then a_this_trial a_this_search a_this_letters a_this_numbers a_this_thickest a_this_refusals H.size g_this f_this_letters (p1 + 1) 3 q17 hq17) (cwV 2 hts gX2_takeStatement_X2_numberAt rfl rfl rfl hv_X2_numberAt ⟨Nat.le_of_ble_eq_true rfl, Nat.le_of_ble_eq_true rfl⟩) [0, 4] [1, 2, 3] [3, 0, 1, 2, 4] rfl rfl rfl rfl (by decide) rfl rfl 2 0 rfl rfl rfl rfl rfl hl.1 (Nat.le_of_ble_eq_true rfl) dX2_takeStatement_140 ⟨Nat.zero_le _, Nat.zero_le _⟩ (fun H locs hP hD hS => ?_)
          obtain ⟨q18, hq18, hf⟩ := rf_bindq hf
          refine rf_Vi (As := [.int 0, .int q17]) (rest := []) (wr := [(a_this, .inr (2, rf_o2 a_this_now a_this_then a_this_trial a_this_search a_this_letters a_this_numbers a_this_thickest a_this_refusals g_this)), (a_this_trial_kinds, .inl (cA, 6, .inl f_this_trial_kinds)), (a_this_trial_thicks, .inl (cA, 6, .inl f_this_trial_thicks)), (a_this_letters, .inl (cA, 96, .inl f_this_letters))]) (wn := [(a_this, .inr (2, rf_o2 a_this_now a_this_then a_this_trial a_this_search a_this_letters a_this_numbers a_this_thickest a_this_refusals g_this)), (a_this_trial, .inr (0, rf_o0 a_this_trial_kinds a_this_trial_thicks q18.2)), (a_this_trial_kinds, .inl (cA, 6, .inl f_this_trial_kinds)), (a_this_trial_thicks, .inl (cA, 6, .inl f_this_trial_thicks)), (a_this_letters, .inl (cA, 96, .inl f_this_letters))]) ⟨hx, hb, hml, hown, hts⟩ hK hP hD hS hA hE (c_X0_takeSetting l D cA ad a_this_trial a_this_trial_kinds a_this_trial_thicks H.size g_this_trial 0 q17 q18 hq18) (cwV 2 hts gX2_takeStatement_X0_takeSetting rfl rfl rfl hv_X0_takeSetting ⟨Nat.le_of_ble_eq_true rfl, Nat.le_of_ble_eq_true rfl⟩) [1] [0, 2, 3, 4] [0, 4, 1, 2, 3] rfl rfl rfl rfl (by decide) rfl rfl 0 1 rfl rfl rfl rfl rfl hl.1 (Nat.le_of_ble_eq_true rfl) dX2_takeStatement_143 ⟨Nat.zero_le _, Nat.zero_le _⟩ (fun H locs hP hD hS => ?_)
          refine lv_if_eq (tgt := 172) hx hb dX2_takeStatement_146 (by decide) (fun c19 => ?_) (fun c19 => ?_)
          · have hf := rf_ifp hf c19
            refine lv_iconst (v := 0) hx hb dX2_takeStatement_172 (by decide) ?_
            obtain rfl := Option.some.inj hf
            exact W.zret (v := 0) hx hb hr rfl (fun t ht hW => ⟨⟨0, (), rfl, rfl, rf_mk ht hP hD⟩, hS.F ht⟩) hS.2.2 dX2_takeStatement_173
          · have hf := rf_ifn hf c19
            refine lv_aload_n hx hb dX2_takeStatement_149 rfl (lv_at hl 0 rfl) ?_
            refine va_get (D := D) (ci := 2) (v := .ref a_this_trial) (C := RX2) (T := TX2) (N := 12) hx hb hts jX2_takeStatement_X2 hown hK hP 0 rfl rfl 2 (by decide) (hts _ kX2_takeStatement_0) (fun _ h9 => h9) rfl dX2_takeStatement_150 ?_
            refine lv_iconst (v := 1) hx hb dX2_takeStatement_153 (by decide) ?_
            refine lv_aload_n hx hb dX2_takeStatement_154 rfl (lv_at hl 0 rfl) ?_
            refine lv_iload_n hx hb dX2_takeStatement_155 rfl (lv_at hl 1 rfl) ?_
            refine lv_iconst (v := 4) hx hb dX2_takeStatement_156 (by decide) ?_
            refine lv_iadd hx hb dX2_takeStatement_157 ?_
            refine lv_iconst (v := 1) hx hb dX2_takeStatement_158 (by decide) ?_
            obtain ⟨q20, hq20, hf⟩ := rf_bindq hf
            refine rf_Vi (As := [.int (p1 + 4), .int 1]) (rest := [.int 1, .ref a_this_trial]) (wr := [(a_this_trial, .inr (0, rf_o0 a_this_trial_kinds a_this_trial_thicks q18.2)), (a_this_trial_kinds, .inl (cA, 6, .inl f_this_trial_kinds)), (a_this_trial_thicks, .inl (cA, 6, .inl f_this_trial_thicks))]) (wn := [(a_this, .inr (2, rf_o2 a_this_now a_this_then a_this_trial a_this_search a_this_letters a_this_numbers a_this_thickest a_this_refusals g_this)), (a_this_trial, .inr (0, rf_o0 a_this_trial_kinds a_this_trial_thicks q18.2)), (a_this_trial_kinds, .inl (cA, 6, .inl f_this_trial_kinds)), (a_this_trial_thicks, .inl (cA, 6, .inl f_this_trial_thicks)), (a_this_letters, .inl (cA, 96, .inl f_this_letters))]) ⟨hx, hb, hml, hown, hts⟩ hK hP hD hS hA hE (c_X2_numberAt l D cA ad a_this a_this_now a_this_then a_this_trial a_this_search a_this_letters a_this_numbers a_this_thickest a_this_refusals H.size g_this f_this_letters (p1 + 4) 1 q20 hq20) (cwV 2 hts gX2_takeStatement_X2_numberAt rfl rfl rfl hv_X2_numberAt ⟨Nat.le_of_ble_eq_true rfl, Nat.le_of_ble_eq_true rfl⟩) [0, 4] [1, 2, 3] [3, 0, 1, 2, 4] rfl rfl rfl rfl (by decide) rfl rfl 2 0 rfl rfl rfl rfl rfl hl.1 (Nat.le_of_ble_eq_true rfl) dX2_takeStatement_159 ⟨Nat.zero_le _, Nat.zero_le _⟩ (fun H locs hP hD hS => ?_)
            obtain ⟨q21, hq21, hf⟩ := rf_bindq hf
            refine rf_Vi (As := [.int 1, .int q20]) (rest := []) (wr := [(a_this, .inr (2, rf_o2 a_this_now a_this_then a_this_trial a_this_search a_this_letters a_this_numbers a_this_thickest a_this_refusals g_this)), (a_this_trial_kinds, .inl (cA, 6, .inl f_this_trial_kinds)), (a_this_trial_thicks, .inl (cA, 6, .inl f_this_trial_thicks)), (a_this_letters, .inl (cA, 96, .inl f_this_letters))]) (wn := [(a_this, .inr (2, rf_o2 a_this_now a_this_then a_this_trial a_this_search a_this_letters a_this_numbers a_this_thickest a_this_refusals g_this)), (a_this_trial, .inr (0, rf_o0 a_this_trial_kinds a_this_trial_thicks q21.2)), (a_this_trial_kinds, .inl (cA, 6, .inl f_this_trial_kinds)), (a_this_trial_thicks, .inl (cA, 6, .inl f_this_trial_thicks)), (a_this_letters, .inl (cA, 96, .inl f_this_letters))]) ⟨hx, hb, hml, hown, hts⟩ hK hP hD hS hA hE (c_X0_takeSetting l D cA ad a_this_trial a_this_trial_kinds a_this_trial_thicks H.size q18.2 1 q20 q21 hq21) (cwV 2 hts gX2_takeStatement_X0_takeSetting rfl rfl rfl hv_X0_takeSetting ⟨Nat.le_of_ble_eq_true rfl, Nat.le_of_ble_eq_true rfl⟩) [1] [0, 2, 3, 4] [0, 4, 1, 2, 3] rfl rfl rfl rfl (by decide) rfl rfl 0 1 rfl rfl rfl rfl rfl hl.1 (Nat.le_of_ble_eq_true rfl) dX2_takeStatement_162 ⟨Nat.zero_le _, Nat.zero_le _⟩ (fun H locs hP hD hS => ?_)
            refine lv_if_eq (tgt := 172) hx hb dX2_takeStatement_165 (by decide) (fun c22 => ?_) (fun c22 => ?_)
            · have hf := rf_ifp hf c22
              refine lv_iconst (v := 0) hx hb dX2_takeStatement_172 (by decide) ?_
              obtain rfl := Option.some.inj hf
              exact W.zret (v := 0) hx hb hr rfl (fun t ht hW => ⟨⟨0, (), rfl, rfl, rf_mk ht hP hD⟩, hS.F ht⟩) hS.2.2 dX2_takeStatement_173
            · have hf := rf_ifn hf c22
              refine lv_iconst (v := 1) hx hb dX2_takeStatement_168 (by decide) ?_
              refine lv_goto (tgt := 173) hx hb dX2_takeStatement_169 (by decide) ?_
              obtain rfl := Option.some.inj hf
              exact W.zret (v := 1) hx hb hr rfl (fun t ht hW => ⟨⟨1, (), rfl, rfl, rf_mk ht hP hD⟩, hS.F ht⟩) hS.2.2 dX2_takeStatement_173
        · have hf := rf_ifn hf c16
          by_cases c23 : q1 = 115
          · have hf := rf_ifp hf c23
            refine rf_tabC (off := 169) (tgt := 174) hx hb dX2_takeStatement_5 c23 (by decide) (by decide) (by decide) (by decide) ?_
            refine lv_aload_n hx hb dX2_takeStatement_174 rfl (lv_at hl 0 rfl) ?_
            refine va_get (D := D) (ci := 2) (v := .ref a_this_trial) (C := RX2) (T := TX2) (N := 12) hx hb hts jX2_takeStatement_X2 hown hK hP 0 rfl rfl 2 (by decide) (hts _ kX2_takeStatement_0) (fun _ h9 => h9) rfl dX2_takeStatement_175 ?_
            refine lv_iconst (v := 2) hx hb dX2_takeStatement_178 (by decide) ?_
            refine lv_aload_n hx hb dX2_takeStatement_179 rfl (lv_at hl 0 rfl) ?_
            refine lv_iload_n hx hb dX2_takeStatement_180 rfl (lv_at hl 1 rfl) ?_
            refine lv_iconst (v := 1) hx hb dX2_takeStatement_181 (by decide) ?_
            refine lv_iadd hx hb dX2_takeStatement_182 ?_
            refine lv_iconst (v := 2) hx hb dX2_takeStatement_183 (by decide) ?_
            obtain ⟨q24, hq24, hf⟩ := rf_bindq hf
            refine rf_Vi (As := [.int (p1 + 1), .int 2]) (rest := [.int 2, .ref a_this_trial]) (wr := [(a_this_trial, .inr (0, rf_o0 a_this_trial_kinds a_this_trial_thicks g_this_trial)), (a_this_trial_kinds, .inl (cA, 6, .inl f_this_trial_kinds)), (a_this_trial_thicks, .inl (cA, 6, .inl f_this_trial_thicks))]) (wn := [(a_this, .inr (2, rf_o2 a_this_now a_this_then a_this_trial a_this_search a_this_letters a_this_numbers a_this_thickest a_this_refusals g_this)), (a_this_trial, .inr (0, rf_o0 a_this_trial_kinds a_this_trial_thicks g_this_trial)), (a_this_trial_kinds, .inl (cA, 6, .inl f_this_trial_kinds)), (a_this_trial_thicks, .inl (cA, 6, .inl f_this_trial_thicks)), (a_this_letters, .inl (cA, 96, .inl f_this_letters))]) ⟨hx, hb, hml, hown, hts⟩ hK hP hD hS hA hE (c_X2_numberAt l D cA ad a_this a_this_now a_this_then a_this_trial a_this_search a_this_letters a_this_numbers a_this_thickest a_this_refusals H.size g_this f_this_letters (p1 + 1) 2 q24 hq24) (cwV 2 hts gX2_takeStatement_X2_numberAt rfl rfl rfl hv_X2_numberAt ⟨Nat.le_of_ble_eq_true rfl, Nat.le_of_ble_eq_true rfl⟩) [0, 4] [1, 2, 3] [3, 0, 1, 2, 4] rfl rfl rfl rfl (by decide) rfl rfl 2 0 rfl rfl rfl rfl rfl hl.1 (Nat.le_of_ble_eq_true rfl) dX2_takeStatement_184 ⟨Nat.zero_le _, Nat.zero_le _⟩ (fun H locs hP hD hS => ?_)
            obtain ⟨q25, hq25, hf⟩ := rf_bindq hf
            refine rf_Vi (As := [.int 2, .int q24]) (rest := []) (wr := [(a_this, .inr (2, rf_o2 a_this_now a_this_then a_this_trial a_this_search a_this_letters a_this_numbers a_this_thickest a_this_refusals g_this)), (a_this_trial_kinds, .inl (cA, 6, .inl f_this_trial_kinds)), (a_this_trial_thicks, .inl (cA, 6, .inl f_this_trial_thicks)), (a_this_letters, .inl (cA, 96, .inl f_this_letters))]) (wn := [(a_this, .inr (2, rf_o2 a_this_now a_this_then a_this_trial a_this_search a_this_letters a_this_numbers a_this_thickest a_this_refusals g_this)), (a_this_trial, .inr (0, rf_o0 a_this_trial_kinds a_this_trial_thicks q25.2)), (a_this_trial_kinds, .inl (cA, 6, .inl f_this_trial_kinds)), (a_this_trial_thicks, .inl (cA, 6, .inl f_this_trial_thicks)), (a_this_letters, .inl (cA, 96, .inl f_this_letters))]) ⟨hx, hb, hml, hown, hts⟩ hK hP hD hS hA hE (c_X0_takeSetting l D cA ad a_this_trial a_this_trial_kinds a_this_trial_thicks H.size g_this_trial 2 q24 q25 hq25) (cwV 2 hts gX2_takeStatement_X0_takeSetting rfl rfl rfl hv_X0_takeSetting ⟨Nat.le_of_ble_eq_true rfl, Nat.le_of_ble_eq_true rfl⟩) [1] [0, 2, 3, 4] [0, 4, 1, 2, 3] rfl rfl rfl rfl (by decide) rfl rfl 0 1 rfl rfl rfl rfl rfl hl.1 (Nat.le_of_ble_eq_true rfl) dX2_takeStatement_187 ⟨Nat.zero_le _, Nat.zero_le _⟩ (fun H locs hP hD hS => ?_)
            obtain ⟨c26, hf⟩ := rf_chk hf
            obtain rfl := Option.some.inj hf
            exact W.zret (v := q25.1) hx hb hr (rf_nb c26) (fun t ht hW => ⟨⟨q25.1, (), rfl, rfl, rf_mk ht hP hD⟩, hS.F ht⟩) hS.2.2 dX2_takeStatement_190
          · have hf := rf_ifn hf c23
            by_cases c27 : q1 = 116
            · have hf := rf_ifp hf c27
              refine rf_tabC (off := 220) (tgt := 225) hx hb dX2_takeStatement_5 c27 (by decide) (by decide) (by decide) (by decide) ?_
              refine lv_aload_n hx hb dX2_takeStatement_225 rfl (lv_at hl 0 rfl) ?_
              refine va_get (D := D) (ci := 2) (v := .ref a_this_trial) (C := RX2) (T := TX2) (N := 12) hx hb hts jX2_takeStatement_X2 hown hK hP 0 rfl rfl 2 (by decide) (hts _ kX2_takeStatement_0) (fun _ h9 => h9) rfl dX2_takeStatement_226 ?_
              refine lv_aload_n hx hb dX2_takeStatement_229 rfl (lv_at hl 0 rfl) ?_
              refine lv_iload_n hx hb dX2_takeStatement_230 rfl (lv_at hl 1 rfl) ?_
              refine lv_iconst (v := 1) hx hb dX2_takeStatement_231 (by decide) ?_
              refine lv_iadd hx hb dX2_takeStatement_232 ?_
              refine lv_iconst (v := 1) hx hb dX2_takeStatement_233 (by decide) ?_
              obtain ⟨q28, hq28, hf⟩ := rf_bindq hf
              refine rf_Vi (As := [.int (p1 + 1), .int 1]) (rest := [.ref a_this_trial]) (wr := [(a_this_trial, .inr (0, rf_o0 a_this_trial_kinds a_this_trial_thicks g_this_trial)), (a_this_trial_kinds, .inl (cA, 6, .inl f_this_trial_kinds)), (a_this_trial_thicks, .inl (cA, 6, .inl f_this_trial_thicks))]) (wn := [(a_this, .inr (2, rf_o2 a_this_now a_this_then a_this_trial a_this_search a_this_letters a_this_numbers a_this_thickest a_this_refusals g_this)), (a_this_trial, .inr (0, rf_o0 a_this_trial_kinds a_this_trial_thicks g_this_trial)), (a_this_trial_kinds, .inl (cA, 6, .inl f_this_trial_kinds)), (a_this_trial_thicks, .inl (cA, 6, .inl f_this_trial_thicks)), (a_this_letters, .inl (cA, 96, .inl f_this_letters))]) ⟨hx, hb, hml, hown, hts⟩ hK hP hD hS hA hE (c_X2_numberAt l D cA ad a_this a_this_now a_this_then a_this_trial a_this_search a_this_letters a_this_numbers a_this_thickest a_this_refusals H.size g_this f_this_letters (p1 + 1) 1 q28 hq28) (cwV 2 hts gX2_takeStatement_X2_numberAt rfl rfl rfl hv_X2_numberAt ⟨Nat.le_of_ble_eq_true rfl, Nat.le_of_ble_eq_true rfl⟩) [0, 4] [1, 2, 3] [3, 0, 1, 2, 4] rfl rfl rfl rfl (by decide) rfl rfl 2 0 rfl rfl rfl rfl rfl hl.1 (Nat.le_of_ble_eq_true rfl) dX2_takeStatement_234 ⟨Nat.zero_le _, Nat.zero_le _⟩ (fun H locs hP hD hS => ?_)
              obtain ⟨q29, hq29, hf⟩ := rf_bindq hf
              refine rf_Vi (As := [.int q28]) (rest := []) (wr := [(a_this, .inr (2, rf_o2 a_this_now a_this_then a_this_trial a_this_search a_this_letters a_this_numbers a_this_thickest a_this_refusals g_this)), (a_this_letters, .inl (cA, 96, .inl f_this_letters))]) (wn := [(a_this, .inr (2, rf_o2 a_this_now a_this_then a_this_trial a_this_search a_this_letters a_this_numbers a_this_thickest a_this_refusals g_this)), (a_this_trial, .inr (0, rf_o0 a_this_trial_kinds a_this_trial_thicks q29.2)), (a_this_trial_kinds, .inl (cA, 6, .inl f_this_trial_kinds)), (a_this_trial_thicks, .inl (cA, 6, .inl f_this_trial_thicks)), (a_this_letters, .inl (cA, 96, .inl f_this_letters))]) ⟨hx, hb, hml, hown, hts⟩ hK hP hD hS hA hE (c_X0_takeTry l D cA ad a_this_trial a_this_trial_kinds a_this_trial_thicks H.size g_this_trial f_this_trial_kinds f_this_trial_thicks q28 q29 hq29) (cwV 1 hts gX2_takeStatement_X0_takeTry rfl rfl rfl hv_X0_takeTry ⟨Nat.le_of_ble_eq_true rfl, Nat.le_of_ble_eq_true rfl⟩) [1, 2, 3] [0, 4] [0, 2, 3, 4, 1] rfl rfl rfl rfl (by decide) rfl rfl 0 1 rfl rfl rfl rfl rfl hl.1 (Nat.le_of_ble_eq_true rfl) dX2_takeStatement_237 ⟨Nat.zero_le _, Nat.zero_le _⟩ (fun H locs hP hD hS => ?_)
              obtain ⟨c30, hf⟩ := rf_chk hf
              obtain rfl := Option.some.inj hf
              exact W.zret (v := q29.1) hx hb hr (rf_nb c30) (fun t ht hW => ⟨⟨q29.1, (), rfl, rfl, rf_mk ht hP hD⟩, hS.F ht⟩) hS.2.2 dX2_takeStatement_240
            · have hf := rf_ifn hf c27
              by_cases c31 : q1 = 119
              · have hf := rf_ifp hf c31
                refine rf_tabC (off := 236) (tgt := 241) hx hb dX2_takeStatement_5 c31 (by decide) (by decide) (by decide) (by decide) ?_
                refine lv_aload_n hx hb dX2_takeStatement_241 rfl (lv_at hl 0 rfl) ?_
                refine va_get (D := D) (ci := 2) (v := .ref a_this_trial) (C := RX2) (T := TX2) (N := 12) hx hb hts jX2_takeStatement_X2 hown hK hP 0 rfl rfl 2 (by decide) (hts _ kX2_takeStatement_0) (fun _ h9 => h9) rfl dX2_takeStatement_242 ?_
                refine lv_aload_n hx hb dX2_takeStatement_245 rfl (lv_at hl 0 rfl) ?_
                refine lv_iload_n hx hb dX2_takeStatement_246 rfl (lv_at hl 1 rfl) ?_
                refine lv_iconst (v := 1) hx hb dX2_takeStatement_247 (by decide) ?_
                refine lv_iadd hx hb dX2_takeStatement_248 ?_
                refine lv_iconst (v := 2) hx hb dX2_takeStatement_249 (by decide) ?_
                obtain ⟨q32, hq32, hf⟩ := rf_bindq hf
                refine rf_Vi (As := [.int (p1 + 1), .int 2]) (rest := [.ref a_this_trial]) (wr := [(a_this_trial, .inr (0, rf_o0 a_this_trial_kinds a_this_trial_thicks g_this_trial)), (a_this_trial_kinds, .inl (cA, 6, .inl f_this_trial_kinds)), (a_this_trial_thicks, .inl (cA, 6, .inl f_this_trial_thicks))]) (wn := [(a_this, .inr (2, rf_o2 a_this_now a_this_then a_this_trial a_this_search a_this_letters a_this_numbers a_this_thickest a_this_refusals g_this)), (a_this_trial, .inr (0, rf_o0 a_this_trial_kinds a_this_trial_thicks g_this_trial)), (a_this_trial_kinds, .inl (cA, 6, .inl f_this_trial_kinds)), (a_this_trial_thicks, .inl (cA, 6, .inl f_this_trial_thicks)), (a_this_letters, .inl (cA, 96, .inl f_this_letters))]) ⟨hx, hb, hml, hown, hts⟩ hK hP hD hS hA hE (c_X2_numberAt l D cA ad a_this a_this_now a_this_then a_this_trial a_this_search a_this_letters a_this_numbers a_this_thickest a_this_refusals H.size g_this f_this_letters (p1 + 1) 2 q32 hq32) (cwV 2 hts gX2_takeStatement_X2_numberAt rfl rfl rfl hv_X2_numberAt ⟨Nat.le_of_ble_eq_true rfl, Nat.le_of_ble_eq_true rfl⟩) [0, 4] [1, 2, 3] [3, 0, 1, 2, 4] rfl rfl rfl rfl (by decide) rfl rfl 2 0 rfl rfl rfl rfl rfl hl.1 (Nat.le_of_ble_eq_true rfl) dX2_takeStatement_250 ⟨Nat.zero_le _, Nat.zero_le _⟩ (fun H locs hP hD hS => ?_)
                obtain ⟨q33, hq33, hf⟩ := rf_bindq hf
                refine rf_Vi (As := [.int q32]) (rest := []) (wr := [(a_this, .inr (2, rf_o2 a_this_now a_this_then a_this_trial a_this_search a_this_letters a_this_numbers a_this_thickest a_this_refusals g_this)), (a_this_trial_kinds, .inl (cA, 6, .inl f_this_trial_kinds)), (a_this_trial_thicks, .inl (cA, 6, .inl f_this_trial_thicks)), (a_this_letters, .inl (cA, 96, .inl f_this_letters))]) (wn := [(a_this, .inr (2, rf_o2 a_this_now a_this_then a_this_trial a_this_search a_this_letters a_this_numbers a_this_thickest a_this_refusals g_this)), (a_this_trial, .inr (0, rf_o0 a_this_trial_kinds a_this_trial_thicks q33.2)), (a_this_trial_kinds, .inl (cA, 6, .inl f_this_trial_kinds)), (a_this_trial_thicks, .inl (cA, 6, .inl f_this_trial_thicks)), (a_this_letters, .inl (cA, 96, .inl f_this_letters))]) ⟨hx, hb, hml, hown, hts⟩ hK hP hD hS hA hE (c_X0_takeWait l D cA ad a_this_trial a_this_trial_kinds a_this_trial_thicks H.size g_this_trial q32 q33 hq33) (cwV 1 hts gX2_takeStatement_X0_takeWait rfl rfl rfl hv_X0_takeWait ⟨Nat.le_of_ble_eq_true rfl, Nat.le_of_ble_eq_true rfl⟩) [1] [0, 2, 3, 4] [0, 4, 1, 2, 3] rfl rfl rfl rfl (by decide) rfl rfl 0 1 rfl rfl rfl rfl rfl hl.1 (Nat.le_of_ble_eq_true rfl) dX2_takeStatement_253 ⟨Nat.zero_le _, Nat.zero_le _⟩ (fun H locs hP hD hS => ?_)
                obtain ⟨c34, hf⟩ := rf_chk hf
                obtain rfl := Option.some.inj hf
                exact W.zret (v := q33.1) hx hb hr (rf_nb c34) (fun t ht hW => ⟨⟨q33.1, (), rfl, rfl, rf_mk ht hP hD⟩, hS.F ht⟩) hS.2.2 dX2_takeStatement_256
              · have hf := rf_ifn hf c31
                refine rf_tabD (tgt := 257) (ks := [99, 104, 112, 114, 115, 116, 119]) hx hb dX2_takeStatement_5 (by intro z hz; simp only [List.mem_cons, List.not_mem_nil, or_false] at hz; rcases hz with rfl | rfl | rfl | rfl | rfl | rfl | rfl <;> assumption) (by decide) (by decide) ?_
                refine lv_iconst (v := 0) hx hb dX2_takeStatement_257 (by decide) ?_
                obtain rfl := Option.some.inj hf
                exact W.zret (v := 0) hx hb hr rfl (fun t ht hW => ⟨⟨0, (), rfl, rfl, rf_mk ht hP hD⟩, hS.F ht⟩) hS.2.2 dX2_takeStatement_258
theorem kX2_takeStatements_0 : (.fieldLink RX2 42 "RingAndFinger" "letterCount" "I" : Cond) ∈ wsX2_takeStatements := by decide +kernel
theorem kX2_takeStatements_1 : (.fieldLink RX2 19 "RingAndFinger" "trial" "LRingAndFinger$Finger;" : Cond) ∈ wsX2_takeStatements := by decide +kernel
theorem kX2_takeStatements_2 : (.fieldLink RX2 10 "RingAndFinger" "now" "LRingAndFinger$Finger;" : Cond) ∈ wsX2_takeStatements := by decide +kernel
theorem jX2_takeStatements_X2 : ∀ w ∈ u_ws RX2 TX2 12, w ∈ wsX2_takeStatements := by decide +kernel
set_option maxHeartbeats 8000000 in
set_option maxRecDepth 100000 in
theorem c_X2_takeStatements (l : Launch) (D : va_G) (cA : ClassId) (ad : Nat → Nat) (a_this a_this_now a_this_then a_this_trial a_this_search a_this_letters a_this_numbers a_this_thickest a_this_refusals a_this_now_kinds a_this_now_thicks a_this_trial_kinds a_this_trial_thicks : Nat) (sz : Nat) (g_this g_this_now f_this_now_kinds f_this_now_thicks g_this_trial f_this_trial_kinds f_this_trial_thicks f_this_letters : Nat → Int32) (q : Int32 × (Nat → Int32) × (Nat → Int32) × (Nat → Int32) × (Nat → Int32) × (Nat → Int32) × (Nat → Int32)) (hf : f_X2_takeStatements g_this g_this_now f_this_now_kinds f_this_now_thicks g_this_trial f_this_trial_kinds f_this_trial_thicks f_this_letters = some q) : Met l yX2_takeStatements wsX2_takeStatements ({ frames := 6, cells := 0, slots := 0, locals := 133 } : Room) (va_Pc [.ref a_this] (rf_Pre D cA ad [(a_this, .inr (2, rf_o2 a_this_now a_this_then a_this_trial a_this_search a_this_letters a_this_numbers a_this_thickest a_this_refusals g_this)), (a_this_now, .inr (0, rf_o0 a_this_now_kinds a_this_now_thicks g_this_now)), (a_this_now_kinds, .inl (cA, 6, .inl f_this_now_kinds)), (a_this_now_thicks, .inl (cA, 6, .inl f_this_now_thicks)), (a_this_trial, .inr (0, rf_o0 a_this_trial_kinds a_this_trial_thicks g_this_trial)), (a_this_trial_kinds, .inl (cA, 6, .inl f_this_trial_kinds)), (a_this_trial_thicks, .inl (cA, 6, .inl f_this_trial_thicks)), (a_this_letters, .inl (cA, 96, .inl f_this_letters))] sz)) (va_Qi (fun (r : Int32) (_ : Unit) => r = q.1) (fun _ t => rf_Post D (va_A [(a_this, .inr (2, rf_o2 a_this_now a_this_then a_this_trial a_this_search a_this_letters a_this_numbers a_this_thickest a_this_refusals g_this)), (a_this_now, .inr (0, rf_o0 a_this_now_kinds a_this_now_thicks g_this_now)), (a_this_now_kinds, .inl (cA, 6, .inl f_this_now_kinds)), (a_this_now_thicks, .inl (cA, 6, .inl f_this_now_thicks)), (a_this_trial, .inr (0, rf_o0 a_this_trial_kinds a_this_trial_thicks g_this_trial)), (a_this_trial_kinds, .inl (cA, 6, .inl f_this_trial_kinds)), (a_this_trial_thicks, .inl (cA, 6, .inl f_this_trial_thicks)), (a_this_letters, .inl (cA, 96, .inl f_this_letters))] sz) [(a_this, .inr (2, rf_o2 a_this_now a_this_then a_this_trial a_this_search a_this_letters a_this_numbers a_this_thickest a_this_refusals g_this)), (a_this_now, .inr (0, rf_o0 a_this_now_kinds a_this_now_thicks q.2.1)), (a_this_now_kinds, .inl (cA, 6, .inl q.2.2.1)), (a_this_now_thicks, .inl (cA, 6, .inl q.2.2.2.1)), (a_this_trial, .inr (0, rf_o0 a_this_trial_kinds a_this_trial_thicks q.2.2.2.2.1)), (a_this_trial_kinds, .inl (cA, 6, .inl q.2.2.2.2.2.1)), (a_this_trial_thicks, .inl (cA, 6, .inl q.2.2.2.2.2.2)), (a_this_letters, .inl (cA, 96, .inl f_this_letters))] t) (va_A [(a_this, .inr (2, rf_o2 a_this_now a_this_then a_this_trial a_this_search a_this_letters a_this_numbers a_this_thickest a_this_refusals g_this)), (a_this_now, .inr (0, rf_o0 a_this_now_kinds a_this_now_thicks g_this_now)), (a_this_now_kinds, .inl (cA, 6, .inl f_this_now_kinds)), (a_this_now_thicks, .inl (cA, 6, .inl f_this_now_thicks)), (a_this_trial, .inr (0, rf_o0 a_this_trial_kinds a_this_trial_thicks g_this_trial)), (a_this_trial_kinds, .inl (cA, 6, .inl f_this_trial_kinds)), (a_this_trial_thicks, .inl (cA, 6, .inl f_this_trial_thicks)), (a_this_letters, .inl (cA, 96, .inl f_this_letters))] sz)) 0 0 (va_A [(a_this, .inr (2, rf_o2 a_this_now a_this_then a_this_trial a_this_search a_this_letters a_this_numbers a_this_thickest a_this_refusals g_this)), (a_this_now, .inr (0, rf_o0 a_this_now_kinds a_this_now_thicks g_this_now)), (a_this_now_kinds, .inl (cA, 6, .inl f_this_now_kinds)), (a_this_now_thicks, .inl (cA, 6, .inl f_this_now_thicks)), (a_this_trial, .inr (0, rf_o0 a_this_trial_kinds a_this_trial_thicks g_this_trial)), (a_this_trial_kinds, .inl (cA, 6, .inl f_this_trial_kinds)), (a_this_trial_thicks, .inl (cA, 6, .inl f_this_trial_thicks)), (a_this_letters, .inl (cA, 96, .inl f_this_letters))] sz) := by
  refine Met.ofW (cc := cX2_takeStatements) (maxL := 4) (ret := (some .int)) (by decide) rfl ?_
  intro p e s m args below meth c s₁ B hml hv
  obtain ⟨rfl, hsz, hP, hK, hD0, hE⟩ := hv
  have hx := B.exec
  have hb := B.bytes
  have hr := B.returns
  have hts := atoms_spec (ws := wsX2_takeStatements) B.pre
  have hown : s.vm.findClass RX2 = some m.cls := findClass_of_methodNamed B.named
  have hlocks := B.notSynchronized
  subst hsz
  have hD := hD0.self (sz := s.heap.size)
  generalize hAe : va_A [(a_this, .inr (2, rf_o2 a_this_now a_this_then a_this_trial a_this_search a_this_letters a_this_numbers a_this_thickest a_this_refusals g_this)), (a_this_now, .inr (0, rf_o0 a_this_now_kinds a_this_now_thicks g_this_now)), (a_this_now_kinds, .inl (cA, 6, .inl f_this_now_kinds)), (a_this_now_thicks, .inl (cA, 6, .inl f_this_now_thicks)), (a_this_trial, .inr (0, rf_o0 a_this_trial_kinds a_this_trial_thicks g_this_trial)), (a_this_trial_kinds, .inl (cA, 6, .inl f_this_trial_kinds)), (a_this_trial_thicks, .inl (cA, 6, .inl f_this_trial_thicks)), (a_this_letters, .inl (cA, 96, .inl f_this_letters))] s.heap.size = A at hD hE ⊢
  have hA : ∀ q : Nat, s.heap.size ≤ q → A q := fun q h => by rw [← hAe]; exact Or.inr h
  have hS : va_S A s.heap s.heap [] := va_S.rf
  have hP : va_P D vwCl [(a_this, .inr (2, rf_o2 a_this_now a_this_then a_this_trial a_this_search a_this_letters a_this_numbers a_this_thickest a_this_refusals g_this)), (a_this_now, .inr (0, rf_o0 a_this_now_kinds a_this_now_thicks g_this_now)), (a_this_now_kinds, .inl (cA, 6, .inl f_this_now_kinds)), (a_this_now_thicks, .inl (cA, 6, .inl f_this_now_thicks)), (a_this_trial, .inr (0, rf_o0 a_this_trial_kinds a_this_trial_thicks g_this_trial)), (a_this_trial_kinds, .inl (cA, 6, .inl f_this_trial_kinds)), (a_this_trial_thicks, .inl (cA, 6, .inl f_this_trial_thicks)), (a_this_letters, .inl (cA, 96, .inl f_this_letters))] s.heap := hP
  have hl := lv_entry ([.ref a_this]) (n := 4) (Nat.le_of_ble_eq_true rfl)
  rw [lg_entry_eq]
  generalize (lg_sl ([.ref a_this]) ++ List.replicate (4 - (lg_sl ([.ref a_this])).length) Slot.unset).toArray = ls at hl ⊢
  have hl : lv_has ls 4 [(0, .ref a_this)] := hl
  have key_17 : ∀ (yg_this_now yf_this_now_kinds yf_this_now_thicks : Nat → Int32) (n : Nat) (x1 x2 x3 : Int32) (yg_this_trial yf_this_trial_kinds yf_this_trial_thicks : Nat → Int32) (ql : (Int32 × (Nat → Int32) × (Nat → Int32) × (Nat → Int32) × (Nat → Int32) × (Nat → Int32) × (Nat → Int32)) ⊕ (Int32 × Int32 × Int32 × (Nat → Int32) × (Nat → Int32) × (Nat → Int32))), f_X2_takeStatements_L17 g_this f_this_letters yg_this_now yf_this_now_kinds yf_this_now_thicks n x1 x2 x3 yg_this_trial yf_this_trial_kinds yf_this_trial_thicks = some ql → ∀ (H : Heap) (locs : List Loc) (ls : Array Slot), va_P D vwCl [(a_this, .inr (2, rf_o2 a_this_now a_this_then a_this_trial a_this_search a_this_letters a_this_numbers a_this_thickest a_this_refusals g_this)), (a_this_now, .inr (0, rf_o0 a_this_now_kinds a_this_now_thicks yg_this_now)), (a_this_now_kinds, .inl (cA, 6, .inl yf_this_now_kinds)), (a_this_now_thicks, .inl (cA, 6, .inl yf_this_now_thicks)), (a_this_trial, .inr (0, rf_o0 a_this_trial_kinds a_this_trial_thicks yg_this_trial)), (a_this_trial_kinds, .inl (cA, 6, .inl yf_this_trial_kinds)), (a_this_trial_thicks, .inl (cA, 6, .inl yf_this_trial_thicks)), (a_this_letters, .inl (cA, 96, .inl f_this_letters))] H → va_D A [(a_this, .inr (2, rf_o2 a_this_now a_this_then a_this_trial a_this_search a_this_letters a_this_numbers a_this_thickest a_this_refusals g_this)), (a_this_now, .inr (0, rf_o0 a_this_now_kinds a_this_now_thicks yg_this_now)), (a_this_now_kinds, .inl (cA, 6, .inl yf_this_now_kinds)), (a_this_now_thicks, .inl (cA, 6, .inl yf_this_now_thicks)), (a_this_trial, .inr (0, rf_o0 a_this_trial_kinds a_this_trial_thicks yg_this_trial)), (a_this_trial_kinds, .inl (cA, 6, .inl yf_this_trial_kinds)), (a_this_trial_thicks, .inl (cA, 6, .inl yf_this_trial_thicks)), (a_this_letters, .inl (cA, 96, .inl f_this_letters))] → va_S A s.heap H locs → lv_has ls 4 [(0, .ref a_this), (1, .int x1), (2, .int x2), (3, .int x3)] → (∀ r : Int32 × (Nat → Int32) × (Nat → Int32) × (Nat → Int32) × (Nat → Int32) × (Nat → Int32) × (Nat → Int32), ql = .inl r → r = q) → (∀ (x : Int32 × Int32 × Int32 × (Nat → Int32) × (Nat → Int32) × (Nat → Int32)), ql = .inr x → ∀ (H : Heap) (locs : List Loc) (ls : Array Slot), va_P D vwCl [(a_this, .inr (2, rf_o2 a_this_now a_this_then a_this_trial a_this_search a_this_letters a_this_numbers a_this_thickest a_this_refusals g_this)), (a_this_now, .inr (0, rf_o0 a_this_now_kinds a_this_now_thicks yg_this_now)), (a_this_now_kinds, .inl (cA, 6, .inl yf_this_now_kinds)), (a_this_now_thicks, .inl (cA, 6, .inl yf_this_now_thicks)), (a_this_trial, .inr (0, rf_o0 a_this_trial_kinds a_this_trial_thicks x.2.2.2.1)), (a_this_trial_kinds, .inl (cA, 6, .inl x.2.2.2.2.1)), (a_this_trial_thicks, .inl (cA, 6, .inl x.2.2.2.2.2)), (a_this_letters, .inl (cA, 96, .inl f_this_letters))] H → va_D A [(a_this, .inr (2, rf_o2 a_this_now a_this_then a_this_trial a_this_search a_this_letters a_this_numbers a_this_thickest a_this_refusals g_this)), (a_this_now, .inr (0, rf_o0 a_this_now_kinds a_this_now_thicks yg_this_now)), (a_this_now_kinds, .inl (cA, 6, .inl yf_this_now_kinds)), (a_this_now_thicks, .inl (cA, 6, .inl yf_this_now_thicks)), (a_this_trial, .inr (0, rf_o0 a_this_trial_kinds a_this_trial_thicks x.2.2.2.1)), (a_this_trial_kinds, .inl (cA, 6, .inl x.2.2.2.2.1)), (a_this_trial_thicks, .inl (cA, 6, .inl x.2.2.2.2.2)), (a_this_letters, .inl (cA, 96, .inl f_this_letters))] → va_S A s.heap H locs → lv_has ls 4 [(0, .ref a_this), (1, .int x.1), (2, .int x.2.1), (3, .int x.2.2.1)] → W p l e (headSpec wsX2_takeStatements ({ frames := 6, cells := 0, slots := 0, locals := 133 } : Room)).room s m ([.ref a_this] : List Value).toArray below meth c H locs 0 0 (MQ below (va_Qi (fun (r : Int32) (_ : Unit) => r = q.1) (fun _ t => rf_Post D A [(a_this, .inr (2, rf_o2 a_this_now a_this_then a_this_trial a_this_search a_this_letters a_this_numbers a_this_thickest a_this_refusals g_this)), (a_this_now, .inr (0, rf_o0 a_this_now_kinds a_this_now_thicks q.2.1)), (a_this_now_kinds, .inl (cA, 6, .inl q.2.2.1)), (a_this_now_thicks, .inl (cA, 6, .inl q.2.2.2.1)), (a_this_trial, .inr (0, rf_o0 a_this_trial_kinds a_this_trial_thicks q.2.2.2.2.1)), (a_this_trial_kinds, .inl (cA, 6, .inl q.2.2.2.2.2.1)), (a_this_trial_thicks, .inl (cA, 6, .inl q.2.2.2.2.2.2)), (a_this_letters, .inl (cA, 96, .inl f_this_letters))] t) A) ([.ref a_this] : List Value).toArray s 0 0 A) (F0 m 65 ls [])) → W p l e (headSpec wsX2_takeStatements ({ frames := 6, cells := 0, slots := 0, locals := 133 } : Room)).room s m ([.ref a_this] : List Value).toArray below meth c H locs 0 0 (MQ below (va_Qi (fun (r : Int32) (_ : Unit) => r = q.1) (fun _ t => rf_Post D A [(a_this, .inr (2, rf_o2 a_this_now a_this_then a_this_trial a_this_search a_this_letters a_this_numbers a_this_thickest a_this_refusals g_this)), (a_this_now, .inr (0, rf_o0 a_this_now_kinds a_this_now_thicks q.2.1)), (a_this_now_kinds, .inl (cA, 6, .inl q.2.2.1)), (a_this_now_thicks, .inl (cA, 6, .inl q.2.2.2.1)), (a_this_trial, .inr (0, rf_o0 a_this_trial_kinds a_this_trial_thicks q.2.2.2.2.1)), (a_this_trial_kinds, .inl (cA, 6, .inl q.2.2.2.2.2.1)), (a_this_trial_thicks, .inl (cA, 6, .inl q.2.2.2.2.2.2)), (a_this_letters, .inl (cA, 96, .inl f_this_letters))] t) A) ([.ref a_this] : List Value).toArray s 0 0 A) (F0 m 17 ls []) := by
    intro yg_this_now yf_this_now_kinds yf_this_now_thicks n
    induction n with
    | zero =>
      intro x1 x2 x3 yg_this_trial yf_this_trial_kinds yf_this_trial_thicks ql hf H locs ls hP hD hS hl hret kx
      exact absurd (show (none : Option ((Int32 × (Nat → Int32) × (Nat → Int32) × (Nat → Int32) × (Nat → Int32) × (Nat → Int32) × (Nat → Int32)) ⊕ (Int32 × Int32 × Int32 × (Nat → Int32) × (Nat → Int32) × (Nat → Int32)))) = some ql from hf) (fun h9 => by cases h9)
    | succ n ih =>
      intro x1 x2 x3 yg_this_trial yf_this_trial_kinds yf_this_trial_thicks ql hf H locs ls hP hD hS hl hret kx
      rw [f_X2_takeStatements_L17] at hf
      refine lv_iload_n hx hb dX2_takeStatements_17 rfl (lv_at hl 3 rfl) ?_
      refine lv_bipush (v := 96) hx hb dX2_takeStatements_18 (by decide) ?_
      refine lv_icmp_ge (tgt := 65) hx hb dX2_takeStatements_20 (by decide) (fun c1 => ?_) (fun c1 => ?_)
      · have hf := rf_ifp hf c1
        exact kx _ (Option.some.inj hf).symm _ _ _ hP hD hS (lv_sub hl [0, 1, 2, 3] rfl)
      · have hf := rf_ifn hf c1
        refine lv_iload_n hx hb dX2_takeStatements_23 rfl (lv_at hl 2 rfl) ?_
        refine lv_aload_n hx hb dX2_takeStatements_24 rfl (lv_at hl 0 rfl) ?_
        refine va_get (D := D) (ci := 2) (v := .int (g_this 0)) (C := RX2) (T := TX2) (N := 12) hx hb hts jX2_takeStatements_X2 hown hK hP 0 rfl rfl 8 (by decide) (hts _ kX2_takeStatements_0) (fun _ h9 => h9) rfl dX2_takeStatements_25 ?_
        refine lv_icmp_ge (tgt := 65) hx hb dX2_takeStatements_28 (by decide) (fun c2 => ?_) (fun c2 => ?_)
        · have hf := rf_ifp hf c2
          exact kx _ (Option.some.inj hf).symm _ _ _ hP hD hS (lv_sub hl [0, 1, 2, 3] rfl)
        · have hf := rf_ifn hf c2
          refine lv_aload_n hx hb dX2_takeStatements_31 rfl (lv_at hl 0 rfl) ?_
          refine lv_iload_n hx hb dX2_takeStatements_32 rfl (lv_at hl 2 rfl) ?_
          obtain ⟨q3, hq3, hf⟩ := rf_bindq hf
          refine rf_Vi (As := [.int x2]) (rest := []) (wr := [(a_this_now, .inr (0, rf_o0 a_this_now_kinds a_this_now_thicks yg_this_now)), (a_this_now_kinds, .inl (cA, 6, .inl yf_this_now_kinds)), (a_this_now_thicks, .inl (cA, 6, .inl yf_this_now_thicks))]) (wn := [(a_this, .inr (2, rf_o2 a_this_now a_this_then a_this_trial a_this_search a_this_letters a_this_numbers a_this_thickest a_this_refusals g_this)), (a_this_now, .inr (0, rf_o0 a_this_now_kinds a_this_now_thicks yg_this_now)), (a_this_now_kinds, .inl (cA, 6, .inl yf_this_now_kinds)), (a_this_now_thicks, .inl (cA, 6, .inl yf_this_now_thicks)), (a_this_trial, .inr (0, rf_o0 a_this_trial_kinds a_this_trial_thicks q3.2.1)), (a_this_trial_kinds, .inl (cA, 6, .inl q3.2.2.1)), (a_this_trial_thicks, .inl (cA, 6, .inl q3.2.2.2)), (a_this_letters, .inl (cA, 96, .inl f_this_letters))]) ⟨hx, hb, hml, hown, hts⟩ hK hP hD hS hA hE (c_X2_takeStatement l D cA ad a_this a_this_now a_this_then a_this_trial a_this_search a_this_letters a_this_numbers a_this_thickest a_this_refusals a_this_trial_kinds a_this_trial_thicks H.size g_this yg_this_trial yf_this_trial_kinds yf_this_trial_thicks f_this_letters x2 q3 hq3) (cwV 1 hts gX2_takeStatements_X2_takeStatement rfl rfl rfl hv_X2_takeStatement ⟨Nat.le_of_ble_eq_true rfl, Nat.le_of_ble_eq_true rfl⟩) [0, 4, 5, 6, 7] [1, 2, 3] [3, 0, 1, 2, 4, 5, 6, 7] rfl rfl rfl rfl (by decide) rfl rfl 2 0 rfl rfl rfl rfl rfl hl.1 (Nat.le_of_ble_eq_true rfl) dX2_takeStatements_33 ⟨Nat.zero_le _, Nat.zero_le _⟩ (fun H locs hP hD hS => ?_)
          refine lv_if_ne (tgt := 45) hx hb dX2_takeStatements_36 (by decide) (fun c4 => ?_) (fun c4 => ?_)
          · have hf := rf_ifn hf c4
            obtain ⟨v5, ev5⟩ : ∃ y : Int32, y = x1 + 1 := ⟨_, rfl⟩
            have hf := rf_bindv hf ev5
            refine lv_iinc (v := v5) (lv' := [(1, .int v5), (0, .ref a_this), (2, .int x2), (3, .int x3)]) hx hb dX2_takeStatements_45 hl (k := 1) rfl (by rw [ev5]; rfl) (by decide) rfl (fun ls hl => ?_)
            clear ev5
            refine lv_iload_n hx hb dX2_takeStatements_48 rfl (lv_at hl 2 rfl) ?_
            refine lv_aload_n hx hb dX2_takeStatements_49 rfl (lv_at hl 1 rfl) ?_
            refine lv_iload_n hx hb dX2_takeStatements_50 rfl (lv_at hl 2 rfl) ?_
            obtain ⟨q6, hq6, hf⟩ := rf_bindq hf
            refine rf_Vi (As := [.int x2]) (rest := [.int x2]) (wr := [(a_this_now, .inr (0, rf_o0 a_this_now_kinds a_this_now_thicks yg_this_now)), (a_this_now_kinds, .inl (cA, 6, .inl yf_this_now_kinds)), (a_this_now_thicks, .inl (cA, 6, .inl yf_this_now_thicks)), (a_this_trial, .inr (0, rf_o0 a_this_trial_kinds a_this_trial_thicks q3.2.1)), (a_this_trial_kinds, .inl (cA, 6, .inl q3.2.2.1)), (a_this_trial_thicks, .inl (cA, 6, .inl q3.2.2.2))]) (wn := [(a_this, .inr (2, rf_o2 a_this_now a_this_then a_this_trial a_this_search a_this_letters a_this_numbers a_this_thickest a_this_refusals g_this)), (a_this_now, .inr (0, rf_o0 a_this_now_kinds a_this_now_thicks yg_this_now)), (a_this_now_kinds, .inl (cA, 6, .inl yf_this_now_kinds)), (a_this_now_thicks, .inl (cA, 6, .inl yf_this_now_thicks)), (a_this_trial, .inr (0, rf_o0 a_this_trial_kinds a_this_trial_thicks q3.2.1)), (a_this_trial_kinds, .inl (cA, 6, .inl q3.2.2.1)), (a_this_trial_thicks, .inl (cA, 6, .inl q3.2.2.2)), (a_this_letters, .inl (cA, 96, .inl f_this_letters))]) ⟨hx, hb, hml, hown, hts⟩ hK hP hD hS hA hE (c_X2_letterAt l D cA ad a_this a_this_now a_this_then a_this_trial a_this_search a_this_letters a_this_numbers a_this_thickest a_this_refusals H.size g_this f_this_letters x2 q6 hq6) (cwV 1 hts gX2_takeStatements_X2_letterAt rfl rfl rfl hv_X2_letterAt ⟨Nat.le_of_ble_eq_true rfl, Nat.le_of_ble_eq_true rfl⟩) [0, 7] [1, 2, 3, 4, 5, 6] [6, 0, 1, 2, 3, 4, 5, 7] rfl rfl rfl rfl (by decide) rfl rfl 2 0 rfl rfl rfl rfl rfl hl.1 (Nat.le_of_ble_eq_true rfl) dX2_takeStatements_51 ⟨Nat.zero_le _, Nat.zero_le _⟩ (fun H locs hP hD hS => ?_)
            obtain ⟨q7, hq7, hf⟩ := rf_bindq hf
            refine rf_Si (As := [.int q6]) (rest := [.int x2]) (wr := [(a_this, .inr (2, rf_o2 a_this_now a_this_then a_this_trial a_this_search a_this_letters a_this_numbers a_this_thickest a_this_refusals g_this)), (a_this_now, .inr (0, rf_o0 a_this_now_kinds a_this_now_thicks yg_this_now)), (a_this_now_kinds, .inl (cA, 6, .inl yf_this_now_kinds)), (a_this_now_thicks, .inl (cA, 6, .inl yf_this_now_thicks)), (a_this_trial, .inr (0, rf_o0 a_this_trial_kinds a_this_trial_thicks q3.2.1)), (a_this_trial_kinds, .inl (cA, 6, .inl q3.2.2.1)), (a_this_trial_thicks, .inl (cA, 6, .inl q3.2.2.2)), (a_this_letters, .inl (cA, 96, .inl f_this_letters))]) (wn := [(a_this, .inr (2, rf_o2 a_this_now a_this_then a_this_trial a_this_search a_this_letters a_this_numbers a_this_thickest a_this_refusals g_this)), (a_this_now, .inr (0, rf_o0 a_this_now_kinds a_this_now_thicks yg_this_now)), (a_this_now_kinds, .inl (cA, 6, .inl yf_this_now_kinds)), (a_this_now_thicks, .inl (cA, 6, .inl yf_this_now_thicks)), (a_this_trial, .inr (0, rf_o0 a_this_trial_kinds a_this_trial_thicks q3.2.1)), (a_this_trial_kinds, .inl (cA, 6, .inl q3.2.2.1)), (a_this_trial_thicks, .inl (cA, 6, .inl q3.2.2.2)), (a_this_letters, .inl (cA, 96, .inl f_this_letters))]) ⟨hx, hb, hml, hown, hts⟩ hK hP hD hS hA hE (c_X2_statementLength l D cA ad H.size q6 q7 hq7) (va_cwS 1 hts gX2_takeStatements_X2_statementLength rfl rfl rfl hs_X2_statementLength ⟨Nat.le_of_ble_eq_true rfl, Nat.le_of_ble_eq_true rfl⟩) [] [0, 1, 2, 3, 4, 5, 6, 7] [0, 1, 2, 3, 4, 5, 6, 7] rfl rfl rfl rfl (by decide) rfl rfl rfl rfl hl.1 (Nat.le_of_ble_eq_true rfl) dX2_takeStatements_54 ⟨Nat.zero_le _, Nat.zero_le _⟩ (fun H locs hP hD hS => ?_)
            refine lv_iadd hx hb dX2_takeStatements_57 ?_
            refine lv_topi (fun v8 ev8 => ?_)
            have hf := rf_bindv hf ev8
            clear ev8
            refine lv_istore_n (lv' := [(2, .int v8), (1, .int v5), (0, .ref a_this), (3, .int x3)]) hx hb dX2_takeStatements_58 rfl hl (by decide) rfl (fun ls hl => ?_)
            obtain ⟨v9, ev9⟩ : ∃ y : Int32, y = x3 + 1 := ⟨_, rfl⟩
            have hf := rf_bindv hf ev9
            refine lv_iinc (v := v9) (lv' := [(3, .int v9), (2, .int v8), (1, .int v5), (0, .ref a_this)]) hx hb dX2_takeStatements_59 hl (k := 3) rfl (by rw [ev9]; rfl) (by decide) rfl (fun ls hl => ?_)
            clear ev9
            refine lv_goto (tgt := 17) hx hb dX2_takeStatements_62 (by decide) ?_
            exact ih v5 v8 v9 q3.2.1 q3.2.2.1 q3.2.2.2 ql hf _ _ _ hP hD hS (lv_sub hl [3, 2, 1, 0] rfl) hret kx
          · have hf := rf_ifp hf c4
            refine lv_sipush (v := (-2000)) hx hb dX2_takeStatements_39 (by decide) ?_
            refine lv_iload_n hx hb dX2_takeStatements_42 rfl (lv_at hl 2 rfl) ?_
            refine lv_isub hx hb dX2_takeStatements_43 ?_
            obtain rfl := hret _ (Option.some.inj hf).symm
            exact W.iret (v := ((-2000) - x2)) hx hb hr (fun t ht hW => ⟨⟨((-2000) - x2), (), rfl, rfl, rf_mk ht hP hD⟩, hS.F ht⟩) hS.2.2 dX2_takeStatements_44
  rw [f_X2_takeStatements] at hf
  refine lv_aload_n hx hb dX2_takeStatements_0 rfl (lv_at hl 0 rfl) ?_
  refine va_get (D := D) (ci := 2) (v := .ref a_this_trial) (C := RX2) (T := TX2) (N := 12) hx hb hts jX2_takeStatements_X2 hown hK hP 0 rfl rfl 2 (by decide) (hts _ kX2_takeStatements_1) (fun _ h9 => h9) rfl dX2_takeStatements_1 ?_
  refine lv_aload_n hx hb dX2_takeStatements_4 rfl (lv_at hl 0 rfl) ?_
  refine va_get (D := D) (ci := 2) (v := .ref a_this_now) (C := RX2) (T := TX2) (N := 12) hx hb hts jX2_takeStatements_X2 hown hK hP 0 rfl rfl 0 (by decide) (hts _ kX2_takeStatements_2) (fun _ h9 => h9) rfl dX2_takeStatements_5 ?_
  obtain ⟨q10, hq10, hf⟩ := rf_bindq hf
  refine rf_Vv (As := [.ref a_this_now]) (rest := []) (wr := [(a_this, .inr (2, rf_o2 a_this_now a_this_then a_this_trial a_this_search a_this_letters a_this_numbers a_this_thickest a_this_refusals g_this)), (a_this_letters, .inl (cA, 96, .inl f_this_letters))]) (wn := [(a_this, .inr (2, rf_o2 a_this_now a_this_then a_this_trial a_this_search a_this_letters a_this_numbers a_this_thickest a_this_refusals g_this)), (a_this_now, .inr (0, rf_o0 a_this_now_kinds a_this_now_thicks g_this_now)), (a_this_now_kinds, .inl (cA, 6, .inl f_this_now_kinds)), (a_this_now_thicks, .inl (cA, 6, .inl f_this_now_thicks)), (a_this_trial, .inr (0, rf_o0 a_this_trial_kinds a_this_trial_thicks q10.1)), (a_this_trial_kinds, .inl (cA, 6, .inl q10.2.1)), (a_this_trial_thicks, .inl (cA, 6, .inl q10.2.2)), (a_this_letters, .inl (cA, 96, .inl f_this_letters))]) ⟨hx, hb, hml, hown, hts⟩ hK hP hD hS hA hE (c_X0_copyFrom l D cA ad a_this_trial a_this_trial_kinds a_this_trial_thicks a_this_now a_this_now_kinds a_this_now_thicks s.heap.size g_this_trial f_this_trial_kinds f_this_trial_thicks g_this_now f_this_now_kinds f_this_now_thicks q10 hq10) (cwV 1 hts gX2_takeStatements_X0_copyFrom rfl rfl rfl hv_X0_copyFrom ⟨Nat.le_of_ble_eq_true rfl, Nat.le_of_ble_eq_true rfl⟩) [4, 5, 6, 1, 2, 3] [0, 7] [0, 5, 6, 7, 2, 3, 4, 1] rfl rfl rfl rfl (by decide) rfl rfl 0 4 rfl rfl rfl rfl rfl hl.1 (Nat.le_of_ble_eq_true rfl) dX2_takeStatements_8 ⟨Nat.zero_le _, Nat.zero_le _⟩ (fun H locs hP hD hS => ?_)
  refine lv_iconst (v := 0) hx hb dX2_takeStatements_11 (by decide) ?_
  refine lv_istore_n (lv' := [(1, .int 0), (0, .ref a_this)]) hx hb dX2_takeStatements_12 rfl hl (by decide) rfl (fun ls hl => ?_)
  refine lv_iconst (v := 0) hx hb dX2_takeStatements_13 (by decide) ?_
  refine lv_istore_n (lv' := [(2, .int 0), (1, .int 0), (0, .ref a_this)]) hx hb dX2_takeStatements_14 rfl hl (by decide) rfl (fun ls hl => ?_)
  refine lv_iconst (v := 0) hx hb dX2_takeStatements_15 (by decide) ?_
  refine lv_istore_n (lv' := [(3, .int 0), (2, .int 0), (1, .int 0), (0, .ref a_this)]) hx hb dX2_takeStatements_16 rfl hl (by decide) rfl (fun ls hl => ?_)
  obtain ⟨q11, hq11, hf⟩ := rf_bindq hf
  refine key_17 g_this_now f_this_now_kinds f_this_now_thicks rf_fu 0 0 0 q10.1 q10.2.1 q10.2.2 q11 hq11 _ _ _ hP hD hS (lv_sub hl [3, 2, 1, 0] rfl) (fun r h9 => ?_) (fun x12 h9 H locs ls hP hD hS hl => ?_)
  · subst h9
    exact Option.some.inj hf
  · subst h9
    have hf := rf_sumr hf
    refine lv_aload_n hx hb dX2_takeStatements_65 rfl (lv_at hl 0 rfl) ?_
    refine va_get (D := D) (ci := 2) (v := .ref a_this_now) (C := RX2) (T := TX2) (N := 12) hx hb hts jX2_takeStatements_X2 hown hK hP 0 rfl rfl 0 (by decide) (hts _ kX2_takeStatements_2) (fun _ h9 => h9) rfl dX2_takeStatements_66 ?_
    refine lv_aload_n hx hb dX2_takeStatements_69 rfl (lv_at hl 0 rfl) ?_
    refine va_get (D := D) (ci := 2) (v := .ref a_this_trial) (C := RX2) (T := TX2) (N := 12) hx hb hts jX2_takeStatements_X2 hown hK hP 0 rfl rfl 2 (by decide) (hts _ kX2_takeStatements_1) (fun _ h9 => h9) rfl dX2_takeStatements_70 ?_
    obtain ⟨q13, hq13, hf⟩ := rf_bindq hf
    refine rf_Vv (As := [.ref a_this_trial]) (rest := []) (wr := [(a_this, .inr (2, rf_o2 a_this_now a_this_then a_this_trial a_this_search a_this_letters a_this_numbers a_this_thickest a_this_refusals g_this)), (a_this_letters, .inl (cA, 96, .inl f_this_letters))]) (wn := [(a_this, .inr (2, rf_o2 a_this_now a_this_then a_this_trial a_this_search a_this_letters a_this_numbers a_this_thickest a_this_refusals g_this)), (a_this_now, .inr (0, rf_o0 a_this_now_kinds a_this_now_thicks q13.1)), (a_this_now_kinds, .inl (cA, 6, .inl q13.2.1)), (a_this_now_thicks, .inl (cA, 6, .inl q13.2.2)), (a_this_trial, .inr (0, rf_o0 a_this_trial_kinds a_this_trial_thicks x12.2.2.2.1)), (a_this_trial_kinds, .inl (cA, 6, .inl x12.2.2.2.2.1)), (a_this_trial_thicks, .inl (cA, 6, .inl x12.2.2.2.2.2)), (a_this_letters, .inl (cA, 96, .inl f_this_letters))]) ⟨hx, hb, hml, hown, hts⟩ hK hP hD hS hA hE (c_X0_copyFrom l D cA ad a_this_now a_this_now_kinds a_this_now_thicks a_this_trial a_this_trial_kinds a_this_trial_thicks H.size g_this_now f_this_now_kinds f_this_now_thicks x12.2.2.2.1 x12.2.2.2.2.1 x12.2.2.2.2.2 q13 hq13) (cwV 1 hts gX2_takeStatements_X0_copyFrom rfl rfl rfl hv_X0_copyFrom ⟨Nat.le_of_ble_eq_true rfl, Nat.le_of_ble_eq_true rfl⟩) [1, 2, 3, 4, 5, 6] [0, 7] [0, 2, 3, 4, 5, 6, 7, 1] rfl rfl rfl rfl (by decide) rfl rfl 0 1 rfl rfl rfl rfl rfl hl.1 (Nat.le_of_ble_eq_true rfl) dX2_takeStatements_73 ⟨Nat.zero_le _, Nat.zero_le _⟩ (fun H locs hP hD hS => ?_)
    refine lv_iload_n hx hb dX2_takeStatements_76 rfl (lv_at hl 1 rfl) ?_
    obtain rfl := Option.some.inj hf
    exact W.iret (v := x12.1) hx hb hr (fun t ht hW => ⟨⟨x12.1, (), rfl, rfl, rf_mk ht hP hD⟩, hS.F ht⟩) hS.2.2 dX2_takeStatements_77
theorem kX2_hand_0 : (.fieldLink RX2 42 "RingAndFinger" "letterCount" "I" : Cond) ∈ wsX2_hand := by decide +kernel
theorem jX2_hand_X2 : ∀ w ∈ u_ws RX2 TX2 12, w ∈ wsX2_hand := by decide +kernel
set_option maxHeartbeats 8000000 in
set_option maxRecDepth 100000 in
theorem c_X2_hand (l : Launch) (D : va_G) (cA : ClassId) (ad : Nat → Nat) (a_this a_this_now a_this_then a_this_trial a_this_search a_this_letters a_this_numbers a_this_thickest a_this_refusals a_this_now_kinds a_this_now_thicks a_this_trial_kinds a_this_trial_thicks : Nat) (sz : Nat) (g_this g_this_now f_this_now_kinds f_this_now_thicks g_this_trial f_this_trial_kinds f_this_trial_thicks f_this_letters : Nat → Int32) (q : Int32 × (Nat → Int32) × (Nat → Int32) × (Nat → Int32) × (Nat → Int32) × (Nat → Int32) × (Nat → Int32) × (Nat → Int32)) (hf : f_X2_hand g_this g_this_now f_this_now_kinds f_this_now_thicks g_this_trial f_this_trial_kinds f_this_trial_thicks f_this_letters = some q) : Met l yX2_hand wsX2_hand ({ frames := 7, cells := 0, slots := 0, locals := 156 } : Room) (va_Pc [.ref a_this] (rf_Pre D cA ad [(a_this, .inr (2, rf_o2 a_this_now a_this_then a_this_trial a_this_search a_this_letters a_this_numbers a_this_thickest a_this_refusals g_this)), (a_this_now, .inr (0, rf_o0 a_this_now_kinds a_this_now_thicks g_this_now)), (a_this_now_kinds, .inl (cA, 6, .inl f_this_now_kinds)), (a_this_now_thicks, .inl (cA, 6, .inl f_this_now_thicks)), (a_this_trial, .inr (0, rf_o0 a_this_trial_kinds a_this_trial_thicks g_this_trial)), (a_this_trial_kinds, .inl (cA, 6, .inl f_this_trial_kinds)), (a_this_trial_thicks, .inl (cA, 6, .inl f_this_trial_thicks)), (a_this_letters, .inl (cA, 96, .inl f_this_letters))] sz)) (va_Qi (fun (r : Int32) (_ : Unit) => r = q.1) (fun _ t => rf_Post D (va_A [(a_this, .inr (2, rf_o2 a_this_now a_this_then a_this_trial a_this_search a_this_letters a_this_numbers a_this_thickest a_this_refusals g_this)), (a_this_now, .inr (0, rf_o0 a_this_now_kinds a_this_now_thicks g_this_now)), (a_this_now_kinds, .inl (cA, 6, .inl f_this_now_kinds)), (a_this_now_thicks, .inl (cA, 6, .inl f_this_now_thicks)), (a_this_trial, .inr (0, rf_o0 a_this_trial_kinds a_this_trial_thicks g_this_trial)), (a_this_trial_kinds, .inl (cA, 6, .inl f_this_trial_kinds)), (a_this_trial_thicks, .inl (cA, 6, .inl f_this_trial_thicks)), (a_this_letters, .inl (cA, 96, .inl f_this_letters))] sz) [(a_this, .inr (2, rf_o2 a_this_now a_this_then a_this_trial a_this_search a_this_letters a_this_numbers a_this_thickest a_this_refusals q.2.1)), (a_this_now, .inr (0, rf_o0 a_this_now_kinds a_this_now_thicks q.2.2.1)), (a_this_now_kinds, .inl (cA, 6, .inl q.2.2.2.1)), (a_this_now_thicks, .inl (cA, 6, .inl q.2.2.2.2.1)), (a_this_trial, .inr (0, rf_o0 a_this_trial_kinds a_this_trial_thicks q.2.2.2.2.2.1)), (a_this_trial_kinds, .inl (cA, 6, .inl q.2.2.2.2.2.2.1)), (a_this_trial_thicks, .inl (cA, 6, .inl q.2.2.2.2.2.2.2)), (a_this_letters, .inl (cA, 96, .inl f_this_letters))] t) (va_A [(a_this, .inr (2, rf_o2 a_this_now a_this_then a_this_trial a_this_search a_this_letters a_this_numbers a_this_thickest a_this_refusals g_this)), (a_this_now, .inr (0, rf_o0 a_this_now_kinds a_this_now_thicks g_this_now)), (a_this_now_kinds, .inl (cA, 6, .inl f_this_now_kinds)), (a_this_now_thicks, .inl (cA, 6, .inl f_this_now_thicks)), (a_this_trial, .inr (0, rf_o0 a_this_trial_kinds a_this_trial_thicks g_this_trial)), (a_this_trial_kinds, .inl (cA, 6, .inl f_this_trial_kinds)), (a_this_trial_thicks, .inl (cA, 6, .inl f_this_trial_thicks)), (a_this_letters, .inl (cA, 96, .inl f_this_letters))] sz)) 0 0 (va_A [(a_this, .inr (2, rf_o2 a_this_now a_this_then a_this_trial a_this_search a_this_letters a_this_numbers a_this_thickest a_this_refusals g_this)), (a_this_now, .inr (0, rf_o0 a_this_now_kinds a_this_now_thicks g_this_now)), (a_this_now_kinds, .inl (cA, 6, .inl f_this_now_kinds)), (a_this_now_thicks, .inl (cA, 6, .inl f_this_now_thicks)), (a_this_trial, .inr (0, rf_o0 a_this_trial_kinds a_this_trial_thicks g_this_trial)), (a_this_trial_kinds, .inl (cA, 6, .inl f_this_trial_kinds)), (a_this_trial_thicks, .inl (cA, 6, .inl f_this_trial_thicks)), (a_this_letters, .inl (cA, 96, .inl f_this_letters))] sz) := by
  refine Met.ofW (cc := cX2_hand) (maxL := 3) (ret := (some .int)) (by decide) rfl ?_
  intro p e s m args below meth c s₁ B hml hv
  obtain ⟨rfl, hsz, hP, hK, hD0, hE⟩ := hv
  have hx := B.exec
  have hb := B.bytes
  have hr := B.returns
  have hts := atoms_spec (ws := wsX2_hand) B.pre
  have hown : s.vm.findClass RX2 = some m.cls := findClass_of_methodNamed B.named
  have hlocks := B.notSynchronized
  subst hsz
  have hD := hD0.self (sz := s.heap.size)
  generalize hAe : va_A [(a_this, .inr (2, rf_o2 a_this_now a_this_then a_this_trial a_this_search a_this_letters a_this_numbers a_this_thickest a_this_refusals g_this)), (a_this_now, .inr (0, rf_o0 a_this_now_kinds a_this_now_thicks g_this_now)), (a_this_now_kinds, .inl (cA, 6, .inl f_this_now_kinds)), (a_this_now_thicks, .inl (cA, 6, .inl f_this_now_thicks)), (a_this_trial, .inr (0, rf_o0 a_this_trial_kinds a_this_trial_thicks g_this_trial)), (a_this_trial_kinds, .inl (cA, 6, .inl f_this_trial_kinds)), (a_this_trial_thicks, .inl (cA, 6, .inl f_this_trial_thicks)), (a_this_letters, .inl (cA, 96, .inl f_this_letters))] s.heap.size = A at hD hE ⊢
  have hA : ∀ q : Nat, s.heap.size ≤ q → A q := fun q h => by rw [← hAe]; exact Or.inr h
  have hS : va_S A s.heap s.heap [] := va_S.rf
  have hP : va_P D vwCl [(a_this, .inr (2, rf_o2 a_this_now a_this_then a_this_trial a_this_search a_this_letters a_this_numbers a_this_thickest a_this_refusals g_this)), (a_this_now, .inr (0, rf_o0 a_this_now_kinds a_this_now_thicks g_this_now)), (a_this_now_kinds, .inl (cA, 6, .inl f_this_now_kinds)), (a_this_now_thicks, .inl (cA, 6, .inl f_this_now_thicks)), (a_this_trial, .inr (0, rf_o0 a_this_trial_kinds a_this_trial_thicks g_this_trial)), (a_this_trial_kinds, .inl (cA, 6, .inl f_this_trial_kinds)), (a_this_trial_thicks, .inl (cA, 6, .inl f_this_trial_thicks)), (a_this_letters, .inl (cA, 96, .inl f_this_letters))] s.heap := hP
  have hl := lv_entry ([.ref a_this]) (n := 3) (Nat.le_of_ble_eq_true rfl)
  rw [lg_entry_eq]
  generalize (lg_sl ([.ref a_this]) ++ List.replicate (3 - (lg_sl ([.ref a_this])).length) Slot.unset).toArray = ls at hl ⊢
  have hl : lv_has ls 3 [(0, .ref a_this)] := hl
  rw [f_X2_hand] at hf
  refine lv_aload_n hx hb dX2_hand_0 rfl (lv_at hl 0 rfl) ?_
  obtain ⟨q1, hq1, hf⟩ := rf_bindq hf
  refine rf_Vi (As := []) (rest := []) (wr := [(a_this_now, .inr (0, rf_o0 a_this_now_kinds a_this_now_thicks g_this_now)), (a_this_now_kinds, .inl (cA, 6, .inl f_this_now_kinds)), (a_this_now_thicks, .inl (cA, 6, .inl f_this_now_thicks)), (a_this_trial, .inr (0, rf_o0 a_this_trial_kinds a_this_trial_thicks g_this_trial)), (a_this_trial_kinds, .inl (cA, 6, .inl f_this_trial_kinds)), (a_this_trial_thicks, .inl (cA, 6, .inl f_this_trial_thicks))]) (wn := [(a_this, .inr (2, rf_o2 a_this_now a_this_then a_this_trial a_this_search a_this_letters a_this_numbers a_this_thickest a_this_refusals g_this)), (a_this_now, .inr (0, rf_o0 a_this_now_kinds a_this_now_thicks g_this_now)), (a_this_now_kinds, .inl (cA, 6, .inl f_this_now_kinds)), (a_this_now_thicks, .inl (cA, 6, .inl f_this_now_thicks)), (a_this_trial, .inr (0, rf_o0 a_this_trial_kinds a_this_trial_thicks g_this_trial)), (a_this_trial_kinds, .inl (cA, 6, .inl f_this_trial_kinds)), (a_this_trial_thicks, .inl (cA, 6, .inl f_this_trial_thicks)), (a_this_letters, .inl (cA, 96, .inl f_this_letters))]) ⟨hx, hb, hml, hown, hts⟩ hK hP hD hS hA hE (c_X2_formFault l D cA ad a_this a_this_now a_this_then a_this_trial a_this_search a_this_letters a_this_numbers a_this_thickest a_this_refusals s.heap.size g_this f_this_letters q1 hq1) (cwV 0 hts gX2_hand_X2_formFault rfl rfl rfl hv_X2_formFault ⟨Nat.le_of_ble_eq_true rfl, Nat.le_of_ble_eq_true rfl⟩) [0, 7] [1, 2, 3, 4, 5, 6] [6, 0, 1, 2, 3, 4, 5, 7] rfl rfl rfl rfl (by decide) rfl rfl 2 0 rfl rfl rfl rfl rfl hl.1 (Nat.le_of_ble_eq_true rfl) dX2_hand_1 ⟨Nat.zero_le _, Nat.zero_le _⟩ (fun H locs hP hD hS => ?_)
  refine lv_istore_n (lv' := [(1, .int q1), (0, .ref a_this)]) hx hb dX2_hand_4 rfl hl (by decide) rfl (fun ls hl => ?_)
  refine lv_iload_n hx hb dX2_hand_5 rfl (lv_at hl 0 rfl) ?_
  refine lv_if_lt (tgt := 17) hx hb dX2_hand_6 (by decide) (fun c2 => ?_) (fun c2 => ?_)
  · have hf := rf_ifp hf c2
    refine lv_aload_n hx hb dX2_hand_17 rfl (lv_at hl 1 rfl) ?_
    obtain ⟨q3, hq3, hf⟩ := rf_bindq hf
    refine rf_Vi (As := []) (rest := []) (wr := []) (wn := [(a_this, .inr (2, rf_o2 a_this_now a_this_then a_this_trial a_this_search a_this_letters a_this_numbers a_this_thickest a_this_refusals g_this)), (a_this_now, .inr (0, rf_o0 a_this_now_kinds a_this_now_thicks q3.2.1)), (a_this_now_kinds, .inl (cA, 6, .inl q3.2.2.1)), (a_this_now_thicks, .inl (cA, 6, .inl q3.2.2.2.1)), (a_this_trial, .inr (0, rf_o0 a_this_trial_kinds a_this_trial_thicks q3.2.2.2.2.1)), (a_this_trial_kinds, .inl (cA, 6, .inl q3.2.2.2.2.2.1)), (a_this_trial_thicks, .inl (cA, 6, .inl q3.2.2.2.2.2.2)), (a_this_letters, .inl (cA, 96, .inl f_this_letters))]) ⟨hx, hb, hml, hown, hts⟩ hK hP hD hS hA hE (c_X2_takeStatements l D cA ad a_this a_this_now a_this_then a_this_trial a_this_search a_this_letters a_this_numbers a_this_thickest a_this_refusals a_this_now_kinds a_this_now_thicks a_this_trial_kinds a_this_trial_thicks H.size g_this g_this_now f_this_now_kinds f_this_now_thicks g_this_trial f_this_trial_kinds f_this_trial_thicks f_this_letters q3 hq3) (cwV 0 hts gX2_hand_X2_takeStatements rfl rfl rfl hv_X2_takeStatements ⟨Nat.le_of_ble_eq_true rfl, Nat.le_of_ble_eq_true rfl⟩) [0, 1, 2, 3, 4, 5, 6, 7] [] [0, 1, 2, 3, 4, 5, 6, 7] rfl rfl rfl rfl (by decide) rfl rfl 2 0 rfl rfl rfl rfl rfl hl.1 (Nat.le_of_ble_eq_true rfl) dX2_hand_18 ⟨Nat.zero_le _, Nat.zero_le _⟩ (fun H locs hP hD hS => ?_)
    refine lv_istore_n (lv' := [(2, .int q3.1), (1, .int q1), (0, .ref a_this)]) hx hb dX2_hand_21 rfl hl (by decide) rfl (fun ls hl => ?_)
    refine lv_aload_n hx hb dX2_hand_22 rfl (lv_at hl 2 rfl) ?_
    refine lv_iconst (v := 0) hx hb dX2_hand_23 (by decide) ?_
    refine va_put (D := D) (ci := 2) (v := .int 0) (ty := .int) (C := RX2) (T := TX2) (N := 12) hx hb hts jX2_hand_X2 tyX2 tyX2_ok nmX2 hown hK hP hD hS 0 rfl rfl 8 (by decide) (hts _ kX2_hand_0) (fun _ h9 => h9) rfl (by decide +kernel) rfl rfl (Nat.le_of_ble_eq_true rfl) dX2_hand_24 (fun H locs hP hD hS => ?_)
    have hP : va_P D vwCl [(a_this, .inr (2, rf_o2 a_this_now a_this_then a_this_trial a_this_search a_this_letters a_this_numbers a_this_thickest a_this_refusals (upd g_this 0 0))), (a_this_now, .inr (0, rf_o0 a_this_now_kinds a_this_now_thicks q3.2.1)), (a_this_now_kinds, .inl (cA, 6, .inl q3.2.2.1)), (a_this_now_thicks, .inl (cA, 6, .inl q3.2.2.2.1)), (a_this_trial, .inr (0, rf_o0 a_this_trial_kinds a_this_trial_thicks q3.2.2.2.2.1)), (a_this_trial_kinds, .inl (cA, 6, .inl q3.2.2.2.2.2.1)), (a_this_trial_thicks, .inl (cA, 6, .inl q3.2.2.2.2.2.2)), (a_this_letters, .inl (cA, 96, .inl f_this_letters))] H := hP
    have hD : va_D A [(a_this, .inr (2, rf_o2 a_this_now a_this_then a_this_trial a_this_search a_this_letters a_this_numbers a_this_thickest a_this_refusals (upd g_this 0 0))), (a_this_now, .inr (0, rf_o0 a_this_now_kinds a_this_now_thicks q3.2.1)), (a_this_now_kinds, .inl (cA, 6, .inl q3.2.2.1)), (a_this_now_thicks, .inl (cA, 6, .inl q3.2.2.2.1)), (a_this_trial, .inr (0, rf_o0 a_this_trial_kinds a_this_trial_thicks q3.2.2.2.2.1)), (a_this_trial_kinds, .inl (cA, 6, .inl q3.2.2.2.2.2.1)), (a_this_trial_thicks, .inl (cA, 6, .inl q3.2.2.2.2.2.2)), (a_this_letters, .inl (cA, 96, .inl f_this_letters))] := hD
    refine lv_iload_n hx hb dX2_hand_27 rfl (lv_at hl 0 rfl) ?_
    obtain rfl := Option.some.inj hf
    exact W.iret (v := q3.1) hx hb hr (fun t ht hW => ⟨⟨q3.1, (), rfl, rfl, rf_mk ht hP hD⟩, hS.F ht⟩) hS.2.2 dX2_hand_28
  · have hf := rf_ifn hf c2
    refine lv_sipush (v := (-1000)) hx hb dX2_hand_9 (by decide) ?_
    refine lv_iload_n hx hb dX2_hand_12 rfl (lv_at hl 0 rfl) ?_
    refine lv_isub hx hb dX2_hand_13 ?_
    refine lv_goto (tgt := 21) hx hb dX2_hand_14 (by decide) ?_
    refine lv_topi (fun v4 ev4 => ?_)
    have hf := rf_bindv hf ev4
    clear ev4
    refine lv_istore_n (lv' := [(2, .int v4), (1, .int q1), (0, .ref a_this)]) hx hb dX2_hand_21 rfl hl (by decide) rfl (fun ls hl => ?_)
    refine lv_aload_n hx hb dX2_hand_22 rfl (lv_at hl 2 rfl) ?_
    refine lv_iconst (v := 0) hx hb dX2_hand_23 (by decide) ?_
    refine va_put (D := D) (ci := 2) (v := .int 0) (ty := .int) (C := RX2) (T := TX2) (N := 12) hx hb hts jX2_hand_X2 tyX2 tyX2_ok nmX2 hown hK hP hD hS 0 rfl rfl 8 (by decide) (hts _ kX2_hand_0) (fun _ h9 => h9) rfl (by decide +kernel) rfl rfl (Nat.le_of_ble_eq_true rfl) dX2_hand_24 (fun H locs hP hD hS => ?_)
    have hP : va_P D vwCl [(a_this, .inr (2, rf_o2 a_this_now a_this_then a_this_trial a_this_search a_this_letters a_this_numbers a_this_thickest a_this_refusals (upd g_this 0 0))), (a_this_now, .inr (0, rf_o0 a_this_now_kinds a_this_now_thicks g_this_now)), (a_this_now_kinds, .inl (cA, 6, .inl f_this_now_kinds)), (a_this_now_thicks, .inl (cA, 6, .inl f_this_now_thicks)), (a_this_trial, .inr (0, rf_o0 a_this_trial_kinds a_this_trial_thicks g_this_trial)), (a_this_trial_kinds, .inl (cA, 6, .inl f_this_trial_kinds)), (a_this_trial_thicks, .inl (cA, 6, .inl f_this_trial_thicks)), (a_this_letters, .inl (cA, 96, .inl f_this_letters))] H := hP
    have hD : va_D A [(a_this, .inr (2, rf_o2 a_this_now a_this_then a_this_trial a_this_search a_this_letters a_this_numbers a_this_thickest a_this_refusals (upd g_this 0 0))), (a_this_now, .inr (0, rf_o0 a_this_now_kinds a_this_now_thicks g_this_now)), (a_this_now_kinds, .inl (cA, 6, .inl f_this_now_kinds)), (a_this_now_thicks, .inl (cA, 6, .inl f_this_now_thicks)), (a_this_trial, .inr (0, rf_o0 a_this_trial_kinds a_this_trial_thicks g_this_trial)), (a_this_trial_kinds, .inl (cA, 6, .inl f_this_trial_kinds)), (a_this_trial_thicks, .inl (cA, 6, .inl f_this_trial_thicks)), (a_this_letters, .inl (cA, 96, .inl f_this_letters))] := hD
    refine lv_iload_n hx hb dX2_hand_27 rfl (lv_at hl 0 rfl) ?_
    obtain rfl := Option.some.inj hf
    exact W.iret (v := v4) hx hb hr (fun t ht hW => ⟨⟨v4, (), rfl, rfl, rf_mk ht hP hD⟩, hS.F ht⟩) hS.2.2 dX2_hand_28
theorem kX2_part_0 : (.fieldLink RX2 10 "RingAndFinger" "now" "LRingAndFinger$Finger;" : Cond) ∈ wsX2_part := by decide +kernel
theorem kX2_part_1 : (.fieldLink RX2 71 "RingAndFinger$Finger" "parts" "I" : Cond) ∈ wsX2_part := by decide +kernel
theorem kX2_part_2 : (.fieldLink RX2 74 "RingAndFinger$Finger" "kinds" "[I" : Cond) ∈ wsX2_part := by decide +kernel
theorem kX2_part_3 : (.fieldLink RX2 81 "RingAndFinger$Finger" "thicks" "[I" : Cond) ∈ wsX2_part := by decide +kernel
theorem jX2_part_X2 : ∀ w ∈ u_ws RX2 TX2 12, w ∈ wsX2_part := by decide +kernel
theorem jX2_part_X0 : ∀ w ∈ u_ws RX0 TX0 12, w ∈ wsX2_part := by decide +kernel
set_option maxHeartbeats 8000000 in
set_option maxRecDepth 100000 in
theorem c_X2_part (l : Launch) (D : va_G) (cA : ClassId) (ad : Nat → Nat) (a_this a_this_now a_this_then a_this_trial a_this_search a_this_letters a_this_numbers a_this_thickest a_this_refusals a_this_now_kinds a_this_now_thicks : Nat) (sz : Nat) (g_this g_this_now f_this_now_kinds f_this_now_thicks f_this_refusals : Nat → Int32) (p1 p2 : Int32) (q : Int32 × (Nat → Int32)) (hf : f_X2_part g_this g_this_now f_this_now_kinds f_this_now_thicks f_this_refusals p1 p2 = some q) : Met l yX2_part wsX2_part ({ frames := 3, cells := 0, slots := 0, locals := 68 } : Room) (va_Pc [.ref a_this, .int p1, .int p2] (rf_Pre D cA ad [(a_this, .inr (2, rf_o2 a_this_now a_this_then a_this_trial a_this_search a_this_letters a_this_numbers a_this_thickest a_this_refusals g_this)), (a_this_now, .inr (0, rf_o0 a_this_now_kinds a_this_now_thicks g_this_now)), (a_this_now_kinds, .inl (cA, 6, .inl f_this_now_kinds)), (a_this_now_thicks, .inl (cA, 6, .inl f_this_now_thicks)), (a_this_refusals, .inl (cA, 7, .inl f_this_refusals))] sz)) (va_Qi (fun (r : Int32) (_ : Unit) => r = q.1) (fun _ t => rf_Post D (va_A [(a_this, .inr (2, rf_o2 a_this_now a_this_then a_this_trial a_this_search a_this_letters a_this_numbers a_this_thickest a_this_refusals g_this)), (a_this_now, .inr (0, rf_o0 a_this_now_kinds a_this_now_thicks g_this_now)), (a_this_now_kinds, .inl (cA, 6, .inl f_this_now_kinds)), (a_this_now_thicks, .inl (cA, 6, .inl f_this_now_thicks)), (a_this_refusals, .inl (cA, 7, .inl f_this_refusals))] sz) [(a_this, .inr (2, rf_o2 a_this_now a_this_then a_this_trial a_this_search a_this_letters a_this_numbers a_this_thickest a_this_refusals g_this)), (a_this_now, .inr (0, rf_o0 a_this_now_kinds a_this_now_thicks g_this_now)), (a_this_now_kinds, .inl (cA, 6, .inl f_this_now_kinds)), (a_this_now_thicks, .inl (cA, 6, .inl f_this_now_thicks)), (a_this_refusals, .inl (cA, 7, .inl q.2))] t) (va_A [(a_this, .inr (2, rf_o2 a_this_now a_this_then a_this_trial a_this_search a_this_letters a_this_numbers a_this_thickest a_this_refusals g_this)), (a_this_now, .inr (0, rf_o0 a_this_now_kinds a_this_now_thicks g_this_now)), (a_this_now_kinds, .inl (cA, 6, .inl f_this_now_kinds)), (a_this_now_thicks, .inl (cA, 6, .inl f_this_now_thicks)), (a_this_refusals, .inl (cA, 7, .inl f_this_refusals))] sz)) 0 0 (va_A [(a_this, .inr (2, rf_o2 a_this_now a_this_then a_this_trial a_this_search a_this_letters a_this_numbers a_this_thickest a_this_refusals g_this)), (a_this_now, .inr (0, rf_o0 a_this_now_kinds a_this_now_thicks g_this_now)), (a_this_now_kinds, .inl (cA, 6, .inl f_this_now_kinds)), (a_this_now_thicks, .inl (cA, 6, .inl f_this_now_thicks)), (a_this_refusals, .inl (cA, 7, .inl f_this_refusals))] sz) := by
  refine Met.ofW (cc := cX2_part) (maxL := 3) (ret := (some .int)) (by decide) rfl ?_
  intro p e s m args below meth c s₁ B hml hv
  obtain ⟨rfl, hsz, hP, hK, hD0, hE⟩ := hv
  have hx := B.exec
  have hb := B.bytes
  have hr := B.returns
  have hts := atoms_spec (ws := wsX2_part) B.pre
  have hown : s.vm.findClass RX2 = some m.cls := findClass_of_methodNamed B.named
  have hlocks := B.notSynchronized
  subst hsz
  have hD := hD0.self (sz := s.heap.size)
  generalize hAe : va_A [(a_this, .inr (2, rf_o2 a_this_now a_this_then a_this_trial a_this_search a_this_letters a_this_numbers a_this_thickest a_this_refusals g_this)), (a_this_now, .inr (0, rf_o0 a_this_now_kinds a_this_now_thicks g_this_now)), (a_this_now_kinds, .inl (cA, 6, .inl f_this_now_kinds)), (a_this_now_thicks, .inl (cA, 6, .inl f_this_now_thicks)), (a_this_refusals, .inl (cA, 7, .inl f_this_refusals))] s.heap.size = A at hD hE ⊢
  have hA : ∀ q : Nat, s.heap.size ≤ q → A q := fun q h => by rw [← hAe]; exact Or.inr h
  have hS : va_S A s.heap s.heap [] := va_S.rf
  have hP : va_P D vwCl [(a_this, .inr (2, rf_o2 a_this_now a_this_then a_this_trial a_this_search a_this_letters a_this_numbers a_this_thickest a_this_refusals g_this)), (a_this_now, .inr (0, rf_o0 a_this_now_kinds a_this_now_thicks g_this_now)), (a_this_now_kinds, .inl (cA, 6, .inl f_this_now_kinds)), (a_this_now_thicks, .inl (cA, 6, .inl f_this_now_thicks)), (a_this_refusals, .inl (cA, 7, .inl f_this_refusals))] s.heap := hP
  have hl := lv_entry ([.ref a_this, .int p1, .int p2]) (n := 3) (Nat.le_of_ble_eq_true rfl)
  rw [lg_entry_eq]
  generalize (lg_sl ([.ref a_this, .int p1, .int p2]) ++ List.replicate (3 - (lg_sl ([.ref a_this, .int p1, .int p2])).length) Slot.unset).toArray = ls at hl ⊢
  have hl : lv_has ls 3 [(0, .ref a_this), (1, .int p1), (2, .int p2)] := hl
  rw [f_X2_part] at hf
  refine lv_iload_n hx hb dX2_part_0 rfl (lv_at hl 1 rfl) ?_
  refine lv_if_lt (tgt := 15) hx hb dX2_part_1 (by decide) (fun c1 => ?_) (fun c1 => ?_)
  · have hf := rf_ifp hf c1
    refine lv_aload_n hx hb dX2_part_15 rfl (lv_at hl 0 rfl) ?_
    refine lv_iconst (v := (-1)) hx hb dX2_part_16 (by decide) ?_
    obtain ⟨q2, hq2, hf⟩ := rf_bindq hf
    refine rf_Vi (As := [.int (-1)]) (rest := []) (wr := [(a_this_now, .inr (0, rf_o0 a_this_now_kinds a_this_now_thicks g_this_now)), (a_this_now_kinds, .inl (cA, 6, .inl f_this_now_kinds)), (a_this_now_thicks, .inl (cA, 6, .inl f_this_now_thicks))]) (wn := [(a_this, .inr (2, rf_o2 a_this_now a_this_then a_this_trial a_this_search a_this_letters a_this_numbers a_this_thickest a_this_refusals g_this)), (a_this_now, .inr (0, rf_o0 a_this_now_kinds a_this_now_thicks g_this_now)), (a_this_now_kinds, .inl (cA, 6, .inl f_this_now_kinds)), (a_this_now_thicks, .inl (cA, 6, .inl f_this_now_thicks)), (a_this_refusals, .inl (cA, 7, .inl q2.2))]) ⟨hx, hb, hml, hown, hts⟩ hK hP hD hS hA hE (c_X2_refuse l D cA ad a_this a_this_now a_this_then a_this_trial a_this_search a_this_letters a_this_numbers a_this_thickest a_this_refusals s.heap.size g_this f_this_refusals (-1) q2 hq2) (cwV 1 hts gX2_part_X2_refuse rfl rfl rfl hv_X2_refuse ⟨Nat.le_of_ble_eq_true rfl, Nat.le_of_ble_eq_true rfl⟩) [0, 4] [1, 2, 3] [3, 0, 1, 2, 4] rfl rfl rfl rfl (by decide) rfl rfl 2 0 rfl rfl rfl rfl rfl hl.1 (Nat.le_of_ble_eq_true rfl) dX2_part_17 ⟨Nat.zero_le _, Nat.zero_le _⟩ (fun H locs hP hD hS => ?_)
    obtain rfl := Option.some.inj hf
    exact W.iret (v := q2.1) hx hb hr (fun t ht hW => ⟨⟨q2.1, (), rfl, rfl, rf_mk ht hP hD⟩, hS.F ht⟩) hS.2.2 dX2_part_20
  · have hf := rf_ifn hf c1
    refine lv_iload_n hx hb dX2_part_4 rfl (lv_at hl 1 rfl) ?_
    refine lv_aload_n hx hb dX2_part_5 rfl (lv_at hl 0 rfl) ?_
    refine va_get (D := D) (ci := 2) (v := .ref a_this_now) (C := RX2) (T := TX2) (N := 12) hx hb hts jX2_part_X2 hown hK hP 0 rfl rfl 0 (by decide) (hts _ kX2_part_0) (fun _ h9 => h9) rfl dX2_part_6 ?_
    refine va_get (D := D) (ci := 0) (v := .int (g_this_now 0)) (C := RX0) (T := TX0) (N := 12) hx hb hts jX2_part_X0 hown hK hP 1 rfl rfl 2 (by decide) (hts _ kX2_part_1) (fun _ h9 => h9) rfl dX2_part_9 ?_
    refine lv_icmp_lt (tgt := 21) hx hb dX2_part_12 (by decide) (fun c3 => ?_) (fun c3 => ?_)
    · have hf := rf_ifp hf c3
      refine lv_iload_n hx hb dX2_part_21 rfl (lv_at hl 2 rfl) ?_
      by_cases c4 : p2 = 0
      · have hf := rf_ifp hf c4
        refine rf_tabC (off := 26) (tgt := 48) hx hb dX2_part_22 c4 (by decide) (by decide) (by decide) (by decide) ?_
        refine lv_aload_n hx hb dX2_part_48 rfl (lv_at hl 0 rfl) ?_
        refine va_get (D := D) (ci := 2) (v := .ref a_this_now) (C := RX2) (T := TX2) (N := 12) hx hb hts jX2_part_X2 hown hK hP 0 rfl rfl 0 (by decide) (hts _ kX2_part_0) (fun _ h9 => h9) rfl dX2_part_49 ?_
        refine va_get (D := D) (ci := 0) (v := .ref a_this_now_kinds) (C := RX0) (T := TX0) (N := 12) hx hb hts jX2_part_X0 hown hK hP 1 rfl rfl 0 (by decide) (hts _ kX2_part_2) (fun _ h9 => h9) rfl dX2_part_52 ?_
        refine lv_iload_n hx hb dX2_part_55 rfl (lv_at hl 1 rfl) ?_
        obtain ⟨q5, hq5, hf⟩ := rf_bindq hf
        refine rf_Si (As := [.ref a_this_now_kinds, .int p1]) (rest := []) (wr := [(a_this, .inr (2, rf_o2 a_this_now a_this_then a_this_trial a_this_search a_this_letters a_this_numbers a_this_thickest a_this_refusals g_this)), (a_this_now, .inr (0, rf_o0 a_this_now_kinds a_this_now_thicks g_this_now)), (a_this_now_thicks, .inl (cA, 6, .inl f_this_now_thicks)), (a_this_refusals, .inl (cA, 7, .inl f_this_refusals))]) (wn := [(a_this, .inr (2, rf_o2 a_this_now a_this_then a_this_trial a_this_search a_this_letters a_this_numbers a_this_thickest a_this_refusals g_this)), (a_this_now, .inr (0, rf_o0 a_this_now_kinds a_this_now_thicks g_this_now)), (a_this_now_kinds, .inl (cA, 6, .inl f_this_now_kinds)), (a_this_now_thicks, .inl (cA, 6, .inl f_this_now_thicks)), (a_this_refusals, .inl (cA, 7, .inl f_this_refusals))]) ⟨hx, hb, hml, hown, hts⟩ hK hP hD hS hA hE (c_X2_at l D cA ad a_this_now_kinds s.heap.size 6 f_this_now_kinds p1 q5 hq5) (va_cwS 2 hts gX2_part_X2_at rfl rfl rfl hs_X2_at ⟨Nat.le_of_ble_eq_true rfl, Nat.le_of_ble_eq_true rfl⟩) [2] [0, 1, 3, 4] [0, 1, 4, 2, 3] rfl rfl rfl rfl (by decide) rfl rfl rfl rfl hl.1 (Nat.le_of_ble_eq_true rfl) dX2_part_56 ⟨Nat.zero_le _, Nat.zero_le _⟩ (fun H locs hP hD hS => ?_)
        obtain rfl := Option.some.inj hf
        exact W.iret (v := q5) hx hb hr (fun t ht hW => ⟨⟨q5, (), rfl, rfl, rf_mk ht hP hD⟩, hS.F ht⟩) hS.2.2 dX2_part_59
      · have hf := rf_ifn hf c4
        by_cases c6 : p2 = 1
        · have hf := rf_ifp hf c6
          refine rf_tabC (off := 38) (tgt := 60) hx hb dX2_part_22 c6 (by decide) (by decide) (by decide) (by decide) ?_
          refine lv_aload_n hx hb dX2_part_60 rfl (lv_at hl 0 rfl) ?_
          refine va_get (D := D) (ci := 2) (v := .ref a_this_now) (C := RX2) (T := TX2) (N := 12) hx hb hts jX2_part_X2 hown hK hP 0 rfl rfl 0 (by decide) (hts _ kX2_part_0) (fun _ h9 => h9) rfl dX2_part_61 ?_
          refine va_get (D := D) (ci := 0) (v := .ref a_this_now_thicks) (C := RX0) (T := TX0) (N := 12) hx hb hts jX2_part_X0 hown hK hP 1 rfl rfl 1 (by decide) (hts _ kX2_part_3) (fun _ h9 => h9) rfl dX2_part_64 ?_
          refine lv_iload_n hx hb dX2_part_67 rfl (lv_at hl 1 rfl) ?_
          obtain ⟨q7, hq7, hf⟩ := rf_bindq hf
          refine rf_Si (As := [.ref a_this_now_thicks, .int p1]) (rest := []) (wr := [(a_this, .inr (2, rf_o2 a_this_now a_this_then a_this_trial a_this_search a_this_letters a_this_numbers a_this_thickest a_this_refusals g_this)), (a_this_now, .inr (0, rf_o0 a_this_now_kinds a_this_now_thicks g_this_now)), (a_this_now_kinds, .inl (cA, 6, .inl f_this_now_kinds)), (a_this_refusals, .inl (cA, 7, .inl f_this_refusals))]) (wn := [(a_this, .inr (2, rf_o2 a_this_now a_this_then a_this_trial a_this_search a_this_letters a_this_numbers a_this_thickest a_this_refusals g_this)), (a_this_now, .inr (0, rf_o0 a_this_now_kinds a_this_now_thicks g_this_now)), (a_this_now_kinds, .inl (cA, 6, .inl f_this_now_kinds)), (a_this_now_thicks, .inl (cA, 6, .inl f_this_now_thicks)), (a_this_refusals, .inl (cA, 7, .inl f_this_refusals))]) ⟨hx, hb, hml, hown, hts⟩ hK hP hD hS hA hE (c_X2_at l D cA ad a_this_now_thicks s.heap.size 6 f_this_now_thicks p1 q7 hq7) (va_cwS 2 hts gX2_part_X2_at rfl rfl rfl hs_X2_at ⟨Nat.le_of_ble_eq_true rfl, Nat.le_of_ble_eq_true rfl⟩) [3] [0, 1, 2, 4] [0, 1, 2, 4, 3] rfl rfl rfl rfl (by decide) rfl rfl rfl rfl hl.1 (Nat.le_of_ble_eq_true rfl) dX2_part_68 ⟨Nat.zero_le _, Nat.zero_le _⟩ (fun H locs hP hD hS => ?_)
          obtain rfl := Option.some.inj hf
          exact W.iret (v := q7) hx hb hr (fun t ht hW => ⟨⟨q7, (), rfl, rfl, rf_mk ht hP hD⟩, hS.F ht⟩) hS.2.2 dX2_part_71
        · have hf := rf_ifn hf c6
          by_cases c8 : p2 = 2
          · have hf := rf_ifp hf c8
            refine rf_tabC (off := 50) (tgt := 72) hx hb dX2_part_22 c8 (by decide) (by decide) (by decide) (by decide) ?_
            refine lv_aload_n hx hb dX2_part_72 rfl (lv_at hl 0 rfl) ?_
            refine va_get (D := D) (ci := 2) (v := .ref a_this_now) (C := RX2) (T := TX2) (N := 12) hx hb hts jX2_part_X2 hown hK hP 0 rfl rfl 0 (by decide) (hts _ kX2_part_0) (fun _ h9 => h9) rfl dX2_part_73 ?_
            refine lv_iload_n hx hb dX2_part_76 rfl (lv_at hl 1 rfl) ?_
            obtain ⟨q9, hq9, hf⟩ := rf_bindq hf
            refine rf_Vi (As := [.int p1]) (rest := []) (wr := [(a_this, .inr (2, rf_o2 a_this_now a_this_then a_this_trial a_this_search a_this_letters a_this_numbers a_this_thickest a_this_refusals g_this)), (a_this_refusals, .inl (cA, 7, .inl f_this_refusals))]) (wn := [(a_this, .inr (2, rf_o2 a_this_now a_this_then a_this_trial a_this_search a_this_letters a_this_numbers a_this_thickest a_this_refusals g_this)), (a_this_now, .inr (0, rf_o0 a_this_now_kinds a_this_now_thicks g_this_now)), (a_this_now_kinds, .inl (cA, 6, .inl f_this_now_kinds)), (a_this_now_thicks, .inl (cA, 6, .inl f_this_now_thicks)), (a_this_refusals, .inl (cA, 7, .inl f_this_refusals))]) ⟨hx, hb, hml, hown, hts⟩ hK hP hD hS hA hE (c_X0_thickNow l D cA ad a_this_now a_this_now_kinds a_this_now_thicks s.heap.size g_this_now f_this_now_kinds f_this_now_thicks p1 q9 hq9) (cwV 1 hts gX2_part_X0_thickNow rfl rfl rfl hv_X0_thickNow ⟨Nat.le_of_ble_eq_true rfl, Nat.le_of_ble_eq_true rfl⟩) [1, 2, 3] [0, 4] [0, 2, 3, 4, 1] rfl rfl rfl rfl (by decide) rfl rfl 0 1 rfl rfl rfl rfl rfl hl.1 (Nat.le_of_ble_eq_true rfl) dX2_part_77 ⟨Nat.zero_le _, Nat.zero_le _⟩ (fun H locs hP hD hS => ?_)
            obtain rfl := Option.some.inj hf
            exact W.iret (v := q9) hx hb hr (fun t ht hW => ⟨⟨q9, (), rfl, rfl, rf_mk ht hP hD⟩, hS.F ht⟩) hS.2.2 dX2_part_80
          · have hf := rf_ifn hf c8
            refine rf_tabD (tgt := 81) (ks := [0, 1, 2]) hx hb dX2_part_22 (by intro z hz; simp only [List.mem_cons, List.not_mem_nil, or_false] at hz; rcases hz with rfl | rfl | rfl <;> assumption) (by decide) (by decide) ?_
            refine lv_aload_n hx hb dX2_part_81 rfl (lv_at hl 0 rfl) ?_
            refine lv_bipush (v := (-2)) hx hb dX2_part_82 (by decide) ?_
            obtain ⟨q10, hq10, hf⟩ := rf_bindq hf
            refine rf_Vi (As := [.int (-2)]) (rest := []) (wr := [(a_this_now, .inr (0, rf_o0 a_this_now_kinds a_this_now_thicks g_this_now)), (a_this_now_kinds, .inl (cA, 6, .inl f_this_now_kinds)), (a_this_now_thicks, .inl (cA, 6, .inl f_this_now_thicks))]) (wn := [(a_this, .inr (2, rf_o2 a_this_now a_this_then a_this_trial a_this_search a_this_letters a_this_numbers a_this_thickest a_this_refusals g_this)), (a_this_now, .inr (0, rf_o0 a_this_now_kinds a_this_now_thicks g_this_now)), (a_this_now_kinds, .inl (cA, 6, .inl f_this_now_kinds)), (a_this_now_thicks, .inl (cA, 6, .inl f_this_now_thicks)), (a_this_refusals, .inl (cA, 7, .inl q10.2))]) ⟨hx, hb, hml, hown, hts⟩ hK hP hD hS hA hE (c_X2_refuse l D cA ad a_this a_this_now a_this_then a_this_trial a_this_search a_this_letters a_this_numbers a_this_thickest a_this_refusals s.heap.size g_this f_this_refusals (-2) q10 hq10) (cwV 1 hts gX2_part_X2_refuse rfl rfl rfl hv_X2_refuse ⟨Nat.le_of_ble_eq_true rfl, Nat.le_of_ble_eq_true rfl⟩) [0, 4] [1, 2, 3] [3, 0, 1, 2, 4] rfl rfl rfl rfl (by decide) rfl rfl 2 0 rfl rfl rfl rfl rfl hl.1 (Nat.le_of_ble_eq_true rfl) dX2_part_84 ⟨Nat.zero_le _, Nat.zero_le _⟩ (fun H locs hP hD hS => ?_)
            obtain rfl := Option.some.inj hf
            exact W.iret (v := q10.1) hx hb hr (fun t ht hW => ⟨⟨q10.1, (), rfl, rfl, rf_mk ht hP hD⟩, hS.F ht⟩) hS.2.2 dX2_part_87
    · have hf := rf_ifn hf c3
      refine lv_aload_n hx hb dX2_part_15 rfl (lv_at hl 0 rfl) ?_
      refine lv_iconst (v := (-1)) hx hb dX2_part_16 (by decide) ?_
      obtain ⟨q11, hq11, hf⟩ := rf_bindq hf
      refine rf_Vi (As := [.int (-1)]) (rest := []) (wr := [(a_this_now, .inr (0, rf_o0 a_this_now_kinds a_this_now_thicks g_this_now)), (a_this_now_kinds, .inl (cA, 6, .inl f_this_now_kinds)), (a_this_now_thicks, .inl (cA, 6, .inl f_this_now_thicks))]) (wn := [(a_this, .inr (2, rf_o2 a_this_now a_this_then a_this_trial a_this_search a_this_letters a_this_numbers a_this_thickest a_this_refusals g_this)), (a_this_now, .inr (0, rf_o0 a_this_now_kinds a_this_now_thicks g_this_now)), (a_this_now_kinds, .inl (cA, 6, .inl f_this_now_kinds)), (a_this_now_thicks, .inl (cA, 6, .inl f_this_now_thicks)), (a_this_refusals, .inl (cA, 7, .inl q11.2))]) ⟨hx, hb, hml, hown, hts⟩ hK hP hD hS hA hE (c_X2_refuse l D cA ad a_this a_this_now a_this_then a_this_trial a_this_search a_this_letters a_this_numbers a_this_thickest a_this_refusals s.heap.size g_this f_this_refusals (-1) q11 hq11) (cwV 1 hts gX2_part_X2_refuse rfl rfl rfl hv_X2_refuse ⟨Nat.le_of_ble_eq_true rfl, Nat.le_of_ble_eq_true rfl⟩) [0, 4] [1, 2, 3] [3, 0, 1, 2, 4] rfl rfl rfl rfl (by decide) rfl rfl 2 0 rfl rfl rfl rfl rfl hl.1 (Nat.le_of_ble_eq_true rfl) dX2_part_17 ⟨Nat.zero_le _, Nat.zero_le _⟩ (fun H locs hP hD hS => ?_)
      obtain rfl := Option.some.inj hf
      exact W.iret (v := q11.1) hx hb hr (fun t ht hW => ⟨⟨q11.1, (), rfl, rfl, rf_mk ht hP hD⟩, hS.F ht⟩) hS.2.2 dX2_part_20
