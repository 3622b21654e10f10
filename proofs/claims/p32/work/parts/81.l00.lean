theorem hs_L_say : yL_say.cls ≠ "java/lang/invoke/MethodHandle" ∧ yL_say.cls ≠ "java/lang/invoke/VarHandle" ∧ (parseMethodDescriptor yL_say.desc).map (fun d => d.parameters.length) = some 2 := by decide +kernel
theorem hv_X2_letter : yX2_letter.cls = RX2 ∧ yX2_letter.cls ≠ "java/lang/invoke/MethodHandle" ∧ yX2_letter.cls ≠ "java/lang/invoke/VarHandle" ∧ (parseMethodDescriptor yX2_letter.desc).map (fun d => d.parameters.length) = some 1 := by decide +kernel
theorem kL_cell_0 : (.constant RL 7 (69069) : Cond) ∈ wsL_cell := by decide +kernel
theorem kL_cell_1 : (.constant RL 8 (1103515245) : Cond) ∈ wsL_cell := by decide +kernel
set_option maxHeartbeats 8000000 in
set_option maxRecDepth 100000 in
/-- a cell of the script: the script is a row outside the world -/
theorem c_L_cell_T (l : Launch) (a_o0 : Nat) (sz : Nat) (n_o0 : Nat) (f_o0 : Nat → Int32) (p1 : Int32) (q : Int32) (hf : f_L_cell n_o0 f_o0 p1 = some q) : Met l yL_cell wsL_cell ({ frames := 0, cells := 0, slots := 0, locals := 0 } : Room) (va_Pc [.ref a_o0, .int p1] (rf_PreT a_o0 n_o0 f_o0 sz)) (va_Qi (fun (r : Int32) (_ : Unit) => r = q) (fun _ _ => True) (va_A [] sz)) 0 0 (va_A [] sz) := by
  refine Met.ofW (cc := cL_cell) (maxL := 3) (ret := (some .int)) (by decide) rfl ?_
  intro p e s m args below meth c s₁ B hml hv
  obtain ⟨rfl, hsz, hT⟩ := hv
  have hx := B.exec
  have hb := B.bytes
  have hr := B.returns
  have hts := atoms_spec (ws := wsL_cell) B.pre
  have hown : s.vm.findClass RL = some m.cls := findClass_of_methodNamed B.named
  have hlocks := B.notSynchronized
  subst hsz
  generalize hAe : va_A [] s.heap.size = A at hT ⊢
  have hS : va_S A s.heap s.heap [] := va_S.rf
  have hl := lv_entry ([.ref a_o0, .int p1]) (n := 3) (Nat.le_of_ble_eq_true rfl)
  rw [lg_entry_eq]
  generalize (lg_sl ([.ref a_o0, .int p1]) ++ List.replicate (3 - (lg_sl ([.ref a_o0, .int p1])).length) Slot.unset).toArray = ls at hl ⊢
  have hl : lv_has ls 3 [(0, .ref a_o0), (1, .int p1)] := hl
  rw [f_L_cell] at hf
  refine lv_ldc hx hb hown (hts _ kL_cell_0) dL_cell_0 ?_
  refine lv_iload_n hx hb dL_cell_2 rfl (lv_at hl 1 rfl) ?_
  refine lv_aload_n hx hb dL_cell_3 rfl (lv_at hl 0 rfl) ?_
  refine va_tlen (v := (Int32.ofNat n_o0)) hx hb hT hS rfl dL_cell_4 ?_
  refine lv_icmp_ge (tgt := 14) hx hb dL_cell_5 (by decide) (fun c1 => ?_) (fun c1 => ?_)
  · have hf := rf_ifp hf c1
    refine lv_iconst (v := 0) hx hb dL_cell_14 (by decide) ?_
    refine lv_sipush (v := 1009) hx hb dL_cell_15 (by decide) ?_
    refine lv_iload_n hx hb dL_cell_18 rfl (lv_at hl 1 rfl) ?_
    refine lv_imul hx hb dL_cell_19 ?_
    refine lv_iadd hx hb dL_cell_20 ?_
    refine lv_imul hx hb dL_cell_21 ?_
    refine lv_sipush (v := 12345) hx hb dL_cell_22 (by decide) ?_
    refine lv_iadd hx hb dL_cell_25 ?_
    refine lv_topi (fun v2 ev2 => ?_)
    have hf := rf_bindv hf ev2
    clear ev2
    refine lv_istore_n (lv' := [(2, .int v2), (0, .ref a_o0), (1, .int p1)]) hx hb dL_cell_26 rfl hl (by decide) rfl (fun ls hl => ?_)
    refine lv_iload_n hx hb dL_cell_27 rfl (lv_at hl 0 rfl) ?_
    refine lv_iload_n hx hb dL_cell_28 rfl (lv_at hl 0 rfl) ?_
    refine lv_bipush (v := 13) hx hb dL_cell_29 (by decide) ?_
    refine lv_iushr (v := (rf_ushr v2 13)) hx hb dL_cell_31 rfl ?_
    refine lv_ixor hx hb dL_cell_32 ?_
    refine lv_ldc hx hb hown (hts _ kL_cell_1) dL_cell_33 ?_
    refine lv_imul hx hb dL_cell_35 ?_
    refine lv_topi (fun v3 ev3 => ?_)
    have hf := rf_bindv hf ev3
    clear ev3
    refine lv_istore_n (lv' := [(2, .int v3), (0, .ref a_o0), (1, .int p1)]) hx hb dL_cell_36 rfl hl (by decide) rfl (fun ls hl => ?_)
    refine lv_iload_n hx hb dL_cell_37 rfl (lv_at hl 0 rfl) ?_
    refine lv_iload_n hx hb dL_cell_38 rfl (lv_at hl 0 rfl) ?_
    refine lv_bipush (v := 16) hx hb dL_cell_39 (by decide) ?_
    refine lv_iushr (v := (rf_ushr v3 16)) hx hb dL_cell_41 rfl ?_
    refine lv_ixor hx hb dL_cell_42 ?_
    obtain rfl := Option.some.inj hf
    exact W.iret (v := (v3 ^^^ (rf_ushr v3 16))) hx hb hr (fun t ht hW => ⟨⟨(v3 ^^^ (rf_ushr v3 16)), (), rfl, rfl, trivial⟩, hS.F ht⟩) hS.2.2 dL_cell_43
  · have hf := rf_ifn hf c1
    refine lv_aload_n hx hb dL_cell_8 rfl (lv_at hl 0 rfl) ?_
    refine lv_iload_n hx hb dL_cell_9 rfl (lv_at hl 1 rfl) ?_
    obtain ⟨c4, hf⟩ := rf_chk hf
    refine va_ti hx hb hT hS c4 rfl dL_cell_10 ?_
    refine lv_goto (tgt := 15) hx hb dL_cell_11 (by decide) ?_
    refine lv_sipush (v := 1009) hx hb dL_cell_15 (by decide) ?_
    refine lv_iload_n hx hb dL_cell_18 rfl (lv_at hl 1 rfl) ?_
    refine lv_imul hx hb dL_cell_19 ?_
    refine lv_iadd hx hb dL_cell_20 ?_
    refine lv_imul hx hb dL_cell_21 ?_
    refine lv_sipush (v := 12345) hx hb dL_cell_22 (by decide) ?_
    refine lv_iadd hx hb dL_cell_25 ?_
    refine lv_topi (fun v5 ev5 => ?_)
    have hf := rf_bindv hf ev5
    clear ev5
    refine lv_istore_n (lv' := [(2, .int v5), (0, .ref a_o0), (1, .int p1)]) hx hb dL_cell_26 rfl hl (by decide) rfl (fun ls hl => ?_)
    refine lv_iload_n hx hb dL_cell_27 rfl (lv_at hl 0 rfl) ?_
    refine lv_iload_n hx hb dL_cell_28 rfl (lv_at hl 0 rfl) ?_
    refine lv_bipush (v := 13) hx hb dL_cell_29 (by decide) ?_
    refine lv_iushr (v := (rf_ushr v5 13)) hx hb dL_cell_31 rfl ?_
    refine lv_ixor hx hb dL_cell_32 ?_
    refine lv_ldc hx hb hown (hts _ kL_cell_1) dL_cell_33 ?_
    refine lv_imul hx hb dL_cell_35 ?_
    refine lv_topi (fun v6 ev6 => ?_)
    have hf := rf_bindv hf ev6
    clear ev6
    refine lv_istore_n (lv' := [(2, .int v6), (0, .ref a_o0), (1, .int p1)]) hx hb dL_cell_36 rfl hl (by decide) rfl (fun ls hl => ?_)
    refine lv_iload_n hx hb dL_cell_37 rfl (lv_at hl 0 rfl) ?_
    refine lv_iload_n hx hb dL_cell_38 rfl (lv_at hl 0 rfl) ?_
    refine lv_bipush (v := 16) hx hb dL_cell_39 (by decide) ?_
    refine lv_iushr (v := (rf_ushr v6 16)) hx hb dL_cell_41 rfl ?_
    refine lv_ixor hx hb dL_cell_42 ?_
    obtain rfl := Option.some.inj hf
    exact W.iret (v := (v6 ^^^ (rf_ushr v6 16))) hx hb hr (fun t ht hW => ⟨⟨(v6 ^^^ (rf_ushr v6 16)), (), rfl, rfl, trivial⟩, hS.F ht⟩) hS.2.2 dL_cell_43

set_option maxHeartbeats 8000000 in
set_option maxRecDepth 100000 in
theorem c_L_say (l : Launch) (D : va_G) (cA : ClassId) (ad : Nat → Nat) (a_o0 a_o0_now a_o0_then a_o0_trial a_o0_search a_o0_letters a_o0_numbers a_o0_thickest a_o0_refusals : Nat) (sz : Nat) (g_o0 f_o0_letters f_o0_refusals : Nat → Int32) (p1 : Int32) (q : Int32 × (Nat → Int32) × (Nat → Int32) × (Nat → Int32)) (hf : f_L_say g_o0 f_o0_letters f_o0_refusals p1 = some q) : Met l yL_say wsL_say ({ frames := 3, cells := 0, slots := 0, locals := 64 } : Room) (va_Pc [.ref a_o0, .int p1] (rf_Pre D cA ad [(a_o0, .inr (2, rf_o2 a_o0_now a_o0_then a_o0_trial a_o0_search a_o0_letters a_o0_numbers a_o0_thickest a_o0_refusals g_o0)), (a_o0_letters, .inl (cA, 96, .inl f_o0_letters)), (a_o0_refusals, .inl (cA, 7, .inl f_o0_refusals))] sz)) (va_Qi (fun (r : Int32) (_ : Unit) => r = q.1) (fun _ t => rf_Post D (va_A [(a_o0, .inr (2, rf_o2 a_o0_now a_o0_then a_o0_trial a_o0_search a_o0_letters a_o0_numbers a_o0_thickest a_o0_refusals g_o0)), (a_o0_letters, .inl (cA, 96, .inl f_o0_letters)), (a_o0_refusals, .inl (cA, 7, .inl f_o0_refusals))] sz) [(a_o0, .inr (2, rf_o2 a_o0_now a_o0_then a_o0_trial a_o0_search a_o0_letters a_o0_numbers a_o0_thickest a_o0_refusals q.2.1)), (a_o0_letters, .inl (cA, 96, .inl q.2.2.1)), (a_o0_refusals, .inl (cA, 7, .inl q.2.2.2))] t) (va_A [(a_o0, .inr (2, rf_o2 a_o0_now a_o0_then a_o0_trial a_o0_search a_o0_letters a_o0_numbers a_o0_thickest a_o0_refusals g_o0)), (a_o0_letters, .inl (cA, 96, .inl f_o0_letters)), (a_o0_refusals, .inl (cA, 7, .inl f_o0_refusals))] sz)) 0 0 (va_A [(a_o0, .inr (2, rf_o2 a_o0_now a_o0_then a_o0_trial a_o0_search a_o0_letters a_o0_numbers a_o0_thickest a_o0_refusals g_o0)), (a_o0_letters, .inl (cA, 96, .inl f_o0_letters)), (a_o0_refusals, .inl (cA, 7, .inl f_o0_refusals))] sz) := by
  refine Met.ofW (cc := cL_say) (maxL := 2) (ret := (some .boolean)) (by decide) rfl ?_
  intro p e s m args below meth c s₁ B hml hv
  obtain ⟨rfl, hsz, hP, hK, hD0, hE⟩ := hv
  have hx := B.exec
  have hb := B.bytes
  have hr := B.returns
  have hts := atoms_spec (ws := wsL_say) B.pre
  have hown : s.vm.findClass RL = some m.cls := findClass_of_methodNamed B.named
  have hlocks := B.notSynchronized
  subst hsz
  have hD := hD0.self (sz := s.heap.size)
  generalize hAe : va_A [(a_o0, .inr (2, rf_o2 a_o0_now a_o0_then a_o0_trial a_o0_search a_o0_letters a_o0_numbers a_o0_thickest a_o0_refusals g_o0)), (a_o0_letters, .inl (cA, 96, .inl f_o0_letters)), (a_o0_refusals, .inl (cA, 7, .inl f_o0_refusals))] s.heap.size = A at hD hE ⊢
  have hA : ∀ q : Nat, s.heap.size ≤ q → A q := fun q h => by rw [← hAe]; exact Or.inr h
  have hS : va_S A s.heap s.heap [] := va_S.rf
  have hP : va_P D vwCl [(a_o0, .inr (2, rf_o2 a_o0_now a_o0_then a_o0_trial a_o0_search a_o0_letters a_o0_numbers a_o0_thickest a_o0_refusals g_o0)), (a_o0_letters, .inl (cA, 96, .inl f_o0_letters)), (a_o0_refusals, .inl (cA, 7, .inl f_o0_refusals))] s.heap := hP
  have hl := lv_entry ([.ref a_o0, .int p1]) (n := 2) (Nat.le_of_ble_eq_true rfl)
  rw [lg_entry_eq]
  generalize (lg_sl ([.ref a_o0, .int p1]) ++ List.replicate (2 - (lg_sl ([.ref a_o0, .int p1])).length) Slot.unset).toArray = ls at hl ⊢
  have hl : lv_has ls 2 [(0, .ref a_o0), (1, .int p1)] := hl
  rw [f_L_say] at hf
  refine lv_aload_n hx hb dL_say_0 rfl (lv_at hl 0 rfl) ?_
  refine lv_iload_n hx hb dL_say_1 rfl (lv_at hl 1 rfl) ?_
  obtain ⟨q1, hq1, hf⟩ := rf_bindq hf
  refine rf_Vi (As := [.int p1]) (rest := []) (wr := []) (wn := [(a_o0, .inr (2, rf_o2 a_o0_now a_o0_then a_o0_trial a_o0_search a_o0_letters a_o0_numbers a_o0_thickest a_o0_refusals q1.2.1)), (a_o0_letters, .inl (cA, 96, .inl q1.2.2.1)), (a_o0_refusals, .inl (cA, 7, .inl q1.2.2.2))]) ⟨hx, hb, hml, hown, hts⟩ hK hP hD hS hA hE (c_X2_letter l D cA ad a_o0 a_o0_now a_o0_then a_o0_trial a_o0_search a_o0_letters a_o0_numbers a_o0_thickest a_o0_refusals s.heap.size g_o0 f_o0_letters f_o0_refusals p1 q1 hq1) (cwV 1 hts gL_say_X2_letter rfl rfl rfl hv_X2_letter ⟨Nat.le_of_ble_eq_true rfl, Nat.le_of_ble_eq_true rfl⟩) [0, 1, 2] [] [0, 1, 2] rfl rfl rfl rfl (by decide) rfl rfl 2 0 rfl rfl rfl rfl rfl hl.1 (Nat.le_of_ble_eq_true rfl) dL_say_2 ⟨Nat.zero_le _, Nat.zero_le _⟩ (fun H locs hP hD hS => ?_)
  refine lv_if_le (tgt := 12) hx hb dL_say_5 (by decide) (fun c2 => ?_) (fun c2 => ?_)
  · have hf := rf_ifp hf c2
    refine lv_iconst (v := 0) hx hb dL_say_12 (by decide) ?_
    obtain rfl := Option.some.inj hf
    exact W.zret (v := 0) hx hb hr rfl (fun t ht hW => ⟨⟨0, (), rfl, rfl, rf_mk ht hP hD⟩, hS.F ht⟩) hS.2.2 dL_say_13
  · have hf := rf_ifn hf c2
    refine lv_iconst (v := 1) hx hb dL_say_8 (by decide) ?_
    refine lv_goto (tgt := 13) hx hb dL_say_9 (by decide) ?_
    obtain rfl := Option.some.inj hf
    exact W.zret (v := 1) hx hb hr rfl (fun t ht hW => ⟨⟨1, (), rfl, rfl, rf_mk ht hP hD⟩, hS.F ht⟩) hS.2.2 dL_say_13

set_option maxHeartbeats 8000000 in
set_option maxRecDepth 100000 in
theorem c_L_number (l : Launch) (D : va_G) (cA : ClassId) (ad : Nat → Nat) (a_o0 a_o0_now a_o0_then a_o0_trial a_o0_search a_o0_letters a_o0_numbers a_o0_thickest a_o0_refusals : Nat) (sz : Nat) (g_o0 f_o0_letters f_o0_refusals : Nat → Int32) (p1 p2 : Int32) (q : Int32 × (Nat → Int32) × (Nat → Int32) × (Nat → Int32)) (hf : f_L_number g_o0 f_o0_letters f_o0_refusals p1 p2 = some q) : Met l yL_number wsL_number ({ frames := 4, cells := 0, slots := 0, locals := 85 } : Room) (va_Pc [.ref a_o0, .int p1, .int p2] (rf_Pre D cA ad [(a_o0, .inr (2, rf_o2 a_o0_now a_o0_then a_o0_trial a_o0_search a_o0_letters a_o0_numbers a_o0_thickest a_o0_refusals g_o0)), (a_o0_letters, .inl (cA, 96, .inl f_o0_letters)), (a_o0_refusals, .inl (cA, 7, .inl f_o0_refusals))] sz)) (va_Qi (fun (r : Int32) (_ : Unit) => r = q.1) (fun _ t => rf_Post D (va_A [(a_o0, .inr (2, rf_o2 a_o0_now a_o0_then a_o0_trial a_o0_search a_o0_letters a_o0_numbers a_o0_thickest a_o0_refusals g_o0)), (a_o0_letters, .inl (cA, 96, .inl f_o0_letters)), (a_o0_refusals, .inl (cA, 7, .inl f_o0_refusals))] sz) [(a_o0, .inr (2, rf_o2 a_o0_now a_o0_then a_o0_trial a_o0_search a_o0_letters a_o0_numbers a_o0_thickest a_o0_refusals q.2.1)), (a_o0_letters, .inl (cA, 96, .inl q.2.2.1)), (a_o0_refusals, .inl (cA, 7, .inl q.2.2.2))] t) (va_A [(a_o0, .inr (2, rf_o2 a_o0_now a_o0_then a_o0_trial a_o0_search a_o0_letters a_o0_numbers a_o0_thickest a_o0_refusals g_o0)), (a_o0_letters, .inl (cA, 96, .inl f_o0_letters)), (a_o0_refusals, .inl (cA, 7, .inl f_o0_refusals))] sz)) 0 0 (va_A [(a_o0, .inr (2, rf_o2 a_o0_now a_o0_then a_o0_trial a_o0_search a_o0_letters a_o0_numbers a_o0_thickest a_o0_refusals g_o0)), (a_o0_letters, .inl (cA, 96, .inl f_o0_letters)), (a_o0_refusals, .inl (cA, 7, .inl f_o0_refusals))] sz) := by
  refine Met.ofW (cc := cL_number) (maxL := 4) (ret := (some .boolean)) (by decide) rfl ?_
  intro p e s m args below meth c s₁ B hml hv
  obtain ⟨rfl, hsz, hP, hK, hD0, hE⟩ := hv
  have hx := B.exec
  have hb := B.bytes
  have hr := B.returns
  have hts := atoms_spec (ws := wsL_number) B.pre
  have hown : s.vm.findClass RL = some m.cls := findClass_of_methodNamed B.named
  have hlocks := B.notSynchronized
  subst hsz
  have hD := hD0.self (sz := s.heap.size)
  generalize hAe : va_A [(a_o0, .inr (2, rf_o2 a_o0_now a_o0_then a_o0_trial a_o0_search a_o0_letters a_o0_numbers a_o0_thickest a_o0_refusals g_o0)), (a_o0_letters, .inl (cA, 96, .inl f_o0_letters)), (a_o0_refusals, .inl (cA, 7, .inl f_o0_refusals))] s.heap.size = A at hD hE ⊢
  have hA : ∀ q : Nat, s.heap.size ≤ q → A q := fun q h => by rw [← hAe]; exact Or.inr h
  have hS : va_S A s.heap s.heap [] := va_S.rf
  have hP : va_P D vwCl [(a_o0, .inr (2, rf_o2 a_o0_now a_o0_then a_o0_trial a_o0_search a_o0_letters a_o0_numbers a_o0_thickest a_o0_refusals g_o0)), (a_o0_letters, .inl (cA, 96, .inl f_o0_letters)), (a_o0_refusals, .inl (cA, 7, .inl f_o0_refusals))] s.heap := hP
  have hl := lv_entry ([.ref a_o0, .int p1, .int p2]) (n := 4) (Nat.le_of_ble_eq_true rfl)
  rw [lg_entry_eq]
  generalize (lg_sl ([.ref a_o0, .int p1, .int p2]) ++ List.replicate (4 - (lg_sl ([.ref a_o0, .int p1, .int p2])).length) Slot.unset).toArray = ls at hl ⊢
  have hl : lv_has ls 4 [(0, .ref a_o0), (1, .int p1), (2, .int p2)] := hl
  rw [f_L_number] at hf
  refine lv_iconst (v := 1) hx hb dL_number_0 (by decide) ?_
  refine lv_istore_n (lv' := [(3, .int 1), (0, .ref a_o0), (1, .int p1), (2, .int p2)]) hx hb dL_number_1 rfl hl (by decide) rfl (fun ls hl => ?_)
  refine lv_iload_n hx hb dL_number_2 rfl (lv_at hl 3 rfl) ?_
  refine lv_iconst (v := 2) hx hb dL_number_3 (by decide) ?_
  refine lv_icmp_le (tgt := 19) hx hb dL_number_4 (by decide) (fun c1 => ?_) (fun c1 => ?_)
  · have hf := rf_ifp hf c1
    refine lv_iload_n hx hb dL_number_19 rfl (lv_at hl 3 rfl) ?_
    refine lv_iconst (v := 1) hx hb dL_number_20 (by decide) ?_
    refine lv_icmp_le (tgt := 41) hx hb dL_number_21 (by decide) (fun c2 => ?_) (fun c2 => ?_)
    · have hf := rf_ifp hf c2
      refine lv_iload_n hx hb dL_number_41 rfl (lv_at hl 0 rfl) ?_
      refine lv_aload_n hx hb dL_number_42 rfl (lv_at hl 1 rfl) ?_
      refine lv_bipush (v := 48) hx hb dL_number_43 (by decide) ?_
      refine lv_iload_n hx hb dL_number_45 rfl (lv_at hl 2 rfl) ?_
      refine lv_bipush (v := 10) hx hb dL_number_46 (by decide) ?_
      refine lv_irem hx hb dL_number_48 (by decide) ?_
      refine lv_topi (fun v3 ev3 => ?_)
      have hf := rf_bindv hf ev3
      clear ev3
      refine lv_iadd hx hb dL_number_49 ?_
      obtain ⟨q4, hq4, hf⟩ := rf_bindq hf
      refine rf_Si (As := [.ref a_o0, .int (48 + v3)]) (rest := [.int 1]) (wr := []) (wn := [(a_o0, .inr (2, rf_o2 a_o0_now a_o0_then a_o0_trial a_o0_search a_o0_letters a_o0_numbers a_o0_thickest a_o0_refusals q4.2.1)), (a_o0_letters, .inl (cA, 96, .inl q4.2.2.1)), (a_o0_refusals, .inl (cA, 7, .inl q4.2.2.2))]) ⟨hx, hb, hml, hown, hts⟩ hK hP hD hS hA hE (c_L_say l D cA ad a_o0 a_o0_now a_o0_then a_o0_trial a_o0_search a_o0_letters a_o0_numbers a_o0_thickest a_o0_refusals s.heap.size g_o0 f_o0_letters f_o0_refusals (48 + v3) q4 hq4) (va_cwS 2 hts gL_number_L_say rfl rfl rfl hs_L_say ⟨Nat.le_of_ble_eq_true rfl, Nat.le_of_ble_eq_true rfl⟩) [0, 1, 2] [] [0, 1, 2] rfl rfl rfl rfl (by decide) rfl rfl rfl rfl hl.1 (Nat.le_of_ble_eq_true rfl) dL_number_50 ⟨Nat.zero_le _, Nat.zero_le _⟩ (fun H locs hP hD hS => ?_)
      refine lv_iand hx hb dL_number_53 ?_
      obtain ⟨c5, hf⟩ := rf_chk hf
      obtain rfl := Option.some.inj hf
      exact W.zret (v := (1 &&& q4.1)) hx hb hr (rf_nb c5) (fun t ht hW => ⟨⟨(1 &&& q4.1), (), rfl, rfl, rf_mk ht hP hD⟩, hS.F ht⟩) hS.2.2 dL_number_54
    · have hf := rf_ifn hf c2
      refine lv_iload_n hx hb dL_number_24 rfl (lv_at hl 0 rfl) ?_
      refine lv_aload_n hx hb dL_number_25 rfl (lv_at hl 1 rfl) ?_
      refine lv_bipush (v := 48) hx hb dL_number_26 (by decide) ?_
      refine lv_iload_n hx hb dL_number_28 rfl (lv_at hl 2 rfl) ?_
      refine lv_bipush (v := 10) hx hb dL_number_29 (by decide) ?_
      refine lv_idiv hx hb dL_number_31 (by decide) ?_
      refine lv_bipush (v := 10) hx hb dL_number_32 (by decide) ?_
      refine lv_irem hx hb dL_number_34 (by decide) ?_
      refine lv_topi (fun v6 ev6 => ?_)
      have hf := rf_bindv hf ev6
      clear ev6
      refine lv_iadd hx hb dL_number_35 ?_
      obtain ⟨q7, hq7, hf⟩ := rf_bindq hf
      refine rf_Si (As := [.ref a_o0, .int (48 + v6)]) (rest := [.int 1]) (wr := []) (wn := [(a_o0, .inr (2, rf_o2 a_o0_now a_o0_then a_o0_trial a_o0_search a_o0_letters a_o0_numbers a_o0_thickest a_o0_refusals q7.2.1)), (a_o0_letters, .inl (cA, 96, .inl q7.2.2.1)), (a_o0_refusals, .inl (cA, 7, .inl q7.2.2.2))]) ⟨hx, hb, hml, hown, hts⟩ hK hP hD hS hA hE (c_L_say l D cA ad a_o0 a_o0_now a_o0_then a_o0_trial a_o0_search a_o0_letters a_o0_numbers a_o0_thickest a_o0_refusals s.heap.size g_o0 f_o0_letters f_o0_refusals (48 + v6) q7 hq7) (va_cwS 2 hts gL_number_L_say rfl rfl rfl hs_L_say ⟨Nat.le_of_ble_eq_true rfl, Nat.le_of_ble_eq_true rfl⟩) [0, 1, 2] [] [0, 1, 2] rfl rfl rfl rfl (by decide) rfl rfl rfl rfl hl.1 (Nat.le_of_ble_eq_true rfl) dL_number_36 ⟨Nat.zero_le _, Nat.zero_le _⟩ (fun H locs hP hD hS => ?_)
      refine lv_iand hx hb dL_number_39 ?_
      refine lv_topi (fun v8 ev8 => ?_)
      have hf := rf_bindv hf ev8
      clear ev8
      refine lv_istore_n (lv' := [(3, .int v8), (0, .ref a_o0), (1, .int p1), (2, .int p2)]) hx hb dL_number_40 rfl hl (by decide) rfl (fun ls hl => ?_)
      refine lv_iload_n hx hb dL_number_41 rfl (lv_at hl 0 rfl) ?_
      refine lv_aload_n hx hb dL_number_42 rfl (lv_at hl 1 rfl) ?_
      refine lv_bipush (v := 48) hx hb dL_number_43 (by decide) ?_
      refine lv_iload_n hx hb dL_number_45 rfl (lv_at hl 2 rfl) ?_
      refine lv_bipush (v := 10) hx hb dL_number_46 (by decide) ?_
      refine lv_irem hx hb dL_number_48 (by decide) ?_
      refine lv_topi (fun v9 ev9 => ?_)
      have hf := rf_bindv hf ev9
      clear ev9
      refine lv_iadd hx hb dL_number_49 ?_
      obtain ⟨q10, hq10, hf⟩ := rf_bindq hf
      refine rf_Si (As := [.ref a_o0, .int (48 + v9)]) (rest := [.int v8]) (wr := []) (wn := [(a_o0, .inr (2, rf_o2 a_o0_now a_o0_then a_o0_trial a_o0_search a_o0_letters a_o0_numbers a_o0_thickest a_o0_refusals q10.2.1)), (a_o0_letters, .inl (cA, 96, .inl q10.2.2.1)), (a_o0_refusals, .inl (cA, 7, .inl q10.2.2.2))]) ⟨hx, hb, hml, hown, hts⟩ hK hP hD hS hA hE (c_L_say l D cA ad a_o0 a_o0_now a_o0_then a_o0_trial a_o0_search a_o0_letters a_o0_numbers a_o0_thickest a_o0_refusals H.size q7.2.1 q7.2.2.1 q7.2.2.2 (48 + v9) q10 hq10) (va_cwS 2 hts gL_number_L_say rfl rfl rfl hs_L_say ⟨Nat.le_of_ble_eq_true rfl, Nat.le_of_ble_eq_true rfl⟩) [0, 1, 2] [] [0, 1, 2] rfl rfl rfl rfl (by decide) rfl rfl rfl rfl hl.1 (Nat.le_of_ble_eq_true rfl) dL_number_50 ⟨Nat.zero_le _, Nat.zero_le _⟩ (fun H locs hP hD hS => ?_)
      refine lv_iand hx hb dL_number_53 ?_
      obtain ⟨c11, hf⟩ := rf_chk hf
      obtain rfl := Option.some.inj hf
      exact W.zret (v := (v8 &&& q10.1)) hx hb hr (rf_nb c11) (fun t ht hW => ⟨⟨(v8 &&& q10.1), (), rfl, rfl, rf_mk ht hP hD⟩, hS.F ht⟩) hS.2.2 dL_number_54
  · have hf := rf_ifn hf c1
    refine lv_aload_n hx hb dL_number_7 rfl (lv_at hl 1 rfl) ?_
    refine lv_bipush (v := 48) hx hb dL_number_8 (by decide) ?_
    refine lv_iload_n hx hb dL_number_10 rfl (lv_at hl 2 rfl) ?_
    refine lv_bipush (v := 100) hx hb dL_number_11 (by decide) ?_
    refine lv_idiv hx hb dL_number_13 (by decide) ?_
    refine lv_iadd hx hb dL_number_14 ?_
    obtain ⟨q12, hq12, hf⟩ := rf_bindq hf
    refine rf_Si (As := [.ref a_o0, .int (48 + (p1 / 100))]) (rest := []) (wr := []) (wn := [(a_o0, .inr (2, rf_o2 a_o0_now a_o0_then a_o0_trial a_o0_search a_o0_letters a_o0_numbers a_o0_thickest a_o0_refusals q12.2.1)), (a_o0_letters, .inl (cA, 96, .inl q12.2.2.1)), (a_o0_refusals, .inl (cA, 7, .inl q12.2.2.2))]) ⟨hx, hb, hml, hown, hts⟩ hK hP hD hS hA hE (c_L_say l D cA ad a_o0 a_o0_now a_o0_then a_o0_trial a_o0_search a_o0_letters a_o0_numbers a_o0_thickest a_o0_refusals s.heap.size g_o0 f_o0_letters f_o0_refusals (48 + (p1 / 100)) q12 hq12) (va_cwS 2 hts gL_number_L_say rfl rfl rfl hs_L_say ⟨Nat.le_of_ble_eq_true rfl, Nat.le_of_ble_eq_true rfl⟩) [0, 1, 2] [] [0, 1, 2] rfl rfl rfl rfl (by decide) rfl rfl rfl rfl hl.1 (Nat.le_of_ble_eq_true rfl) dL_number_15 ⟨Nat.zero_le _, Nat.zero_le _⟩ (fun H locs hP hD hS => ?_)
    refine lv_istore_n (lv' := [(3, .int q12.1), (0, .ref a_o0), (1, .int p1), (2, .int p2)]) hx hb dL_number_18 rfl hl (by decide) rfl (fun ls hl => ?_)
    refine lv_iload_n hx hb dL_number_19 rfl (lv_at hl 3 rfl) ?_
    refine lv_iconst (v := 1) hx hb dL_number_20 (by decide) ?_
    refine lv_icmp_le (tgt := 41) hx hb dL_number_21 (by decide) (fun c13 => ?_) (fun c13 => ?_)
    · have hf := rf_ifp hf c13
      refine lv_iload_n hx hb dL_number_41 rfl (lv_at hl 0 rfl) ?_
      refine lv_aload_n hx hb dL_number_42 rfl (lv_at hl 1 rfl) ?_
      refine lv_bipush (v := 48) hx hb dL_number_43 (by decide) ?_
      refine lv_iload_n hx hb dL_number_45 rfl (lv_at hl 2 rfl) ?_
      refine lv_bipush (v := 10) hx hb dL_number_46 (by decide) ?_
      refine lv_irem hx hb dL_number_48 (by decide) ?_
      refine lv_topi (fun v14 ev14 => ?_)
      have hf := rf_bindv hf ev14
      clear ev14
      refine lv_iadd hx hb dL_number_49 ?_
      obtain ⟨q15, hq15, hf⟩ := rf_bindq hf
      refine rf_Si (As := [.ref a_o0, .int (48 + v14)]) (rest := [.int q12.1]) (wr := []) (wn := [(a_o0, .inr (2, rf_o2 a_o0_now a_o0_then a_o0_trial a_o0_search a_o0_letters a_o0_numbers a_o0_thickest a_o0_refusals q15.2.1)), (a_o0_letters, .inl (cA, 96, .inl q15.2.2.1)), (a_o0_refusals, .inl (cA, 7, .inl q15.2.2.2))]) ⟨hx, hb, hml, hown, hts⟩ hK hP hD hS hA hE (c_L_say l D cA ad a_o0 a_o0_now a_o0_then a_o0_trial a_o0_search a_o0_letters a_o0_numbers a_o0_thickest a_o0_refusals H.size q12.2.1 q12.2.2.1 q12.2.2.2 (48 + v14) q15 hq15) (va_cwS 2 hts gL_number_L_say rfl rfl rfl hs_L_say ⟨Nat.le_of_ble_eq_true rfl, Nat.le_of_ble_eq_true rfl⟩) [0, 1, 2] [] [0, 1, 2] rfl rfl rfl rfl (by decide) rfl rfl rfl rfl hl.1 (Nat.le_of_ble_eq_true rfl) dL_number_50 ⟨Nat.zero_le _, Nat.zero_le _⟩ (fun H locs hP hD hS => ?_)
      refine lv_iand hx hb dL_number_53 ?_
      obtain ⟨c16, hf⟩ := rf_chk hf
      obtain rfl := Option.some.inj hf
      exact W.zret (v := (q12.1 &&& q15.1)) hx hb hr (rf_nb c16) (fun t ht hW => ⟨⟨(q12.1 &&& q15.1), (), rfl, rfl, rf_mk ht hP hD⟩, hS.F ht⟩) hS.2.2 dL_number_54
    · have hf := rf_ifn hf c13
      refine lv_iload_n hx hb dL_number_24 rfl (lv_at hl 0 rfl) ?_
      refine lv_aload_n hx hb dL_number_25 rfl (lv_at hl 1 rfl) ?_
      refine lv_bipush (v := 48) hx hb dL_number_26 (by decide) ?_
      refine lv_iload_n hx hb dL_number_28 rfl (lv_at hl 2 rfl) ?_
      refine lv_bipush (v := 10) hx hb dL_number_29 (by decide) ?_
      refine lv_idiv hx hb dL_number_31 (by decide) ?_
      refine lv_bipush (v := 10) hx hb dL_number_32 (by decide) ?_
      refine lv_irem hx hb dL_number_34 (by decide) ?_
      refine lv_topi (fun v17 ev17 => ?_)
      have hf := rf_bindv hf ev17
      clear ev17
      refine lv_iadd hx hb dL_number_35 ?_
      obtain ⟨q18, hq18, hf⟩ := rf_bindq hf
      refine rf_Si (As := [.ref a_o0, .int (48 + v17)]) (rest := [.int q12.1]) (wr := []) (wn := [(a_o0, .inr (2, rf_o2 a_o0_now a_o0_then a_o0_trial a_o0_search a_o0_letters a_o0_numbers a_o0_thickest a_o0_refusals q18.2.1)), (a_o0_letters, .inl (cA, 96, .inl q18.2.2.1)), (a_o0_refusals, .inl (cA, 7, .inl q18.2.2.2))]) ⟨hx, hb, hml, hown, hts⟩ hK hP hD hS hA hE (c_L_say l D cA ad a_o0 a_o0_now a_o0_then a_o0_trial a_o0_search a_o0_letters a_o0_numbers a_o0_thickest a_o0_refusals H.size q12.2.1 q12.2.2.1 q12.2.2.2 (48 + v17) q18 hq18) (va_cwS 2 hts gL_number_L_say rfl rfl rfl hs_L_say ⟨Nat.le_of_ble_eq_true rfl, Nat.le_of_ble_eq_true rfl⟩) [0, 1, 2] [] [0, 1, 2] rfl rfl rfl rfl (by decide) rfl rfl rfl rfl hl.1 (Nat.le_of_ble_eq_true rfl) dL_number_36 ⟨Nat.zero_le _, Nat.zero_le _⟩ (fun H locs hP hD hS => ?_)
      refine lv_iand hx hb dL_number_39 ?_
      refine lv_topi (fun v19 ev19 => ?_)
      have hf := rf_bindv hf ev19
      clear ev19
      refine lv_istore_n (lv' := [(3, .int v19), (0, .ref a_o0), (1, .int p1), (2, .int p2)]) hx hb dL_number_40 rfl hl (by decide) rfl (fun ls hl => ?_)
      refine lv_iload_n hx hb dL_number_41 rfl (lv_at hl 0 rfl) ?_
      refine lv_aload_n hx hb dL_number_42 rfl (lv_at hl 1 rfl) ?_
      refine lv_bipush (v := 48) hx hb dL_number_43 (by decide) ?_
      refine lv_iload_n hx hb dL_number_45 rfl (lv_at hl 2 rfl) ?_
      refine lv_bipush (v := 10) hx hb dL_number_46 (by decide) ?_
      refine lv_irem hx hb dL_number_48 (by decide) ?_
      refine lv_topi (fun v20 ev20 => ?_)
      have hf := rf_bindv hf ev20
      clear ev20
      refine lv_iadd hx hb dL_number_49 ?_
      obtain ⟨q21, hq21, hf⟩ := rf_bindq hf
      refine rf_Si (As := [.ref a_o0, .int (48 + v20)]) (rest := [.int v19]) (wr := []) (wn := [(a_o0, .inr (2, rf_o2 a_o0_now a_o0_then a_o0_trial a_o0_search a_o0_letters a_o0_numbers a_o0_thickest a_o0_refusals q21.2.1)), (a_o0_letters, .inl (cA, 96, .inl q21.2.2.1)), (a_o0_refusals, .inl (cA, 7, .inl q21.2.2.2))]) ⟨hx, hb, hml, hown, hts⟩ hK hP hD hS hA hE (c_L_say l D cA ad a_o0 a_o0_now a_o0_then a_o0_trial a_o0_search a_o0_letters a_o0_numbers a_o0_thickest a_o0_refusals H.size q18.2.1 q18.2.2.1 q18.2.2.2 (48 + v20) q21 hq21) (va_cwS 2 hts gL_number_L_say rfl rfl rfl hs_L_say ⟨Nat.le_of_ble_eq_true rfl, Nat.le_of_ble_eq_true rfl⟩) [0, 1, 2] [] [0, 1, 2] rfl rfl rfl rfl (by decide) rfl rfl rfl rfl hl.1 (Nat.le_of_ble_eq_true rfl) dL_number_50 ⟨Nat.zero_le _, Nat.zero_le _⟩ (fun H locs hP hD hS => ?_)
      refine lv_iand hx hb dL_number_53 ?_
      obtain ⟨c22, hf⟩ := rf_chk hf
      obtain rfl := Option.some.inj hf
      exact W.zret (v := (v19 &&& q21.1)) hx hb hr (rf_nb c22) (fun t ht hW => ⟨⟨(v19 &&& q21.1), (), rfl, rfl, rf_mk ht hP hD⟩, hS.F ht⟩) hS.2.2 dL_number_54
