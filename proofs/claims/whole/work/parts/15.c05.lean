theorem hs_J6_bitCount_0f7a4 : yJ6_bitCount_0f7a4.cls ≠ "java/lang/invoke/MethodHandle" ∧ yJ6_bitCount_0f7a4.cls ≠ "java/lang/invoke/VarHandle" ∧ (parseMethodDescriptor yJ6_bitCount_0f7a4.desc).map (fun d => d.parameters.length) = some 1 := by decide +kernel
theorem hs_X2_monthSpan : yX2_monthSpan.cls ≠ "java/lang/invoke/MethodHandle" ∧ yX2_monthSpan.cls ≠ "java/lang/invoke/VarHandle" ∧ (parseMethodDescriptor yX2_monthSpan.desc).map (fun d => d.parameters.length) = some 2 := by decide +kernel
theorem hs_X2_priceRange : yX2_priceRange.cls ≠ "java/lang/invoke/MethodHandle" ∧ yX2_priceRange.cls ≠ "java/lang/invoke/VarHandle" ∧ (parseMethodDescriptor yX2_priceRange.desc).map (fun d => d.parameters.length) = some 2 := by decide +kernel
theorem hs_X2_spanRange : yX2_spanRange.cls ≠ "java/lang/invoke/MethodHandle" ∧ yX2_spanRange.cls ≠ "java/lang/invoke/VarHandle" ∧ (parseMethodDescriptor yX2_spanRange.desc).map (fun d => d.parameters.length) = some 4 := by decide +kernel
theorem hv_X0_thickestThatGoes : yX0_thickestThatGoes.cls = RX0 ∧ yX0_thickestThatGoes.cls ≠ "java/lang/invoke/MethodHandle" ∧ yX0_thickestThatGoes.cls ≠ "java/lang/invoke/VarHandle" ∧ (parseMethodDescriptor yX0_thickestThatGoes.desc).map (fun d => d.parameters.length) = some 1 := by decide +kernel
theorem hv_X2_bestSize : yX2_bestSize.cls = RX2 ∧ yX2_bestSize.cls ≠ "java/lang/invoke/MethodHandle" ∧ yX2_bestSize.cls ≠ "java/lang/invoke/VarHandle" ∧ (parseMethodDescriptor yX2_bestSize.desc).map (fun d => d.parameters.length) = some 3 := by decide +kernel
theorem hv_X2_cost : yX2_cost.cls = RX2 ∧ yX2_cost.cls ≠ "java/lang/invoke/MethodHandle" ∧ yX2_cost.cls ≠ "java/lang/invoke/VarHandle" ∧ (parseMethodDescriptor yX2_cost.desc).map (fun d => d.parameters.length) = some 4 := by decide +kernel
theorem hv_X2_leastCost : yX2_leastCost.cls = RX2 ∧ yX2_leastCost.cls ≠ "java/lang/invoke/MethodHandle" ∧ yX2_leastCost.cls ≠ "java/lang/invoke/VarHandle" ∧ (parseMethodDescriptor yX2_leastCost.desc).map (fun d => d.parameters.length) = some 3 := by decide +kernel
theorem hv_X2_numbersTellTries : yX2_numbersTellTries.cls = RX2 ∧ yX2_numbersTellTries.cls ≠ "java/lang/invoke/MethodHandle" ∧ yX2_numbersTellTries.cls ≠ "java/lang/invoke/VarHandle" ∧ (parseMethodDescriptor yX2_numbersTellTries.desc).map (fun d => d.parameters.length) = some 0 := by decide +kernel
theorem hv_X2_twoCost : yX2_twoCost.cls = RX2 ∧ yX2_twoCost.cls ≠ "java/lang/invoke/MethodHandle" ∧ yX2_twoCost.cls ≠ "java/lang/invoke/VarHandle" ∧ (parseMethodDescriptor yX2_twoCost.desc).map (fun d => d.parameters.length) = some 3 := by decide +kernel

set_option maxHeartbeats 8000000 in
set_option maxRecDepth 100000 in
theorem c_X2_cost (l : Launch) (D : va_G) (cA : ClassId) (ad : Nat → Nat) (a_this a_this_now a_this_then a_this_trial a_this_search a_this_letters a_this_numbers a_this_thickest a_this_refusals : Nat) (sz : Nat) (g_this f_this_thickest : Nat → Int32) (p1 p2 p3 p4 : Int32) (q : Int32) (hf : f_X2_cost g_this f_this_thickest p1 p2 p3 p4 = some q) : Met l yX2_cost wsX2_cost ({ frames := 2, cells := 0, slots := 0, locals := 44 } : Room) (va_Pc [.ref a_this, .int p1, .int p2, .int p3, .int p4] (rf_Pre D cA ad [(a_this, .inr (2, rf_o2 a_this_now a_this_then a_this_trial a_this_search a_this_letters a_this_numbers a_this_thickest a_this_refusals g_this)), (a_this_thickest, .inl (cA, 12, .inl f_this_thickest))] sz)) (va_Qi (fun (r : Int32) (_ : Unit) => r = q) (fun _ t => rf_Post D (va_A [(a_this, .inr (2, rf_o2 a_this_now a_this_then a_this_trial a_this_search a_this_letters a_this_numbers a_this_thickest a_this_refusals g_this)), (a_this_thickest, .inl (cA, 12, .inl f_this_thickest))] sz) [(a_this, .inr (2, rf_o2 a_this_now a_this_then a_this_trial a_this_search a_this_letters a_this_numbers a_this_thickest a_this_refusals g_this)), (a_this_thickest, .inl (cA, 12, .inl f_this_thickest))] t) (va_A [(a_this, .inr (2, rf_o2 a_this_now a_this_then a_this_trial a_this_search a_this_letters a_this_numbers a_this_thickest a_this_refusals g_this)), (a_this_thickest, .inl (cA, 12, .inl f_this_thickest))] sz)) 0 0 (va_A [(a_this, .inr (2, rf_o2 a_this_now a_this_then a_this_trial a_this_search a_this_letters a_this_numbers a_this_thickest a_this_refusals g_this)), (a_this_thickest, .inl (cA, 12, .inl f_this_thickest))] sz) := by
  refine Met.ofW (cc := cX2_cost) (maxL := 5) (ret := (some .int)) (by decide) rfl ?_
  intro p e s m args below meth c s₁ B hml hv
  obtain ⟨rfl, hsz, hP, hK, hD0, hE⟩ := hv
  have hx := B.exec
  have hb := B.bytes
  have hr := B.returns
  have hts := atoms_spec (ws := wsX2_cost) B.pre
  have hown : s.vm.findClass RX2 = some m.cls := findClass_of_methodNamed B.named
  have hlocks := B.notSynchronized
  subst hsz
  have hD := hD0.self (sz := s.heap.size)
  generalize hAe : va_A [(a_this, .inr (2, rf_o2 a_this_now a_this_then a_this_trial a_this_search a_this_letters a_this_numbers a_this_thickest a_this_refusals g_this)), (a_this_thickest, .inl (cA, 12, .inl f_this_thickest))] s.heap.size = A at hD hE ⊢
  have hA : ∀ q : Nat, s.heap.size ≤ q → A q := fun q h => by rw [← hAe]; exact Or.inr h
  have hS : va_S A s.heap s.heap [] := va_S.rf
  have hP : va_P D vwCl [(a_this, .inr (2, rf_o2 a_this_now a_this_then a_this_trial a_this_search a_this_letters a_this_numbers a_this_thickest a_this_refusals g_this)), (a_this_thickest, .inl (cA, 12, .inl f_this_thickest))] s.heap := hP
  have hl := lv_entry ([.ref a_this, .int p1, .int p2, .int p3, .int p4]) (n := 5) (Nat.le_of_ble_eq_true rfl)
  rw [lg_entry_eq]
  generalize (lg_sl ([.ref a_this, .int p1, .int p2, .int p3, .int p4]) ++ List.replicate (5 - (lg_sl ([.ref a_this, .int p1, .int p2, .int p3, .int p4])).length) Slot.unset).toArray = ls at hl ⊢
  have hl : lv_has ls 5 [(0, .ref a_this), (1, .int p1), (2, .int p2), (3, .int p3), (4, .int p4)] := hl
  rw [f_X2_cost] at hf
  refine lv_iload_n hx hb dX2_cost_0 rfl (lv_at hl 3 rfl) ?_
  refine lv_aload_n hx hb dX2_cost_1 rfl (lv_at hl 0 rfl) ?_
  refine lv_iload_n hx hb dX2_cost_2 rfl (lv_at hl 1 rfl) ?_
  obtain ⟨q1, hq1, hf⟩ := rf_bindq hf
  refine rf_Vi (As := [.int p1]) (rest := [.int p3]) (wr := []) (wn := [(a_this, .inr (2, rf_o2 a_this_now a_this_then a_this_trial a_this_search a_this_letters a_this_numbers a_this_thickest a_this_refusals g_this)), (a_this_thickest, .inl (cA, 12, .inl f_this_thickest))]) ⟨hx, hb, hml, hown, hts⟩ hK hP hD hS hA hE (c_X2_stickMonths l D cA ad a_this a_this_now a_this_then a_this_trial a_this_search a_this_letters a_this_numbers a_this_thickest a_this_refusals s.heap.size g_this f_this_thickest p1 q1 hq1) (cwV 1 hts gX2_cost_X2_stickMonths rfl rfl rfl hv_X2_stickMonths ⟨Nat.le_of_ble_eq_true rfl, Nat.le_of_ble_eq_true rfl⟩) [0, 1] [] [0, 1] rfl rfl rfl rfl (by decide) rfl rfl 2 0 rfl rfl rfl rfl rfl hl.1 (Nat.le_of_ble_eq_true rfl) dX2_cost_3 ⟨Nat.zero_le _, Nat.zero_le _⟩ (fun H locs hP hD hS => ?_)
  refine lv_iload_n hx hb dX2_cost_6 rfl (lv_at hl 2 rfl) ?_
  refine lv_iand hx hb dX2_cost_7 ?_
  obtain ⟨q2, hq2, hf⟩ := rf_bindq hf
  refine rf_Si (As := [.int (q1 &&& p2)]) (rest := [.int p3]) (wr := [(a_this, .inr (2, rf_o2 a_this_now a_this_then a_this_trial a_this_search a_this_letters a_this_numbers a_this_thickest a_this_refusals g_this)), (a_this_thickest, .inl (cA, 12, .inl f_this_thickest))]) (wn := [(a_this, .inr (2, rf_o2 a_this_now a_this_then a_this_trial a_this_search a_this_letters a_this_numbers a_this_thickest a_this_refusals g_this)), (a_this_thickest, .inl (cA, 12, .inl f_this_thickest))]) ⟨hx, hb, hml, hown, hts⟩ hK hP hD hS hA hE (c_J6_bitCount_0f7a4 l D cA ad H.size (q1 &&& p2) q2 hq2) (va_cwS 1 hts gX2_cost_J6_bitCount_0f7a4 rfl rfl rfl hs_J6_bitCount_0f7a4 ⟨Nat.le_of_ble_eq_true rfl, Nat.le_of_ble_eq_true rfl⟩) [] [0, 1] [0, 1] rfl rfl rfl rfl (by decide) rfl rfl rfl rfl hl.1 (Nat.le_of_ble_eq_true rfl) dX2_cost_8 ⟨Nat.zero_le _, Nat.zero_le _⟩ (fun H locs hP hD hS => ?_)
  refine lv_imul hx hb dX2_cost_11 ?_
  refine lv_iload hx hb dX2_cost_12 (lv_at hl 4 rfl) ?_
  refine lv_aload_n hx hb dX2_cost_14 rfl (lv_at hl 0 rfl) ?_
  refine lv_iload_n hx hb dX2_cost_15 rfl (lv_at hl 1 rfl) ?_
  obtain ⟨q3, hq3, hf⟩ := rf_bindq hf
  refine rf_Vi (As := [.int p1]) (rest := [.int p4, .int (p3 * q2)]) (wr := []) (wn := [(a_this, .inr (2, rf_o2 a_this_now a_this_then a_this_trial a_this_search a_this_letters a_this_numbers a_this_thickest a_this_refusals g_this)), (a_this_thickest, .inl (cA, 12, .inl f_this_thickest))]) ⟨hx, hb, hml, hown, hts⟩ hK hP hD hS hA hE (c_X2_fallMonths l D cA ad a_this a_this_now a_this_then a_this_trial a_this_search a_this_letters a_this_numbers a_this_thickest a_this_refusals H.size g_this f_this_thickest p1 q3 hq3) (cwV 1 hts gX2_cost_X2_fallMonths rfl rfl rfl hv_X2_fallMonths ⟨Nat.le_of_ble_eq_true rfl, Nat.le_of_ble_eq_true rfl⟩) [0, 1] [] [0, 1] rfl rfl rfl rfl (by decide) rfl rfl 2 0 rfl rfl rfl rfl rfl hl.1 (Nat.le_of_ble_eq_true rfl) dX2_cost_16 ⟨Nat.zero_le _, Nat.zero_le _⟩ (fun H locs hP hD hS => ?_)
  refine lv_iload_n hx hb dX2_cost_19 rfl (lv_at hl 2 rfl) ?_
  refine lv_iand hx hb dX2_cost_20 ?_
  obtain ⟨q4, hq4, hf⟩ := rf_bindq hf
  refine rf_Si (As := [.int (q3 &&& p2)]) (rest := [.int p4, .int (p3 * q2)]) (wr := [(a_this, .inr (2, rf_o2 a_this_now a_this_then a_this_trial a_this_search a_this_letters a_this_numbers a_this_thickest a_this_refusals g_this)), (a_this_thickest, .inl (cA, 12, .inl f_this_thickest))]) (wn := [(a_this, .inr (2, rf_o2 a_this_now a_this_then a_this_trial a_this_search a_this_letters a_this_numbers a_this_thickest a_this_refusals g_this)), (a_this_thickest, .inl (cA, 12, .inl f_this_thickest))]) ⟨hx, hb, hml, hown, hts⟩ hK hP hD hS hA hE (c_J6_bitCount_0f7a4 l D cA ad H.size (q3 &&& p2) q4 hq4) (va_cwS 1 hts gX2_cost_J6_bitCount_0f7a4 rfl rfl rfl hs_J6_bitCount_0f7a4 ⟨Nat.le_of_ble_eq_true rfl, Nat.le_of_ble_eq_true rfl⟩) [] [0, 1] [0, 1] rfl rfl rfl rfl (by decide) rfl rfl rfl rfl hl.1 (Nat.le_of_ble_eq_true rfl) dX2_cost_21 ⟨Nat.zero_le _, Nat.zero_le _⟩ (fun H locs hP hD hS => ?_)
  refine lv_imul hx hb dX2_cost_24 ?_
  refine lv_iadd hx hb dX2_cost_25 ?_
  obtain rfl := Option.some.inj hf
  exact W.iret (v := ((p3 * q2) + (p4 * q4))) hx hb hr (fun t ht hW => ⟨⟨((p3 * q2) + (p4 * q4)), (), rfl, rfl, rf_mk ht hP hD⟩, hS.F ht⟩) hS.2.2 dX2_cost_26

set_option maxHeartbeats 8000000 in
set_option maxRecDepth 100000 in
theorem c_X2_bestSize (l : Launch) (D : va_G) (cA : ClassId) (ad : Nat → Nat) (a_this a_this_now a_this_then a_this_trial a_this_search a_this_letters a_this_numbers a_this_thickest a_this_refusals : Nat) (sz : Nat) (g_this f_this_thickest : Nat → Int32) (p1 p2 p3 : Int32) (q : Int32) (hf : f_X2_bestSize g_this f_this_thickest p1 p2 p3 = some q) : Met l yX2_bestSize wsX2_bestSize ({ frames := 3, cells := 0, slots := 0, locals := 68 } : Room) (va_Pc [.ref a_this, .int p1, .int p2, .int p3] (rf_Pre D cA ad [(a_this, .inr (2, rf_o2 a_this_now a_this_then a_this_trial a_this_search a_this_letters a_this_numbers a_this_thickest a_this_refusals g_this)), (a_this_thickest, .inl (cA, 12, .inl f_this_thickest))] sz)) (va_Qi (fun (r : Int32) (_ : Unit) => r = q) (fun _ t => rf_Post D (va_A [(a_this, .inr (2, rf_o2 a_this_now a_this_then a_this_trial a_this_search a_this_letters a_this_numbers a_this_thickest a_this_refusals g_this)), (a_this_thickest, .inl (cA, 12, .inl f_this_thickest))] sz) [(a_this, .inr (2, rf_o2 a_this_now a_this_then a_this_trial a_this_search a_this_letters a_this_numbers a_this_thickest a_this_refusals g_this)), (a_this_thickest, .inl (cA, 12, .inl f_this_thickest))] t) (va_A [(a_this, .inr (2, rf_o2 a_this_now a_this_then a_this_trial a_this_search a_this_letters a_this_numbers a_this_thickest a_this_refusals g_this)), (a_this_thickest, .inl (cA, 12, .inl f_this_thickest))] sz)) 0 0 (va_A [(a_this, .inr (2, rf_o2 a_this_now a_this_then a_this_trial a_this_search a_this_letters a_this_numbers a_this_thickest a_this_refusals g_this)), (a_this_thickest, .inl (cA, 12, .inl f_this_thickest))] sz) := by
  refine Met.ofW (cc := cX2_bestSize) (maxL := 8) (ret := (some .int)) (by decide) rfl ?_
  intro p e s m args below meth c s₁ B hml hv
  obtain ⟨rfl, hsz, hP, hK, hD0, hE⟩ := hv
  have hx := B.exec
  have hb := B.bytes
  have hr := B.returns
  have hts := atoms_spec (ws := wsX2_bestSize) B.pre
  have hown : s.vm.findClass RX2 = some m.cls := findClass_of_methodNamed B.named
  have hlocks := B.notSynchronized
  subst hsz
  have hD := hD0.self (sz := s.heap.size)
  generalize hAe : va_A [(a_this, .inr (2, rf_o2 a_this_now a_this_then a_this_trial a_this_search a_this_letters a_this_numbers a_this_thickest a_this_refusals g_this)), (a_this_thickest, .inl (cA, 12, .inl f_this_thickest))] s.heap.size = A at hD hE ⊢
  have hA : ∀ q : Nat, s.heap.size ≤ q → A q := fun q h => by rw [← hAe]; exact Or.inr h
  have hS : va_S A s.heap s.heap [] := va_S.rf
  have hP : va_P D vwCl [(a_this, .inr (2, rf_o2 a_this_now a_this_then a_this_trial a_this_search a_this_letters a_this_numbers a_this_thickest a_this_refusals g_this)), (a_this_thickest, .inl (cA, 12, .inl f_this_thickest))] s.heap := hP
  have hl := lv_entry ([.ref a_this, .int p1, .int p2, .int p3]) (n := 8) (Nat.le_of_ble_eq_true rfl)
  rw [lg_entry_eq]
  generalize (lg_sl ([.ref a_this, .int p1, .int p2, .int p3]) ++ List.replicate (8 - (lg_sl ([.ref a_this, .int p1, .int p2, .int p3])).length) Slot.unset).toArray = ls at hl ⊢
  have hl : lv_has ls 8 [(0, .ref a_this), (1, .int p1), (2, .int p2), (3, .int p3)] := hl
  have key_19 : ∀ (n : Nat) (x4 x5 x6 : Int32) (ql : Int32 × Int32 × Int32), f_X2_bestSize_L19 g_this f_this_thickest p1 p2 p3 n x4 x5 x6 = some ql → ∀ (H : Heap) (locs : List Loc) (ls : Array Slot), va_P D vwCl [(a_this, .inr (2, rf_o2 a_this_now a_this_then a_this_trial a_this_search a_this_letters a_this_numbers a_this_thickest a_this_refusals g_this)), (a_this_thickest, .inl (cA, 12, .inl f_this_thickest))] H → va_D A [(a_this, .inr (2, rf_o2 a_this_now a_this_then a_this_trial a_this_search a_this_letters a_this_numbers a_this_thickest a_this_refusals g_this)), (a_this_thickest, .inl (cA, 12, .inl f_this_thickest))] → va_S A s.heap H locs → lv_has ls 8 [(0, .ref a_this), (1, .int p1), (2, .int p2), (3, .int p3), (4, .int x4), (5, .int x5), (6, .int x6)] → (∀ (H : Heap) (locs : List Loc) (ls : Array Slot), va_P D vwCl [(a_this, .inr (2, rf_o2 a_this_now a_this_then a_this_trial a_this_search a_this_letters a_this_numbers a_this_thickest a_this_refusals g_this)), (a_this_thickest, .inl (cA, 12, .inl f_this_thickest))] H → va_D A [(a_this, .inr (2, rf_o2 a_this_now a_this_then a_this_trial a_this_search a_this_letters a_this_numbers a_this_thickest a_this_refusals g_this)), (a_this_thickest, .inl (cA, 12, .inl f_this_thickest))] → va_S A s.heap H locs → lv_has ls 8 [(0, .ref a_this), (1, .int p1), (2, .int p2), (3, .int p3), (4, .int ql.1), (5, .int ql.2.1), (6, .int ql.2.2)] → W p l e (headSpec wsX2_bestSize ({ frames := 3, cells := 0, slots := 0, locals := 68 } : Room)).room s m ([.ref a_this, .int p1, .int p2, .int p3] : List Value).toArray below meth c H locs 0 0 (MQ below (va_Qi (fun (r : Int32) (_ : Unit) => r = q) (fun _ t => rf_Post D A [(a_this, .inr (2, rf_o2 a_this_now a_this_then a_this_trial a_this_search a_this_letters a_this_numbers a_this_thickest a_this_refusals g_this)), (a_this_thickest, .inl (cA, 12, .inl f_this_thickest))] t) A) ([.ref a_this, .int p1, .int p2, .int p3] : List Value).toArray s 0 0 A) (F0 m 64 ls [])) → W p l e (headSpec wsX2_bestSize ({ frames := 3, cells := 0, slots := 0, locals := 68 } : Room)).room s m ([.ref a_this, .int p1, .int p2, .int p3] : List Value).toArray below meth c H locs 0 0 (MQ below (va_Qi (fun (r : Int32) (_ : Unit) => r = q) (fun _ t => rf_Post D A [(a_this, .inr (2, rf_o2 a_this_now a_this_then a_this_trial a_this_search a_this_letters a_this_numbers a_this_thickest a_this_refusals g_this)), (a_this_thickest, .inl (cA, 12, .inl f_this_thickest))] t) A) ([.ref a_this, .int p1, .int p2, .int p3] : List Value).toArray s 0 0 A) (F0 m 19 ls []) := by
    intro n
    induction n with
    | zero =>
      intro x4 x5 x6 ql hf H locs ls hP hD hS hl kx
      exact absurd (show (none : Option (Int32 × Int32 × Int32)) = some ql from hf) (fun h9 => by cases h9)
    | succ n ih =>
      intro x4 x5 x6 ql hf H locs ls hP hD hS hl kx
      rw [f_X2_bestSize_L19] at hf
      refine lv_iload hx hb dX2_bestSize_19 (lv_at hl 6 rfl) ?_
      refine lv_sipush (v := 250) hx hb dX2_bestSize_21 (by decide) ?_
      refine lv_icmp_gt (tgt := 64) hx hb dX2_bestSize_24 (by decide) (fun c1 => ?_) (fun c1 => ?_)
      · have hf := rf_ifp hf c1
        obtain rfl := Option.some.inj hf
        exact kx _ _ _ hP hD hS (lv_sub hl [0, 1, 2, 3, 4, 5, 6] rfl)
      · have hf := rf_ifn hf c1
        refine lv_iload hx hb dX2_bestSize_27 (lv_at hl 5 rfl) ?_
        refine lv_if_le (tgt := 64) hx hb dX2_bestSize_29 (by decide) (fun c2 => ?_) (fun c2 => ?_)
        · have hf := rf_ifp hf c2
          obtain rfl := Option.some.inj hf
          exact kx _ _ _ hP hD hS (lv_sub hl [0, 1, 2, 3, 4, 5, 6] rfl)
        · have hf := rf_ifn hf c2
          refine lv_aload_n hx hb dX2_bestSize_32 rfl (lv_at hl 0 rfl) ?_
          refine lv_iload hx hb dX2_bestSize_33 (lv_at hl 6 rfl) ?_
          refine lv_iload_n hx hb dX2_bestSize_35 rfl (lv_at hl 1 rfl) ?_
          refine lv_iload_n hx hb dX2_bestSize_36 rfl (lv_at hl 2 rfl) ?_
          refine lv_iload_n hx hb dX2_bestSize_37 rfl (lv_at hl 3 rfl) ?_
          obtain ⟨q3, hq3, hf⟩ := rf_bindq hf
          refine rf_Vi (As := [.int x6, .int p1, .int p2, .int p3]) (rest := []) (wr := []) (wn := [(a_this, .inr (2, rf_o2 a_this_now a_this_then a_this_trial a_this_search a_this_letters a_this_numbers a_this_thickest a_this_refusals g_this)), (a_this_thickest, .inl (cA, 12, .inl f_this_thickest))]) ⟨hx, hb, hml, hown, hts⟩ hK hP hD hS hA hE (c_X2_cost l D cA ad a_this a_this_now a_this_then a_this_trial a_this_search a_this_letters a_this_numbers a_this_thickest a_this_refusals H.size g_this f_this_thickest x6 p1 p2 p3 q3 hq3) (cwV 4 hts gX2_bestSize_X2_cost rfl rfl rfl hv_X2_cost ⟨Nat.le_of_ble_eq_true rfl, Nat.le_of_ble_eq_true rfl⟩) [0, 1] [] [0, 1] rfl rfl rfl rfl (by decide) rfl rfl 2 0 rfl rfl rfl rfl rfl hl.1 (Nat.le_of_ble_eq_true rfl) dX2_bestSize_38 ⟨Nat.zero_le _, Nat.zero_le _⟩ (fun H locs hP hD hS => ?_)
          refine lv_istore (lv' := [(7, .int q3), (0, .ref a_this), (1, .int p1), (2, .int p2), (3, .int p3), (4, .int x4), (5, .int x5), (6, .int x6)]) hx hb dX2_bestSize_41 hl (by decide) rfl (fun ls hl => ?_)
          refine lv_iload hx hb dX2_bestSize_43 (lv_at hl 0 rfl) ?_
          refine lv_iload hx hb dX2_bestSize_45 (lv_at hl 6 rfl) ?_
          refine lv_icmp_ge (tgt := 58) hx hb dX2_bestSize_47 (by decide) (fun c4 => ?_) (fun c4 => ?_)
          · have hf := rf_ifp hf c4
            obtain ⟨v5, ev5⟩ : ∃ y : Int32, y = x6 + 1 := ⟨_, rfl⟩
            have hf := rf_bindv hf ev5
            refine lv_iinc (v := v5) (lv' := [(6, .int v5), (7, .int q3), (0, .ref a_this), (1, .int p1), (2, .int p2), (3, .int p3), (4, .int x4), (5, .int x5)]) hx hb dX2_bestSize_58 hl (k := 7) rfl (by rw [ev5]; rfl) (by decide) rfl (fun ls hl => ?_)
            clear ev5
            refine lv_goto (tgt := 19) hx hb dX2_bestSize_61 (by decide) ?_
            exact ih x4 x5 v5 ql hf _ _ _ hP hD hS (lv_sub hl [2, 3, 4, 5, 6, 7, 0] rfl) kx
          · have hf := rf_ifn hf c4
            refine lv_iload hx hb dX2_bestSize_50 (lv_at hl 7 rfl) ?_
            refine lv_istore (lv' := [(4, .int x6), (7, .int q3), (0, .ref a_this), (1, .int p1), (2, .int p2), (3, .int p3), (5, .int x5), (6, .int x6)]) hx hb dX2_bestSize_52 hl (by decide) rfl (fun ls hl => ?_)
            refine lv_iload hx hb dX2_bestSize_54 (lv_at hl 1 rfl) ?_
            refine lv_istore (lv' := [(5, .int q3), (4, .int x6), (7, .int q3), (0, .ref a_this), (1, .int p1), (2, .int p2), (3, .int p3), (6, .int x6)]) hx hb dX2_bestSize_56 hl (by decide) rfl (fun ls hl => ?_)
            obtain ⟨v6, ev6⟩ : ∃ y : Int32, y = x6 + 1 := ⟨_, rfl⟩
            have hf := rf_bindv hf ev6
            refine lv_iinc (v := v6) (lv' := [(6, .int v6), (5, .int q3), (4, .int x6), (7, .int q3), (0, .ref a_this), (1, .int p1), (2, .int p2), (3, .int p3)]) hx hb dX2_bestSize_58 hl (k := 7) rfl (by rw [ev6]; rfl) (by decide) rfl (fun ls hl => ?_)
            clear ev6
            refine lv_goto (tgt := 19) hx hb dX2_bestSize_61 (by decide) ?_
            exact ih x6 q3 v6 ql hf _ _ _ hP hD hS (lv_sub hl [4, 5, 6, 7, 2, 1, 0] rfl) kx
  rw [f_X2_bestSize] at hf
  refine lv_bipush (v := 100) hx hb dX2_bestSize_0 (by decide) ?_
  refine lv_istore (lv' := [(4, .int 100), (0, .ref a_this), (1, .int p1), (2, .int p2), (3, .int p3)]) hx hb dX2_bestSize_2 hl (by decide) rfl (fun ls hl => ?_)
  refine lv_aload_n hx hb dX2_bestSize_4 rfl (lv_at hl 1 rfl) ?_
  refine lv_bipush (v := 100) hx hb dX2_bestSize_5 (by decide) ?_
  refine lv_iload_n hx hb dX2_bestSize_7 rfl (lv_at hl 2 rfl) ?_
  refine lv_iload_n hx hb dX2_bestSize_8 rfl (lv_at hl 3 rfl) ?_
  refine lv_iload_n hx hb dX2_bestSize_9 rfl (lv_at hl 4 rfl) ?_
  obtain ⟨q7, hq7, hf⟩ := rf_bindq hf
  refine rf_Vi (As := [.int 100, .int p1, .int p2, .int p3]) (rest := []) (wr := []) (wn := [(a_this, .inr (2, rf_o2 a_this_now a_this_then a_this_trial a_this_search a_this_letters a_this_numbers a_this_thickest a_this_refusals g_this)), (a_this_thickest, .inl (cA, 12, .inl f_this_thickest))]) ⟨hx, hb, hml, hown, hts⟩ hK hP hD hS hA hE (c_X2_cost l D cA ad a_this a_this_now a_this_then a_this_trial a_this_search a_this_letters a_this_numbers a_this_thickest a_this_refusals s.heap.size g_this f_this_thickest 100 p1 p2 p3 q7 hq7) (cwV 4 hts gX2_bestSize_X2_cost rfl rfl rfl hv_X2_cost ⟨Nat.le_of_ble_eq_true rfl, Nat.le_of_ble_eq_true rfl⟩) [0, 1] [] [0, 1] rfl rfl rfl rfl (by decide) rfl rfl 2 0 rfl rfl rfl rfl rfl hl.1 (Nat.le_of_ble_eq_true rfl) dX2_bestSize_10 ⟨Nat.zero_le _, Nat.zero_le _⟩ (fun H locs hP hD hS => ?_)
  refine lv_istore (lv' := [(5, .int q7), (4, .int 100), (0, .ref a_this), (1, .int p1), (2, .int p2), (3, .int p3)]) hx hb dX2_bestSize_13 hl (by decide) rfl (fun ls hl => ?_)
  refine lv_bipush (v := 101) hx hb dX2_bestSize_15 (by decide) ?_
  refine lv_istore (lv' := [(6, .int 101), (5, .int q7), (4, .int 100), (0, .ref a_this), (1, .int p1), (2, .int p2), (3, .int p3)]) hx hb dX2_bestSize_17 hl (by decide) rfl (fun ls hl => ?_)
  obtain ⟨q8, hq8, hf⟩ := rf_bindq hf
  refine key_19 rf_fu 100 q7 101 q8 hq8 _ _ _ hP hD hS (lv_sub hl [3, 4, 5, 6, 2, 1, 0] rfl) (fun H locs ls hP hD hS hl => ?_)
  refine lv_iload hx hb dX2_bestSize_64 (lv_at hl 4 rfl) ?_
  obtain rfl := Option.some.inj hf
  exact W.iret (v := q8.1) hx hb hr (fun t ht hW => ⟨⟨q8.1, (), rfl, rfl, rf_mk ht hP hD⟩, hS.F ht⟩) hS.2.2 dX2_bestSize_66

set_option maxHeartbeats 8000000 in
set_option maxRecDepth 100000 in
theorem c_X2_priceRange (l : Launch) (D : va_G) (cA : ClassId) (ad : Nat → Nat) (sz : Nat) (p0 p1 : Int32) (q : Int32) (hf : f_X2_priceRange p0 p1 = some q) : Met l yX2_priceRange wsX2_priceRange ({ frames := 0, cells := 0, slots := 0, locals := 0 } : Room) (va_Pc [.int p0, .int p1] (rf_Pre D cA ad [] sz)) (va_Qi (fun (r : Int32) (_ : Unit) => r = q) (fun _ t => rf_Post D (va_A [] sz) [] t) (va_A [] sz)) 0 0 (va_A [] sz) := by
  refine Met.ofW (cc := cX2_priceRange) (maxL := 2) (ret := (some .int)) (by decide) rfl ?_
  intro p e s m args below meth c s₁ B hml hv
  obtain ⟨rfl, hsz, hP, hK, hD0, hE⟩ := hv
  have hx := B.exec
  have hb := B.bytes
  have hr := B.returns
  have hts := atoms_spec (ws := wsX2_priceRange) B.pre
  have hown : s.vm.findClass RX2 = some m.cls := findClass_of_methodNamed B.named
  have hlocks := B.notSynchronized
  subst hsz
  have hD := hD0.self (sz := s.heap.size)
  generalize hAe : va_A [] s.heap.size = A at hD hE ⊢
  have hA : ∀ q : Nat, s.heap.size ≤ q → A q := fun q h => by rw [← hAe]; exact Or.inr h
  have hS : va_S A s.heap s.heap [] := va_S.rf
  have hP : va_P D vwCl [] s.heap := hP
  have hl := lv_entry ([.int p0, .int p1]) (n := 2) (Nat.le_of_ble_eq_true rfl)
  rw [lg_entry_eq]
  generalize (lg_sl ([.int p0, .int p1]) ++ List.replicate (2 - (lg_sl ([.int p0, .int p1])).length) Slot.unset).toArray = ls at hl ⊢
  have hl : lv_has ls 2 [(0, .int p0), (1, .int p1)] := hl
  rw [f_X2_priceRange] at hf
  refine lv_iload_n hx hb dX2_priceRange_0 rfl (lv_at hl 0 rfl) ?_
  refine lv_if_lt (tgt := 8) hx hb dX2_priceRange_1 (by decide) (fun c1 => ?_) (fun c1 => ?_)
  · have hf := rf_ifp hf c1
    refine lv_bipush (v := (-4)) hx hb dX2_priceRange_8 (by decide) ?_
    obtain rfl := Option.some.inj hf
    exact W.iret (v := (-4)) hx hb hr (fun t ht hW => ⟨⟨(-4), (), rfl, rfl, rf_mk ht hP hD⟩, hS.F ht⟩) hS.2.2 dX2_priceRange_10
  · have hf := rf_ifn hf c1
    refine lv_iload_n hx hb dX2_priceRange_4 rfl (lv_at hl 1 rfl) ?_
    refine lv_if_ge (tgt := 11) hx hb dX2_priceRange_5 (by decide) (fun c2 => ?_) (fun c2 => ?_)
    · have hf := rf_ifp hf c2
      refine lv_iload_n hx hb dX2_priceRange_11 rfl (lv_at hl 0 rfl) ?_
      refine lv_bipush (v := 99) hx hb dX2_priceRange_12 (by decide) ?_
      refine lv_icmp_gt (tgt := 23) hx hb dX2_priceRange_14 (by decide) (fun c3 => ?_) (fun c3 => ?_)
      · have hf := rf_ifp hf c3
        refine lv_bipush (v := (-6)) hx hb dX2_priceRange_23 (by decide) ?_
        refine lv_goto (tgt := 29) hx hb dX2_priceRange_25 (by decide) ?_
        obtain rfl := Option.some.inj hf
        exact W.iret (v := (-6)) hx hb hr (fun t ht hW => ⟨⟨(-6), (), rfl, rfl, rf_mk ht hP hD⟩, hS.F ht⟩) hS.2.2 dX2_priceRange_29
      · have hf := rf_ifn hf c3
        refine lv_iload_n hx hb dX2_priceRange_17 rfl (lv_at hl 1 rfl) ?_
        refine lv_bipush (v := 99) hx hb dX2_priceRange_18 (by decide) ?_
        refine lv_icmp_le (tgt := 28) hx hb dX2_priceRange_20 (by decide) (fun c4 => ?_) (fun c4 => ?_)
        · have hf := rf_ifp hf c4
          refine lv_iconst (v := 0) hx hb dX2_priceRange_28 (by decide) ?_
          obtain rfl := Option.some.inj hf
          exact W.iret (v := 0) hx hb hr (fun t ht hW => ⟨⟨0, (), rfl, rfl, rf_mk ht hP hD⟩, hS.F ht⟩) hS.2.2 dX2_priceRange_29
        · have hf := rf_ifn hf c4
          refine lv_bipush (v := (-6)) hx hb dX2_priceRange_23 (by decide) ?_
          refine lv_goto (tgt := 29) hx hb dX2_priceRange_25 (by decide) ?_
          obtain rfl := Option.some.inj hf
          exact W.iret (v := (-6)) hx hb hr (fun t ht hW => ⟨⟨(-6), (), rfl, rfl, rf_mk ht hP hD⟩, hS.F ht⟩) hS.2.2 dX2_priceRange_29
    · have hf := rf_ifn hf c2
      refine lv_bipush (v := (-4)) hx hb dX2_priceRange_8 (by decide) ?_
      obtain rfl := Option.some.inj hf
      exact W.iret (v := (-4)) hx hb hr (fun t ht hW => ⟨⟨(-4), (), rfl, rfl, rf_mk ht hP hD⟩, hS.F ht⟩) hS.2.2 dX2_priceRange_10
theorem kX2_year_0 : (.fieldLink RX2 46 "RingAndFinger" "numberCount" "I" : Cond) ∈ wsX2_year := by decide +kernel
theorem jX2_year_X2 : ∀ w ∈ u_ws RX2 TX2 12, w ∈ wsX2_year := by decide +kernel
set_option maxHeartbeats 8000000 in
set_option maxRecDepth 100000 in
theorem c_X2_year (l : Launch) (D : va_G) (cA : ClassId) (ad : Nat → Nat) (a_this a_this_now a_this_then a_this_trial a_this_search a_this_letters a_this_numbers a_this_thickest a_this_refusals a_this_now_kinds a_this_now_thicks a_this_trial_kinds a_this_trial_thicks : Nat) (sz : Nat) (g_this g_this_now f_this_now_kinds f_this_now_thicks g_this_trial f_this_trial_kinds f_this_trial_thicks f_this_numbers f_this_thickest f_this_refusals : Nat → Int32) (p1 p2 p3 : Int32) (q : Int32 × (Nat → Int32) × (Nat → Int32) × (Nat → Int32) × (Nat → Int32) × (Nat → Int32)) (hf : f_X2_year g_this g_this_now f_this_now_kinds f_this_now_thicks g_this_trial f_this_trial_kinds f_this_trial_thicks f_this_numbers f_this_thickest f_this_refusals p1 p2 p3 = some q) : Met l yX2_year wsX2_year ({ frames := 5, cells := 0, slots := 0, locals := 112 } : Room) (va_Pc [.ref a_this, .int p1, .int p2, .int p3] (rf_Pre D cA ad [(a_this, .inr (2, rf_o2 a_this_now a_this_then a_this_trial a_this_search a_this_letters a_this_numbers a_this_thickest a_this_refusals g_this)), (a_this_now, .inr (0, rf_o0 a_this_now_kinds a_this_now_thicks g_this_now)), (a_this_now_kinds, .inl (cA, 6, .inl f_this_now_kinds)), (a_this_now_thicks, .inl (cA, 6, .inl f_this_now_thicks)), (a_this_trial, .inr (0, rf_o0 a_this_trial_kinds a_this_trial_thicks g_this_trial)), (a_this_trial_kinds, .inl (cA, 6, .inl f_this_trial_kinds)), (a_this_trial_thicks, .inl (cA, 6, .inl f_this_trial_thicks)), (a_this_numbers, .inl (cA, 12, .inl f_this_numbers)), (a_this_thickest, .inl (cA, 12, .inl f_this_thickest)), (a_this_refusals, .inl (cA, 7, .inl f_this_refusals))] sz)) (va_Qi (fun (r : Int32) (_ : Unit) => r = q.1) (fun _ t => rf_Post D (va_A [(a_this, .inr (2, rf_o2 a_this_now a_this_then a_this_trial a_this_search a_this_letters a_this_numbers a_this_thickest a_this_refusals g_this)), (a_this_now, .inr (0, rf_o0 a_this_now_kinds a_this_now_thicks g_this_now)), (a_this_now_kinds, .inl (cA, 6, .inl f_this_now_kinds)), (a_this_now_thicks, .inl (cA, 6, .inl f_this_now_thicks)), (a_this_trial, .inr (0, rf_o0 a_this_trial_kinds a_this_trial_thicks g_this_trial)), (a_this_trial_kinds, .inl (cA, 6, .inl f_this_trial_kinds)), (a_this_trial_thicks, .inl (cA, 6, .inl f_this_trial_thicks)), (a_this_numbers, .inl (cA, 12, .inl f_this_numbers)), (a_this_thickest, .inl (cA, 12, .inl f_this_thickest)), (a_this_refusals, .inl (cA, 7, .inl f_this_refusals))] sz) [(a_this, .inr (2, rf_o2 a_this_now a_this_then a_this_trial a_this_search a_this_letters a_this_numbers a_this_thickest a_this_refusals g_this)), (a_this_now, .inr (0, rf_o0 a_this_now_kinds a_this_now_thicks g_this_now)), (a_this_now_kinds, .inl (cA, 6, .inl f_this_now_kinds)), (a_this_now_thicks, .inl (cA, 6, .inl f_this_now_thicks)), (a_this_trial, .inr (0, rf_o0 a_this_trial_kinds a_this_trial_thicks q.2.1)), (a_this_trial_kinds, .inl (cA, 6, .inl q.2.2.1)), (a_this_trial_thicks, .inl (cA, 6, .inl q.2.2.2.1)), (a_this_numbers, .inl (cA, 12, .inl f_this_numbers)), (a_this_thickest, .inl (cA, 12, .inl q.2.2.2.2.1)), (a_this_refusals, .inl (cA, 7, .inl q.2.2.2.2.2))] t) (va_A [(a_this, .inr (2, rf_o2 a_this_now a_this_then a_this_trial a_this_search a_this_letters a_this_numbers a_this_thickest a_this_refusals g_this)), (a_this_now, .inr (0, rf_o0 a_this_now_kinds a_this_now_thicks g_this_now)), (a_this_now_kinds, .inl (cA, 6, .inl f_this_now_kinds)), (a_this_now_thicks, .inl (cA, 6, .inl f_this_now_thicks)), (a_this_trial, .inr (0, rf_o0 a_this_trial_kinds a_this_trial_thicks g_this_trial)), (a_this_trial_kinds, .inl (cA, 6, .inl f_this_trial_kinds)), (a_this_trial_thicks, .inl (cA, 6, .inl f_this_trial_thicks)), (a_this_numbers, .inl (cA, 12, .inl f_this_numbers)), (a_this_thickest, .inl (cA, 12, .inl f_this_thickest)), (a_this_refusals, .inl (cA, 7, .inl f_this_refusals))] sz)) 0 0 (va_A [(a_this, .inr (2, rf_o2 a_this_now a_this_then a_this_trial a_this_search a_this_letters a_this_numbers a_this_thickest a_this_refusals g_this)), (a_this_now, .inr (0, rf_o0 a_this_now_kinds a_this_now_thicks g_this_now)), (a_this_now_kinds, .inl (cA, 6, .inl f_this_now_kinds)), (a_this_now_thicks, .inl (cA, 6, .inl f_this_now_thicks)), (a_this_trial, .inr (0, rf_o0 a_this_trial_kinds a_this_trial_thicks g_this_trial)), (a_this_trial_kinds, .inl (cA, 6, .inl f_this_trial_kinds)), (a_this_trial_thicks, .inl (cA, 6, .inl f_this_trial_thicks)), (a_this_numbers, .inl (cA, 12, .inl f_this_numbers)), (a_this_thickest, .inl (cA, 12, .inl f_this_thickest)), (a_this_refusals, .inl (cA, 7, .inl f_this_refusals))] sz) := by
  refine Met.ofW (cc := cX2_year) (maxL := 6) (ret := (some .int)) (by decide) rfl ?_
  intro p e s m args below meth c s₁ B hml hv
  obtain ⟨rfl, hsz, hP, hK, hD0, hE⟩ := hv
  have hx := B.exec
  have hb := B.bytes
  have hr := B.returns
  have hts := atoms_spec (ws := wsX2_year) B.pre
  have hown : s.vm.findClass RX2 = some m.cls := findClass_of_methodNamed B.named
  have hlocks := B.notSynchronized
  subst hsz
  have hD := hD0.self (sz := s.heap.size)
  generalize hAe : va_A [(a_this, .inr (2, rf_o2 a_this_now a_this_then a_this_trial a_this_search a_this_letters a_this_numbers a_this_thickest a_this_refusals g_this)), (a_this_now, .inr (0, rf_o0 a_this_now_kinds a_this_now_thicks g_this_now)), (a_this_now_kinds, .inl (cA, 6, .inl f_this_now_kinds)), (a_this_now_thicks, .inl (cA, 6, .inl f_this_now_thicks)), (a_this_trial, .inr (0, rf_o0 a_this_trial_kinds a_this_trial_thicks g_this_trial)), (a_this_trial_kinds, .inl (cA, 6, .inl f_this_trial_kinds)), (a_this_trial_thicks, .inl (cA, 6, .inl f_this_trial_thicks)), (a_this_numbers, .inl (cA, 12, .inl f_this_numbers)), (a_this_thickest, .inl (cA, 12, .inl f_this_thickest)), (a_this_refusals, .inl (cA, 7, .inl f_this_refusals))] s.heap.size = A at hD hE ⊢
  have hA : ∀ q : Nat, s.heap.size ≤ q → A q := fun q h => by rw [← hAe]; exact Or.inr h
  have hS : va_S A s.heap s.heap [] := va_S.rf
  have hP : va_P D vwCl [(a_this, .inr (2, rf_o2 a_this_now a_this_then a_this_trial a_this_search a_this_letters a_this_numbers a_this_thickest a_this_refusals g_this)), (a_this_now, .inr (0, rf_o0 a_this_now_kinds a_this_now_thicks g_this_now)), (a_this_now_kinds, .inl (cA, 6, .inl f_this_now_kinds)), (a_this_now_thicks, .inl (cA, 6, .inl f_this_now_thicks)), (a_this_trial, .inr (0, rf_o0 a_this_trial_kinds a_this_trial_thicks g_this_trial)), (a_this_trial_kinds, .inl (cA, 6, .inl f_this_trial_kinds)), (a_this_trial_thicks, .inl (cA, 6, .inl f_this_trial_thicks)), (a_this_numbers, .inl (cA, 12, .inl f_this_numbers)), (a_this_thickest, .inl (cA, 12, .inl f_this_thickest)), (a_this_refusals, .inl (cA, 7, .inl f_this_refusals))] s.heap := hP
  have hl := lv_entry ([.ref a_this, .int p1, .int p2, .int p3]) (n := 6) (Nat.le_of_ble_eq_true rfl)
  rw [lg_entry_eq]
  generalize (lg_sl ([.ref a_this, .int p1, .int p2, .int p3]) ++ List.replicate (6 - (lg_sl ([.ref a_this, .int p1, .int p2, .int p3])).length) Slot.unset).toArray = ls at hl ⊢
  have hl : lv_has ls 6 [(0, .ref a_this), (1, .int p1), (2, .int p2), (3, .int p3)] := hl
  rw [f_X2_year] at hf
  refine lv_iload_n hx hb dX2_year_0 rfl (lv_at hl 1 rfl) ?_
  refine lv_iload_n hx hb dX2_year_1 rfl (lv_at hl 2 rfl) ?_
  obtain ⟨q1, hq1, hf⟩ := rf_bindq hf
  refine rf_Si (As := [.int p1, .int p2]) (rest := []) (wr := [(a_this, .inr (2, rf_o2 a_this_now a_this_then a_this_trial a_this_search a_this_letters a_this_numbers a_this_thickest a_this_refusals g_this)), (a_this_now, .inr (0, rf_o0 a_this_now_kinds a_this_now_thicks g_this_now)), (a_this_now_kinds, .inl (cA, 6, .inl f_this_now_kinds)), (a_this_now_thicks, .inl (cA, 6, .inl f_this_now_thicks)), (a_this_trial, .inr (0, rf_o0 a_this_trial_kinds a_this_trial_thicks g_this_trial)), (a_this_trial_kinds, .inl (cA, 6, .inl f_this_trial_kinds)), (a_this_trial_thicks, .inl (cA, 6, .inl f_this_trial_thicks)), (a_this_numbers, .inl (cA, 12, .inl f_this_numbers)), (a_this_thickest, .inl (cA, 12, .inl f_this_thickest)), (a_this_refusals, .inl (cA, 7, .inl f_this_refusals))]) (wn := [(a_this, .inr (2, rf_o2 a_this_now a_this_then a_this_trial a_this_search a_this_letters a_this_numbers a_this_thickest a_this_refusals g_this)), (a_this_now, .inr (0, rf_o0 a_this_now_kinds a_this_now_thicks g_this_now)), (a_this_now_kinds, .inl (cA, 6, .inl f_this_now_kinds)), (a_this_now_thicks, .inl (cA, 6, .inl f_this_now_thicks)), (a_this_trial, .inr (0, rf_o0 a_this_trial_kinds a_this_trial_thicks g_this_trial)), (a_this_trial_kinds, .inl (cA, 6, .inl f_this_trial_kinds)), (a_this_trial_thicks, .inl (cA, 6, .inl f_this_trial_thicks)), (a_this_numbers, .inl (cA, 12, .inl f_this_numbers)), (a_this_thickest, .inl (cA, 12, .inl f_this_thickest)), (a_this_refusals, .inl (cA, 7, .inl f_this_refusals))]) ⟨hx, hb, hml, hown, hts⟩ hK hP hD hS hA hE (c_X2_priceRange l D cA ad s.heap.size p1 p2 q1 hq1) (va_cwS 2 hts gX2_year_X2_priceRange rfl rfl rfl hs_X2_priceRange ⟨Nat.le_of_ble_eq_true rfl, Nat.le_of_ble_eq_true rfl⟩) [] [0, 1, 2, 3, 4, 5, 6, 7, 8, 9] [0, 1, 2, 3, 4, 5, 6, 7, 8, 9] rfl rfl rfl rfl (by decide) rfl rfl rfl rfl hl.1 (Nat.le_of_ble_eq_true rfl) dX2_year_2 ⟨Nat.zero_le _, Nat.zero_le _⟩ (fun H locs hP hD hS => ?_)
  refine lv_istore (lv' := [(4, .int q1), (0, .ref a_this), (1, .int p1), (2, .int p2), (3, .int p3)]) hx hb dX2_year_5 hl (by decide) rfl (fun ls hl => ?_)
  refine lv_iload hx hb dX2_year_7 (lv_at hl 0 rfl) ?_
  refine lv_if_eq (tgt := 19) hx hb dX2_year_9 (by decide) (fun c2 => ?_) (fun c2 => ?_)
  · have hf := rf_ifp hf c2
    refine lv_iload_n hx hb dX2_year_19 rfl (lv_at hl 4 rfl) ?_
    obtain ⟨q3, hq3, hf⟩ := rf_bindq hf
    refine rf_Si (As := [.int p3]) (rest := []) (wr := [(a_this, .inr (2, rf_o2 a_this_now a_this_then a_this_trial a_this_search a_this_letters a_this_numbers a_this_thickest a_this_refusals g_this)), (a_this_now, .inr (0, rf_o0 a_this_now_kinds a_this_now_thicks g_this_now)), (a_this_now_kinds, .inl (cA, 6, .inl f_this_now_kinds)), (a_this_now_thicks, .inl (cA, 6, .inl f_this_now_thicks)), (a_this_trial, .inr (0, rf_o0 a_this_trial_kinds a_this_trial_thicks g_this_trial)), (a_this_trial_kinds, .inl (cA, 6, .inl f_this_trial_kinds)), (a_this_trial_thicks, .inl (cA, 6, .inl f_this_trial_thicks)), (a_this_numbers, .inl (cA, 12, .inl f_this_numbers)), (a_this_thickest, .inl (cA, 12, .inl f_this_thickest)), (a_this_refusals, .inl (cA, 7, .inl f_this_refusals))]) (wn := [(a_this, .inr (2, rf_o2 a_this_now a_this_then a_this_trial a_this_search a_this_letters a_this_numbers a_this_thickest a_this_refusals g_this)), (a_this_now, .inr (0, rf_o0 a_this_now_kinds a_this_now_thicks g_this_now)), (a_this_now_kinds, .inl (cA, 6, .inl f_this_now_kinds)), (a_this_now_thicks, .inl (cA, 6, .inl f_this_now_thicks)), (a_this_trial, .inr (0, rf_o0 a_this_trial_kinds a_this_trial_thicks g_this_trial)), (a_this_trial_kinds, .inl (cA, 6, .inl f_this_trial_kinds)), (a_this_trial_thicks, .inl (cA, 6, .inl f_this_trial_thicks)), (a_this_numbers, .inl (cA, 12, .inl f_this_numbers)), (a_this_thickest, .inl (cA, 12, .inl f_this_thickest)), (a_this_refusals, .inl (cA, 7, .inl f_this_refusals))]) ⟨hx, hb, hml, hown, hts⟩ hK hP hD hS hA hE (c_X2_isEither l D cA ad H.size p3 q3 hq3) (va_cwS 1 hts gX2_year_X2_isEither rfl rfl rfl hs_X2_isEither ⟨Nat.le_of_ble_eq_true rfl, Nat.le_of_ble_eq_true rfl⟩) [] [0, 1, 2, 3, 4, 5, 6, 7, 8, 9] [0, 1, 2, 3, 4, 5, 6, 7, 8, 9] rfl rfl rfl rfl (by decide) rfl rfl rfl rfl hl.1 (Nat.le_of_ble_eq_true rfl) dX2_year_20 ⟨Nat.zero_le _, Nat.zero_le _⟩ (fun H locs hP hD hS => ?_)
    refine lv_if_ne (tgt := 33) hx hb dX2_year_23 (by decide) (fun c4 => ?_) (fun c4 => ?_)
    · have hf := rf_ifn hf c4
      refine lv_aload_n hx hb dX2_year_33 rfl (lv_at hl 1 rfl) ?_
      refine va_get (D := D) (ci := 2) (v := .int (g_this 1)) (C := RX2) (T := TX2) (N := 12) hx hb hts jX2_year_X2 hown hK hP 0 rfl rfl 9 (by decide) (hts _ kX2_year_0) (fun _ h9 => h9) rfl dX2_year_34 ?_
      refine lv_bipush (v := 12) hx hb dX2_year_37 (by decide) ?_
      refine lv_icmp_eq (tgt := 49) hx hb dX2_year_39 (by decide) (fun c5 => ?_) (fun c5 => ?_)
      · have hf := rf_ifp hf c5
        refine lv_aload_n hx hb dX2_year_49 rfl (lv_at hl 1 rfl) ?_
        obtain ⟨q6, hq6, hf⟩ := rf_bindq hf
        refine rf_Vv (As := []) (rest := []) (wr := [(a_this_refusals, .inl (cA, 7, .inl f_this_refusals))]) (wn := [(a_this, .inr (2, rf_o2 a_this_now a_this_then a_this_trial a_this_search a_this_letters a_this_numbers a_this_thickest a_this_refusals g_this)), (a_this_now, .inr (0, rf_o0 a_this_now_kinds a_this_now_thicks g_this_now)), (a_this_now_kinds, .inl (cA, 6, .inl f_this_now_kinds)), (a_this_now_thicks, .inl (cA, 6, .inl f_this_now_thicks)), (a_this_trial, .inr (0, rf_o0 a_this_trial_kinds a_this_trial_thicks q6.1)), (a_this_trial_kinds, .inl (cA, 6, .inl q6.2.1)), (a_this_trial_thicks, .inl (cA, 6, .inl q6.2.2.1)), (a_this_numbers, .inl (cA, 12, .inl f_this_numbers)), (a_this_thickest, .inl (cA, 12, .inl q6.2.2.2)), (a_this_refusals, .inl (cA, 7, .inl f_this_refusals))]) ⟨hx, hb, hml, hown, hts⟩ hK hP hD hS hA hE (c_X2_measureMonths l D cA ad a_this a_this_now a_this_then a_this_trial a_this_search a_this_letters a_this_numbers a_this_thickest a_this_refusals a_this_now_kinds a_this_now_thicks a_this_trial_kinds a_this_trial_thicks H.size g_this g_this_now f_this_now_kinds f_this_now_thicks g_this_trial f_this_trial_kinds f_this_trial_thicks f_this_numbers f_this_thickest q6 hq6) (cwV 0 hts gX2_year_X2_measureMonths rfl rfl rfl hv_X2_measureMonths ⟨Nat.le_of_ble_eq_true rfl, Nat.le_of_ble_eq_true rfl⟩) [0, 1, 2, 3, 4, 5, 6, 7, 8] [9] [1, 2, 3, 4, 5, 6, 7, 8, 9, 0] rfl rfl rfl rfl (by decide) rfl rfl 2 0 rfl rfl rfl rfl rfl hl.1 (Nat.le_of_ble_eq_true rfl) dX2_year_50 ⟨Nat.zero_le _, Nat.zero_le _⟩ (fun H locs hP hD hS => ?_)
        refine lv_aload_n hx hb dX2_year_53 rfl (lv_at hl 1 rfl) ?_
        refine lv_sipush (v := 4095) hx hb dX2_year_54 (by decide) ?_
        refine lv_iload_n hx hb dX2_year_57 rfl (lv_at hl 2 rfl) ?_
        refine lv_iload_n hx hb dX2_year_58 rfl (lv_at hl 3 rfl) ?_
        obtain ⟨q7, hq7, hf⟩ := rf_bindq hf
        refine rf_Vi (As := [.int 4095, .int p1, .int p2]) (rest := []) (wr := [(a_this_now, .inr (0, rf_o0 a_this_now_kinds a_this_now_thicks g_this_now)), (a_this_now_kinds, .inl (cA, 6, .inl f_this_now_kinds)), (a_this_now_thicks, .inl (cA, 6, .inl f_this_now_thicks)), (a_this_trial, .inr (0, rf_o0 a_this_trial_kinds a_this_trial_thicks q6.1)), (a_this_trial_kinds, .inl (cA, 6, .inl q6.2.1)), (a_this_trial_thicks, .inl (cA, 6, .inl q6.2.2.1)), (a_this_numbers, .inl (cA, 12, .inl f_this_numbers)), (a_this_refusals, .inl (cA, 7, .inl f_this_refusals))]) (wn := [(a_this, .inr (2, rf_o2 a_this_now a_this_then a_this_trial a_this_search a_this_letters a_this_numbers a_this_thickest a_this_refusals g_this)), (a_this_now, .inr (0, rf_o0 a_this_now_kinds a_this_now_thicks g_this_now)), (a_this_now_kinds, .inl (cA, 6, .inl f_this_now_kinds)), (a_this_now_thicks, .inl (cA, 6, .inl f_this_now_thicks)), (a_this_trial, .inr (0, rf_o0 a_this_trial_kinds a_this_trial_thicks q6.1)), (a_this_trial_kinds, .inl (cA, 6, .inl q6.2.1)), (a_this_trial_thicks, .inl (cA, 6, .inl q6.2.2.1)), (a_this_numbers, .inl (cA, 12, .inl f_this_numbers)), (a_this_thickest, .inl (cA, 12, .inl q6.2.2.2)), (a_this_refusals, .inl (cA, 7, .inl f_this_refusals))]) ⟨hx, hb, hml, hown, hts⟩ hK hP hD hS hA hE (c_X2_bestSize l D cA ad a_this a_this_now a_this_then a_this_trial a_this_search a_this_letters a_this_numbers a_this_thickest a_this_refusals H.size g_this q6.2.2.2 4095 p1 p2 q7 hq7) (cwV 3 hts gX2_year_X2_bestSize rfl rfl rfl hv_X2_bestSize ⟨Nat.le_of_ble_eq_true rfl, Nat.le_of_ble_eq_true rfl⟩) [0, 8] [1, 2, 3, 4, 5, 6, 7, 9] [8, 0, 1, 2, 3, 4, 5, 6, 9, 7] rfl rfl rfl rfl (by decide) rfl rfl 2 0 rfl rfl rfl rfl rfl hl.1 (Nat.le_of_ble_eq_true rfl) dX2_year_59 ⟨Nat.zero_le _, Nat.zero_le _⟩ (fun H locs hP hD hS => ?_)
        refine lv_istore (lv' := [(5, .int q7), (4, .int q1), (0, .ref a_this), (1, .int p1), (2, .int p2), (3, .int p3)]) hx hb dX2_year_62 hl (by decide) rfl (fun ls hl => ?_)
        refine lv_iload_n hx hb dX2_year_64 rfl (lv_at hl 5 rfl) ?_
        refine lv_if_ne (tgt := 73) hx hb dX2_year_65 (by decide) (fun c8 => ?_) (fun c8 => ?_)
        · have hf := rf_ifn hf c8
          refine lv_aload_n hx hb dX2_year_73 rfl (lv_at hl 2 rfl) ?_
          refine lv_iload hx hb dX2_year_74 (lv_at hl 0 rfl) ?_
          refine lv_sipush (v := 4095) hx hb dX2_year_76 (by decide) ?_
          refine lv_iload_n hx hb dX2_year_79 rfl (lv_at hl 3 rfl) ?_
          refine lv_iload_n hx hb dX2_year_80 rfl (lv_at hl 4 rfl) ?_
          obtain ⟨q9, hq9, hf⟩ := rf_bindq hf
          refine rf_Vi (As := [.int q7, .int 4095, .int p1, .int p2]) (rest := []) (wr := [(a_this_now, .inr (0, rf_o0 a_this_now_kinds a_this_now_thicks g_this_now)), (a_this_now_kinds, .inl (cA, 6, .inl f_this_now_kinds)), (a_this_now_thicks, .inl (cA, 6, .inl f_this_now_thicks)), (a_this_trial, .inr (0, rf_o0 a_this_trial_kinds a_this_trial_thicks q6.1)), (a_this_trial_kinds, .inl (cA, 6, .inl q6.2.1)), (a_this_trial_thicks, .inl (cA, 6, .inl q6.2.2.1)), (a_this_numbers, .inl (cA, 12, .inl f_this_numbers)), (a_this_refusals, .inl (cA, 7, .inl f_this_refusals))]) (wn := [(a_this, .inr (2, rf_o2 a_this_now a_this_then a_this_trial a_this_search a_this_letters a_this_numbers a_this_thickest a_this_refusals g_this)), (a_this_now, .inr (0, rf_o0 a_this_now_kinds a_this_now_thicks g_this_now)), (a_this_now_kinds, .inl (cA, 6, .inl f_this_now_kinds)), (a_this_now_thicks, .inl (cA, 6, .inl f_this_now_thicks)), (a_this_trial, .inr (0, rf_o0 a_this_trial_kinds a_this_trial_thicks q6.1)), (a_this_trial_kinds, .inl (cA, 6, .inl q6.2.1)), (a_this_trial_thicks, .inl (cA, 6, .inl q6.2.2.1)), (a_this_numbers, .inl (cA, 12, .inl f_this_numbers)), (a_this_thickest, .inl (cA, 12, .inl q6.2.2.2)), (a_this_refusals, .inl (cA, 7, .inl f_this_refusals))]) ⟨hx, hb, hml, hown, hts⟩ hK hP hD hS hA hE (c_X2_cost l D cA ad a_this a_this_now a_this_then a_this_trial a_this_search a_this_letters a_this_numbers a_this_thickest a_this_refusals H.size g_this q6.2.2.2 q7 4095 p1 p2 q9 hq9) (cwV 4 hts gX2_year_X2_cost rfl rfl rfl hv_X2_cost ⟨Nat.le_of_ble_eq_true rfl, Nat.le_of_ble_eq_true rfl⟩) [0, 8] [1, 2, 3, 4, 5, 6, 7, 9] [8, 0, 1, 2, 3, 4, 5, 6, 9, 7] rfl rfl rfl rfl (by decide) rfl rfl 2 0 rfl rfl rfl rfl rfl hl.1 (Nat.le_of_ble_eq_true rfl) dX2_year_81 ⟨Nat.zero_le _, Nat.zero_le _⟩ (fun H locs hP hD hS => ?_)
          obtain rfl := Option.some.inj hf
          exact W.iret (v := q9) hx hb hr (fun t ht hW => ⟨⟨q9, (), rfl, rfl, rf_mk ht hP hD⟩, hS.F ht⟩) hS.2.2 dX2_year_84
        · have hf := rf_ifp hf c8
          refine lv_iload hx hb dX2_year_68 (lv_at hl 0 rfl) ?_
          refine lv_goto (tgt := 84) hx hb dX2_year_70 (by decide) ?_
          obtain rfl := Option.some.inj hf
          exact W.iret (v := q7) hx hb hr (fun t ht hW => ⟨⟨q7, (), rfl, rfl, rf_mk ht hP hD⟩, hS.F ht⟩) hS.2.2 dX2_year_84
      · have hf := rf_ifn hf c5
        refine lv_aload_n hx hb dX2_year_42 rfl (lv_at hl 1 rfl) ?_
        refine lv_bipush (v := (-3)) hx hb dX2_year_43 (by decide) ?_
        obtain ⟨q10, hq10, hf⟩ := rf_bindq hf
        refine rf_Vi (As := [.int (-3)]) (rest := []) (wr := [(a_this_now, .inr (0, rf_o0 a_this_now_kinds a_this_now_thicks g_this_now)), (a_this_now_kinds, .inl (cA, 6, .inl f_this_now_kinds)), (a_this_now_thicks, .inl (cA, 6, .inl f_this_now_thicks)), (a_this_trial, .inr (0, rf_o0 a_this_trial_kinds a_this_trial_thicks g_this_trial)), (a_this_trial_kinds, .inl (cA, 6, .inl f_this_trial_kinds)), (a_this_trial_thicks, .inl (cA, 6, .inl f_this_trial_thicks)), (a_this_numbers, .inl (cA, 12, .inl f_this_numbers)), (a_this_thickest, .inl (cA, 12, .inl f_this_thickest))]) (wn := [(a_this, .inr (2, rf_o2 a_this_now a_this_then a_this_trial a_this_search a_this_letters a_this_numbers a_this_thickest a_this_refusals g_this)), (a_this_now, .inr (0, rf_o0 a_this_now_kinds a_this_now_thicks g_this_now)), (a_this_now_kinds, .inl (cA, 6, .inl f_this_now_kinds)), (a_this_now_thicks, .inl (cA, 6, .inl f_this_now_thicks)), (a_this_trial, .inr (0, rf_o0 a_this_trial_kinds a_this_trial_thicks g_this_trial)), (a_this_trial_kinds, .inl (cA, 6, .inl f_this_trial_kinds)), (a_this_trial_thicks, .inl (cA, 6, .inl f_this_trial_thicks)), (a_this_numbers, .inl (cA, 12, .inl f_this_numbers)), (a_this_thickest, .inl (cA, 12, .inl f_this_thickest)), (a_this_refusals, .inl (cA, 7, .inl q10.2))]) ⟨hx, hb, hml, hown, hts⟩ hK hP hD hS hA hE (c_X2_refuse l D cA ad a_this a_this_now a_this_then a_this_trial a_this_search a_this_letters a_this_numbers a_this_thickest a_this_refusals H.size g_this f_this_refusals (-3) q10 hq10) (cwV 1 hts gX2_year_X2_refuse rfl rfl rfl hv_X2_refuse ⟨Nat.le_of_ble_eq_true rfl, Nat.le_of_ble_eq_true rfl⟩) [0, 9] [1, 2, 3, 4, 5, 6, 7, 8] [8, 0, 1, 2, 3, 4, 5, 6, 7, 9] rfl rfl rfl rfl (by decide) rfl rfl 2 0 rfl rfl rfl rfl rfl hl.1 (Nat.le_of_ble_eq_true rfl) dX2_year_45 ⟨Nat.zero_le _, Nat.zero_le _⟩ (fun H locs hP hD hS => ?_)
        obtain rfl := Option.some.inj hf
        exact W.iret (v := q10.1) hx hb hr (fun t ht hW => ⟨⟨q10.1, (), rfl, rfl, rf_mk ht hP hD⟩, hS.F ht⟩) hS.2.2 dX2_year_48
    · have hf := rf_ifp hf c4
      refine lv_aload_n hx hb dX2_year_26 rfl (lv_at hl 1 rfl) ?_
      refine lv_bipush (v := (-2)) hx hb dX2_year_27 (by decide) ?_
      obtain ⟨q11, hq11, hf⟩ := rf_bindq hf
      refine rf_Vi (As := [.int (-2)]) (rest := []) (wr := [(a_this_now, .inr (0, rf_o0 a_this_now_kinds a_this_now_thicks g_this_now)), (a_this_now_kinds, .inl (cA, 6, .inl f_this_now_kinds)), (a_this_now_thicks, .inl (cA, 6, .inl f_this_now_thicks)), (a_this_trial, .inr (0, rf_o0 a_this_trial_kinds a_this_trial_thicks g_this_trial)), (a_this_trial_kinds, .inl (cA, 6, .inl f_this_trial_kinds)), (a_this_trial_thicks, .inl (cA, 6, .inl f_this_trial_thicks)), (a_this_numbers, .inl (cA, 12, .inl f_this_numbers)), (a_this_thickest, .inl (cA, 12, .inl f_this_thickest))]) (wn := [(a_this, .inr (2, rf_o2 a_this_now a_this_then a_this_trial a_this_search a_this_letters a_this_numbers a_this_thickest a_this_refusals g_this)), (a_this_now, .inr (0, rf_o0 a_this_now_kinds a_this_now_thicks g_this_now)), (a_this_now_kinds, .inl (cA, 6, .inl f_this_now_kinds)), (a_this_now_thicks, .inl (cA, 6, .inl f_this_now_thicks)), (a_this_trial, .inr (0, rf_o0 a_this_trial_kinds a_this_trial_thicks g_this_trial)), (a_this_trial_kinds, .inl (cA, 6, .inl f_this_trial_kinds)), (a_this_trial_thicks, .inl (cA, 6, .inl f_this_trial_thicks)), (a_this_numbers, .inl (cA, 12, .inl f_this_numbers)), (a_this_thickest, .inl (cA, 12, .inl f_this_thickest)), (a_this_refusals, .inl (cA, 7, .inl q11.2))]) ⟨hx, hb, hml, hown, hts⟩ hK hP hD hS hA hE (c_X2_refuse l D cA ad a_this a_this_now a_this_then a_this_trial a_this_search a_this_letters a_this_numbers a_this_thickest a_this_refusals H.size g_this f_this_refusals (-2) q11 hq11) (cwV 1 hts gX2_year_X2_refuse rfl rfl rfl hv_X2_refuse ⟨Nat.le_of_ble_eq_true rfl, Nat.le_of_ble_eq_true rfl⟩) [0, 9] [1, 2, 3, 4, 5, 6, 7, 8] [8, 0, 1, 2, 3, 4, 5, 6, 7, 9] rfl rfl rfl rfl (by decide) rfl rfl 2 0 rfl rfl rfl rfl rfl hl.1 (Nat.le_of_ble_eq_true rfl) dX2_year_29 ⟨Nat.zero_le _, Nat.zero_le _⟩ (fun H locs hP hD hS => ?_)
      obtain rfl := Option.some.inj hf
      exact W.iret (v := q11.1) hx hb hr (fun t ht hW => ⟨⟨q11.1, (), rfl, rfl, rf_mk ht hP hD⟩, hS.F ht⟩) hS.2.2 dX2_year_32
  · have hf := rf_ifn hf c2
    refine lv_aload_n hx hb dX2_year_12 rfl (lv_at hl 1 rfl) ?_
    refine lv_iload hx hb dX2_year_13 (lv_at hl 0 rfl) ?_
    obtain ⟨q12, hq12, hf⟩ := rf_bindq hf
    refine rf_Vi (As := [.int q1]) (rest := []) (wr := [(a_this_now, .inr (0, rf_o0 a_this_now_kinds a_this_now_thicks g_this_now)), (a_this_now_kinds, .inl (cA, 6, .inl f_this_now_kinds)), (a_this_now_thicks, .inl (cA, 6, .inl f_this_now_thicks)), (a_this_trial, .inr (0, rf_o0 a_this_trial_kinds a_this_trial_thicks g_this_trial)), (a_this_trial_kinds, .inl (cA, 6, .inl f_this_trial_kinds)), (a_this_trial_thicks, .inl (cA, 6, .inl f_this_trial_thicks)), (a_this_numbers, .inl (cA, 12, .inl f_this_numbers)), (a_this_thickest, .inl (cA, 12, .inl f_this_thickest))]) (wn := [(a_this, .inr (2, rf_o2 a_this_now a_this_then a_this_trial a_this_search a_this_letters a_this_numbers a_this_thickest a_this_refusals g_this)), (a_this_now, .inr (0, rf_o0 a_this_now_kinds a_this_now_thicks g_this_now)), (a_this_now_kinds, .inl (cA, 6, .inl f_this_now_kinds)), (a_this_now_thicks, .inl (cA, 6, .inl f_this_now_thicks)), (a_this_trial, .inr (0, rf_o0 a_this_trial_kinds a_this_trial_thicks g_this_trial)), (a_this_trial_kinds, .inl (cA, 6, .inl f_this_trial_kinds)), (a_this_trial_thicks, .inl (cA, 6, .inl f_this_trial_thicks)), (a_this_numbers, .inl (cA, 12, .inl f_this_numbers)), (a_this_thickest, .inl (cA, 12, .inl f_this_thickest)), (a_this_refusals, .inl (cA, 7, .inl q12.2))]) ⟨hx, hb, hml, hown, hts⟩ hK hP hD hS hA hE (c_X2_refuse l D cA ad a_this a_this_now a_this_then a_this_trial a_this_search a_this_letters a_this_numbers a_this_thickest a_this_refusals H.size g_this f_this_refusals q1 q12 hq12) (cwV 1 hts gX2_year_X2_refuse rfl rfl rfl hv_X2_refuse ⟨Nat.le_of_ble_eq_true rfl, Nat.le_of_ble_eq_true rfl⟩) [0, 9] [1, 2, 3, 4, 5, 6, 7, 8] [8, 0, 1, 2, 3, 4, 5, 6, 7, 9] rfl rfl rfl rfl (by decide) rfl rfl 2 0 rfl rfl rfl rfl rfl hl.1 (Nat.le_of_ble_eq_true rfl) dX2_year_15 ⟨Nat.zero_le _, Nat.zero_le _⟩ (fun H locs hP hD hS => ?_)
    obtain rfl := Option.some.inj hf
    exact W.iret (v := q12.1) hx hb hr (fun t ht hW => ⟨⟨q12.1, (), rfl, rfl, rf_mk ht hP hD⟩, hS.F ht⟩) hS.2.2 dX2_year_18

set_option maxHeartbeats 8000000 in
set_option maxRecDepth 100000 in
theorem c_X2_monthSpan (l : Launch) (D : va_G) (cA : ClassId) (ad : Nat → Nat) (sz : Nat) (p0 p1 : Int32) (q : Int32) (hf : f_X2_monthSpan p0 p1 = some q) : Met l yX2_monthSpan wsX2_monthSpan ({ frames := 0, cells := 0, slots := 0, locals := 0 } : Room) (va_Pc [.int p0, .int p1] (rf_Pre D cA ad [] sz)) (va_Qi (fun (r : Int32) (_ : Unit) => r = q) (fun _ t => rf_Post D (va_A [] sz) [] t) (va_A [] sz)) 0 0 (va_A [] sz) := by
  refine Met.ofW (cc := cX2_monthSpan) (maxL := 2) (ret := (some .int)) (by decide) rfl ?_
  intro p e s m args below meth c s₁ B hml hv
  obtain ⟨rfl, hsz, hP, hK, hD0, hE⟩ := hv
  have hx := B.exec
  have hb := B.bytes
  have hr := B.returns
  have hts := atoms_spec (ws := wsX2_monthSpan) B.pre
  have hown : s.vm.findClass RX2 = some m.cls := findClass_of_methodNamed B.named
  have hlocks := B.notSynchronized
  subst hsz
  have hD := hD0.self (sz := s.heap.size)
  generalize hAe : va_A [] s.heap.size = A at hD hE ⊢
  have hA : ∀ q : Nat, s.heap.size ≤ q → A q := fun q h => by rw [← hAe]; exact Or.inr h
  have hS : va_S A s.heap s.heap [] := va_S.rf
  have hP : va_P D vwCl [] s.heap := hP
  have hl := lv_entry ([.int p0, .int p1]) (n := 2) (Nat.le_of_ble_eq_true rfl)
  rw [lg_entry_eq]
  generalize (lg_sl ([.int p0, .int p1]) ++ List.replicate (2 - (lg_sl ([.int p0, .int p1])).length) Slot.unset).toArray = ls at hl ⊢
  have hl : lv_has ls 2 [(0, .int p0), (1, .int p1)] := hl
  rw [f_X2_monthSpan] at hf
  refine lv_iconst (v := 1) hx hb dX2_monthSpan_0 (by decide) ?_
  refine lv_iload_n hx hb dX2_monthSpan_1 rfl (lv_at hl 1 rfl) ?_
  refine lv_ishl hx hb dX2_monthSpan_2 ?_
  refine lv_iconst (v := 1) hx hb dX2_monthSpan_3 (by decide) ?_
  refine lv_iload_n hx hb dX2_monthSpan_4 rfl (lv_at hl 0 rfl) ?_
  refine lv_ishl hx hb dX2_monthSpan_5 ?_
  refine lv_isub hx hb dX2_monthSpan_6 ?_
  obtain rfl := Option.some.inj hf
  exact W.iret (v := ((1 <<< (p1 &&& 31)) - (1 <<< (p0 &&& 31)))) hx hb hr (fun t ht hW => ⟨⟨((1 <<< (p1 &&& 31)) - (1 <<< (p0 &&& 31))), (), rfl, rfl, rf_mk ht hP hD⟩, hS.F ht⟩) hS.2.2 dX2_monthSpan_7

set_option maxHeartbeats 8000000 in
set_option maxRecDepth 100000 in
theorem c_X2_spanRange (l : Launch) (D : va_G) (cA : ClassId) (ad : Nat → Nat) (sz : Nat) (p0 p1 p2 p3 : Int32) (q : Int32) (hf : f_X2_spanRange p0 p1 p2 p3 = some q) : Met l yX2_spanRange wsX2_spanRange ({ frames := 1, cells := 0, slots := 0, locals := 21 } : Room) (va_Pc [.int p0, .int p1, .int p2, .int p3] (rf_Pre D cA ad [] sz)) (va_Qi (fun (r : Int32) (_ : Unit) => r = q) (fun _ t => rf_Post D (va_A [] sz) [] t) (va_A [] sz)) 0 0 (va_A [] sz) := by
  refine Met.ofW (cc := cX2_spanRange) (maxL := 4) (ret := (some .int)) (by decide) rfl ?_
  intro p e s m args below meth c s₁ B hml hv
  obtain ⟨rfl, hsz, hP, hK, hD0, hE⟩ := hv
  have hx := B.exec
  have hb := B.bytes
  have hr := B.returns
  have hts := atoms_spec (ws := wsX2_spanRange) B.pre
  have hown : s.vm.findClass RX2 = some m.cls := findClass_of_methodNamed B.named
  have hlocks := B.notSynchronized
  subst hsz
  have hD := hD0.self (sz := s.heap.size)
  generalize hAe : va_A [] s.heap.size = A at hD hE ⊢
  have hA : ∀ q : Nat, s.heap.size ≤ q → A q := fun q h => by rw [← hAe]; exact Or.inr h
  have hS : va_S A s.heap s.heap [] := va_S.rf
  have hP : va_P D vwCl [] s.heap := hP
  have hl := lv_entry ([.int p0, .int p1, .int p2, .int p3]) (n := 4) (Nat.le_of_ble_eq_true rfl)
  rw [lg_entry_eq]
  generalize (lg_sl ([.int p0, .int p1, .int p2, .int p3]) ++ List.replicate (4 - (lg_sl ([.int p0, .int p1, .int p2, .int p3])).length) Slot.unset).toArray = ls at hl ⊢
  have hl : lv_has ls 4 [(0, .int p0), (1, .int p1), (2, .int p2), (3, .int p3)] := hl
  rw [f_X2_spanRange] at hf
  refine lv_iload_n hx hb dX2_spanRange_0 rfl (lv_at hl 0 rfl) ?_
  refine lv_if_lt (tgt := 16) hx hb dX2_spanRange_1 (by decide) (fun c1 => ?_) (fun c1 => ?_)
  · have hf := rf_ifp hf c1
    refine lv_bipush (v := (-4)) hx hb dX2_spanRange_16 (by decide) ?_
    obtain rfl := Option.some.inj hf
    exact W.iret (v := (-4)) hx hb hr (fun t ht hW => ⟨⟨(-4), (), rfl, rfl, rf_mk ht hP hD⟩, hS.F ht⟩) hS.2.2 dX2_spanRange_18
  · have hf := rf_ifn hf c1
    refine lv_iload_n hx hb dX2_spanRange_4 rfl (lv_at hl 1 rfl) ?_
    refine lv_if_lt (tgt := 16) hx hb dX2_spanRange_5 (by decide) (fun c2 => ?_) (fun c2 => ?_)
    · have hf := rf_ifp hf c2
      refine lv_bipush (v := (-4)) hx hb dX2_spanRange_16 (by decide) ?_
      obtain rfl := Option.some.inj hf
      exact W.iret (v := (-4)) hx hb hr (fun t ht hW => ⟨⟨(-4), (), rfl, rfl, rf_mk ht hP hD⟩, hS.F ht⟩) hS.2.2 dX2_spanRange_18
    · have hf := rf_ifn hf c2
      refine lv_iload_n hx hb dX2_spanRange_8 rfl (lv_at hl 2 rfl) ?_
      refine lv_if_lt (tgt := 16) hx hb dX2_spanRange_9 (by decide) (fun c3 => ?_) (fun c3 => ?_)
      · have hf := rf_ifp hf c3
        refine lv_bipush (v := (-4)) hx hb dX2_spanRange_16 (by decide) ?_
        obtain rfl := Option.some.inj hf
        exact W.iret (v := (-4)) hx hb hr (fun t ht hW => ⟨⟨(-4), (), rfl, rfl, rf_mk ht hP hD⟩, hS.F ht⟩) hS.2.2 dX2_spanRange_18
      · have hf := rf_ifn hf c3
        refine lv_iload_n hx hb dX2_spanRange_12 rfl (lv_at hl 3 rfl) ?_
        refine lv_if_ge (tgt := 19) hx hb dX2_spanRange_13 (by decide) (fun c4 => ?_) (fun c4 => ?_)
        · have hf := rf_ifp hf c4
          refine lv_iload_n hx hb dX2_spanRange_19 rfl (lv_at hl 1 rfl) ?_
          refine lv_bipush (v := 12) hx hb dX2_spanRange_20 (by decide) ?_
          refine lv_icmp_gt (tgt := 30) hx hb dX2_spanRange_22 (by decide) (fun c5 => ?_) (fun c5 => ?_)
          · have hf := rf_ifp hf c5
            refine lv_bipush (v := (-6)) hx hb dX2_spanRange_30 (by decide) ?_
            refine lv_goto (tgt := 40) hx hb dX2_spanRange_32 (by decide) ?_
            obtain rfl := Option.some.inj hf
            exact W.iret (v := (-6)) hx hb hr (fun t ht hW => ⟨⟨(-6), (), rfl, rfl, rf_mk ht hP hD⟩, hS.F ht⟩) hS.2.2 dX2_spanRange_40
          · have hf := rf_ifn hf c5
            refine lv_iload_n hx hb dX2_spanRange_25 rfl (lv_at hl 0 rfl) ?_
            refine lv_iload_n hx hb dX2_spanRange_26 rfl (lv_at hl 1 rfl) ?_
            refine lv_icmp_le (tgt := 35) hx hb dX2_spanRange_27 (by decide) (fun c6 => ?_) (fun c6 => ?_)
            · have hf := rf_ifp hf c6
              refine lv_iload_n hx hb dX2_spanRange_35 rfl (lv_at hl 2 rfl) ?_
              refine lv_iload_n hx hb dX2_spanRange_36 rfl (lv_at hl 3 rfl) ?_
              obtain ⟨q7, hq7, hf⟩ := rf_bindq hf
              refine rf_Si (As := [.int p2, .int p3]) (rest := []) (wr := []) (wn := []) ⟨hx, hb, hml, hown, hts⟩ hK hP hD hS hA hE (c_X2_priceRange l D cA ad s.heap.size p2 p3 q7 hq7) (va_cwS 2 hts gX2_spanRange_X2_priceRange rfl rfl rfl hs_X2_priceRange ⟨Nat.le_of_ble_eq_true rfl, Nat.le_of_ble_eq_true rfl⟩) [] [] [] rfl rfl rfl rfl (by decide) rfl rfl rfl rfl hl.1 (Nat.le_of_ble_eq_true rfl) dX2_spanRange_37 ⟨Nat.zero_le _, Nat.zero_le _⟩ (fun H locs hP hD hS => ?_)
              obtain rfl := Option.some.inj hf
              exact W.iret (v := q7) hx hb hr (fun t ht hW => ⟨⟨q7, (), rfl, rfl, rf_mk ht hP hD⟩, hS.F ht⟩) hS.2.2 dX2_spanRange_40
            · have hf := rf_ifn hf c6
              refine lv_bipush (v := (-6)) hx hb dX2_spanRange_30 (by decide) ?_
              refine lv_goto (tgt := 40) hx hb dX2_spanRange_32 (by decide) ?_
              obtain rfl := Option.some.inj hf
              exact W.iret (v := (-6)) hx hb hr (fun t ht hW => ⟨⟨(-6), (), rfl, rfl, rf_mk ht hP hD⟩, hS.F ht⟩) hS.2.2 dX2_spanRange_40
        · have hf := rf_ifn hf c4
          refine lv_bipush (v := (-4)) hx hb dX2_spanRange_16 (by decide) ?_
          obtain rfl := Option.some.inj hf
          exact W.iret (v := (-4)) hx hb hr (fun t ht hW => ⟨⟨(-4), (), rfl, rfl, rf_mk ht hP hD⟩, hS.F ht⟩) hS.2.2 dX2_spanRange_18

set_option maxHeartbeats 8000000 in
set_option maxRecDepth 100000 in
theorem c_X2_leastCost (l : Launch) (D : va_G) (cA : ClassId) (ad : Nat → Nat) (a_this a_this_now a_this_then a_this_trial a_this_search a_this_letters a_this_numbers a_this_thickest a_this_refusals : Nat) (sz : Nat) (g_this f_this_thickest : Nat → Int32) (p1 p2 p3 : Int32) (q : Int32) (hf : f_X2_leastCost g_this f_this_thickest p1 p2 p3 = some q) : Met l yX2_leastCost wsX2_leastCost ({ frames := 4, cells := 0, slots := 0, locals := 95 } : Room) (va_Pc [.ref a_this, .int p1, .int p2, .int p3] (rf_Pre D cA ad [(a_this, .inr (2, rf_o2 a_this_now a_this_then a_this_trial a_this_search a_this_letters a_this_numbers a_this_thickest a_this_refusals g_this)), (a_this_thickest, .inl (cA, 12, .inl f_this_thickest))] sz)) (va_Qi (fun (r : Int32) (_ : Unit) => r = q) (fun _ t => rf_Post D (va_A [(a_this, .inr (2, rf_o2 a_this_now a_this_then a_this_trial a_this_search a_this_letters a_this_numbers a_this_thickest a_this_refusals g_this)), (a_this_thickest, .inl (cA, 12, .inl f_this_thickest))] sz) [(a_this, .inr (2, rf_o2 a_this_now a_this_then a_this_trial a_this_search a_this_letters a_this_numbers a_this_thickest a_this_refusals g_this)), (a_this_thickest, .inl (cA, 12, .inl f_this_thickest))] t) (va_A [(a_this, .inr (2, rf_o2 a_this_now a_this_then a_this_trial a_this_search a_this_letters a_this_numbers a_this_thickest a_this_refusals g_this)), (a_this_thickest, .inl (cA, 12, .inl f_this_thickest))] sz)) 0 0 (va_A [(a_this, .inr (2, rf_o2 a_this_now a_this_then a_this_trial a_this_search a_this_letters a_this_numbers a_this_thickest a_this_refusals g_this)), (a_this_thickest, .inl (cA, 12, .inl f_this_thickest))] sz) := by
  refine Met.ofW (cc := cX2_leastCost) (maxL := 4) (ret := (some .int)) (by decide) rfl ?_
  intro p e s m args below meth c s₁ B hml hv
  obtain ⟨rfl, hsz, hP, hK, hD0, hE⟩ := hv
  have hx := B.exec
  have hb := B.bytes
  have hr := B.returns
  have hts := atoms_spec (ws := wsX2_leastCost) B.pre
  have hown : s.vm.findClass RX2 = some m.cls := findClass_of_methodNamed B.named
  have hlocks := B.notSynchronized
  subst hsz
  have hD := hD0.self (sz := s.heap.size)
  generalize hAe : va_A [(a_this, .inr (2, rf_o2 a_this_now a_this_then a_this_trial a_this_search a_this_letters a_this_numbers a_this_thickest a_this_refusals g_this)), (a_this_thickest, .inl (cA, 12, .inl f_this_thickest))] s.heap.size = A at hD hE ⊢
  have hA : ∀ q : Nat, s.heap.size ≤ q → A q := fun q h => by rw [← hAe]; exact Or.inr h
  have hS : va_S A s.heap s.heap [] := va_S.rf
  have hP : va_P D vwCl [(a_this, .inr (2, rf_o2 a_this_now a_this_then a_this_trial a_this_search a_this_letters a_this_numbers a_this_thickest a_this_refusals g_this)), (a_this_thickest, .inl (cA, 12, .inl f_this_thickest))] s.heap := hP
  have hl := lv_entry ([.ref a_this, .int p1, .int p2, .int p3]) (n := 4) (Nat.le_of_ble_eq_true rfl)
  rw [lg_entry_eq]
  generalize (lg_sl ([.ref a_this, .int p1, .int p2, .int p3]) ++ List.replicate (4 - (lg_sl ([.ref a_this, .int p1, .int p2, .int p3])).length) Slot.unset).toArray = ls at hl ⊢
  have hl : lv_has ls 4 [(0, .ref a_this), (1, .int p1), (2, .int p2), (3, .int p3)] := hl
  rw [f_X2_leastCost] at hf
  refine lv_aload_n hx hb dX2_leastCost_0 rfl (lv_at hl 0 rfl) ?_
  refine lv_aload_n hx hb dX2_leastCost_1 rfl (lv_at hl 0 rfl) ?_
  refine lv_iload_n hx hb dX2_leastCost_2 rfl (lv_at hl 1 rfl) ?_
  refine lv_iload_n hx hb dX2_leastCost_3 rfl (lv_at hl 2 rfl) ?_
  refine lv_iload_n hx hb dX2_leastCost_4 rfl (lv_at hl 3 rfl) ?_
  obtain ⟨q1, hq1, hf⟩ := rf_bindq hf
  refine rf_Vi (As := [.int p1, .int p2, .int p3]) (rest := [.ref a_this]) (wr := []) (wn := [(a_this, .inr (2, rf_o2 a_this_now a_this_then a_this_trial a_this_search a_this_letters a_this_numbers a_this_thickest a_this_refusals g_this)), (a_this_thickest, .inl (cA, 12, .inl f_this_thickest))]) ⟨hx, hb, hml, hown, hts⟩ hK hP hD hS hA hE (c_X2_bestSize l D cA ad a_this a_this_now a_this_then a_this_trial a_this_search a_this_letters a_this_numbers a_this_thickest a_this_refusals s.heap.size g_this f_this_thickest p1 p2 p3 q1 hq1) (cwV 3 hts gX2_leastCost_X2_bestSize rfl rfl rfl hv_X2_bestSize ⟨Nat.le_of_ble_eq_true rfl, Nat.le_of_ble_eq_true rfl⟩) [0, 1] [] [0, 1] rfl rfl rfl rfl (by decide) rfl rfl 2 0 rfl rfl rfl rfl rfl hl.1 (Nat.le_of_ble_eq_true rfl) dX2_leastCost_5 ⟨Nat.zero_le _, Nat.zero_le _⟩ (fun H locs hP hD hS => ?_)
  refine lv_iload_n hx hb dX2_leastCost_8 rfl (lv_at hl 1 rfl) ?_
  refine lv_iload_n hx hb dX2_leastCost_9 rfl (lv_at hl 2 rfl) ?_
  refine lv_iload_n hx hb dX2_leastCost_10 rfl (lv_at hl 3 rfl) ?_
  obtain ⟨q2, hq2, hf⟩ := rf_bindq hf
  refine rf_Vi (As := [.int q1, .int p1, .int p2, .int p3]) (rest := []) (wr := []) (wn := [(a_this, .inr (2, rf_o2 a_this_now a_this_then a_this_trial a_this_search a_this_letters a_this_numbers a_this_thickest a_this_refusals g_this)), (a_this_thickest, .inl (cA, 12, .inl f_this_thickest))]) ⟨hx, hb, hml, hown, hts⟩ hK hP hD hS hA hE (c_X2_cost l D cA ad a_this a_this_now a_this_then a_this_trial a_this_search a_this_letters a_this_numbers a_this_thickest a_this_refusals H.size g_this f_this_thickest q1 p1 p2 p3 q2 hq2) (cwV 4 hts gX2_leastCost_X2_cost rfl rfl rfl hv_X2_cost ⟨Nat.le_of_ble_eq_true rfl, Nat.le_of_ble_eq_true rfl⟩) [0, 1] [] [0, 1] rfl rfl rfl rfl (by decide) rfl rfl 2 0 rfl rfl rfl rfl rfl hl.1 (Nat.le_of_ble_eq_true rfl) dX2_leastCost_11 ⟨Nat.zero_le _, Nat.zero_le _⟩ (fun H locs hP hD hS => ?_)
  obtain rfl := Option.some.inj hf
  exact W.iret (v := q2) hx hb hr (fun t ht hW => ⟨⟨q2, (), rfl, rfl, rf_mk ht hP hD⟩, hS.F ht⟩) hS.2.2 dX2_leastCost_14

set_option maxHeartbeats 8000000 in
set_option maxRecDepth 100000 in
theorem c_X2_twoCost (l : Launch) (D : va_G) (cA : ClassId) (ad : Nat → Nat) (a_this a_this_now a_this_then a_this_trial a_this_search a_this_letters a_this_numbers a_this_thickest a_this_refusals : Nat) (sz : Nat) (g_this f_this_thickest : Nat → Int32) (p1 p2 p3 : Int32) (q : Int32) (hf : f_X2_twoCost g_this f_this_thickest p1 p2 p3 = some q) : Met l yX2_twoCost wsX2_twoCost ({ frames := 5, cells := 0, slots := 0, locals := 118 } : Room) (va_Pc [.ref a_this, .int p1, .int p2, .int p3] (rf_Pre D cA ad [(a_this, .inr (2, rf_o2 a_this_now a_this_then a_this_trial a_this_search a_this_letters a_this_numbers a_this_thickest a_this_refusals g_this)), (a_this_thickest, .inl (cA, 12, .inl f_this_thickest))] sz)) (va_Qi (fun (r : Int32) (_ : Unit) => r = q) (fun _ t => rf_Post D (va_A [(a_this, .inr (2, rf_o2 a_this_now a_this_then a_this_trial a_this_search a_this_letters a_this_numbers a_this_thickest a_this_refusals g_this)), (a_this_thickest, .inl (cA, 12, .inl f_this_thickest))] sz) [(a_this, .inr (2, rf_o2 a_this_now a_this_then a_this_trial a_this_search a_this_letters a_this_numbers a_this_thickest a_this_refusals g_this)), (a_this_thickest, .inl (cA, 12, .inl f_this_thickest))] t) (va_A [(a_this, .inr (2, rf_o2 a_this_now a_this_then a_this_trial a_this_search a_this_letters a_this_numbers a_this_thickest a_this_refusals g_this)), (a_this_thickest, .inl (cA, 12, .inl f_this_thickest))] sz)) 0 0 (va_A [(a_this, .inr (2, rf_o2 a_this_now a_this_then a_this_trial a_this_search a_this_letters a_this_numbers a_this_thickest a_this_refusals g_this)), (a_this_thickest, .inl (cA, 12, .inl f_this_thickest))] sz) := by
  refine Met.ofW (cc := cX2_twoCost) (maxL := 4) (ret := (some .int)) (by decide) rfl ?_
  intro p e s m args below meth c s₁ B hml hv
  obtain ⟨rfl, hsz, hP, hK, hD0, hE⟩ := hv
  have hx := B.exec
  have hb := B.bytes
  have hr := B.returns
  have hts := atoms_spec (ws := wsX2_twoCost) B.pre
  have hown : s.vm.findClass RX2 = some m.cls := findClass_of_methodNamed B.named
  have hlocks := B.notSynchronized
  subst hsz
  have hD := hD0.self (sz := s.heap.size)
  generalize hAe : va_A [(a_this, .inr (2, rf_o2 a_this_now a_this_then a_this_trial a_this_search a_this_letters a_this_numbers a_this_thickest a_this_refusals g_this)), (a_this_thickest, .inl (cA, 12, .inl f_this_thickest))] s.heap.size = A at hD hE ⊢
  have hA : ∀ q : Nat, s.heap.size ≤ q → A q := fun q h => by rw [← hAe]; exact Or.inr h
  have hS : va_S A s.heap s.heap [] := va_S.rf
  have hP : va_P D vwCl [(a_this, .inr (2, rf_o2 a_this_now a_this_then a_this_trial a_this_search a_this_letters a_this_numbers a_this_thickest a_this_refusals g_this)), (a_this_thickest, .inl (cA, 12, .inl f_this_thickest))] s.heap := hP
  have hl := lv_entry ([.ref a_this, .int p1, .int p2, .int p3]) (n := 4) (Nat.le_of_ble_eq_true rfl)
  rw [lg_entry_eq]
  generalize (lg_sl ([.ref a_this, .int p1, .int p2, .int p3]) ++ List.replicate (4 - (lg_sl ([.ref a_this, .int p1, .int p2, .int p3])).length) Slot.unset).toArray = ls at hl ⊢
  have hl : lv_has ls 4 [(0, .ref a_this), (1, .int p1), (2, .int p2), (3, .int p3)] := hl
  rw [f_X2_twoCost] at hf
  refine lv_aload_n hx hb dX2_twoCost_0 rfl (lv_at hl 0 rfl) ?_
  refine lv_iload_n hx hb dX2_twoCost_1 rfl (lv_at hl 1 rfl) ?_
  refine lv_iload_n hx hb dX2_twoCost_2 rfl (lv_at hl 2 rfl) ?_
  refine lv_iload_n hx hb dX2_twoCost_3 rfl (lv_at hl 3 rfl) ?_
  obtain ⟨q1, hq1, hf⟩ := rf_bindq hf
  refine rf_Vi (As := [.int p1, .int p2, .int p3]) (rest := []) (wr := []) (wn := [(a_this, .inr (2, rf_o2 a_this_now a_this_then a_this_trial a_this_search a_this_letters a_this_numbers a_this_thickest a_this_refusals g_this)), (a_this_thickest, .inl (cA, 12, .inl f_this_thickest))]) ⟨hx, hb, hml, hown, hts⟩ hK hP hD hS hA hE (c_X2_leastCost l D cA ad a_this a_this_now a_this_then a_this_trial a_this_search a_this_letters a_this_numbers a_this_thickest a_this_refusals s.heap.size g_this f_this_thickest p1 p2 p3 q1 hq1) (cwV 3 hts gX2_twoCost_X2_leastCost rfl rfl rfl hv_X2_leastCost ⟨Nat.le_of_ble_eq_true rfl, Nat.le_of_ble_eq_true rfl⟩) [0, 1] [] [0, 1] rfl rfl rfl rfl (by decide) rfl rfl 2 0 rfl rfl rfl rfl rfl hl.1 (Nat.le_of_ble_eq_true rfl) dX2_twoCost_4 ⟨Nat.zero_le _, Nat.zero_le _⟩ (fun H locs hP hD hS => ?_)
  refine lv_aload_n hx hb dX2_twoCost_7 rfl (lv_at hl 0 rfl) ?_
  refine lv_sipush (v := 4095) hx hb dX2_twoCost_8 (by decide) ?_
  refine lv_iload_n hx hb dX2_twoCost_11 rfl (lv_at hl 1 rfl) ?_
  refine lv_isub hx hb dX2_twoCost_12 ?_
  refine lv_iload_n hx hb dX2_twoCost_13 rfl (lv_at hl 2 rfl) ?_
  refine lv_iload_n hx hb dX2_twoCost_14 rfl (lv_at hl 3 rfl) ?_
  obtain ⟨q2, hq2, hf⟩ := rf_bindq hf
  refine rf_Vi (As := [.int (4095 - p1), .int p2, .int p3]) (rest := [.int q1]) (wr := []) (wn := [(a_this, .inr (2, rf_o2 a_this_now a_this_then a_this_trial a_this_search a_this_letters a_this_numbers a_this_thickest a_this_refusals g_this)), (a_this_thickest, .inl (cA, 12, .inl f_this_thickest))]) ⟨hx, hb, hml, hown, hts⟩ hK hP hD hS hA hE (c_X2_leastCost l D cA ad a_this a_this_now a_this_then a_this_trial a_this_search a_this_letters a_this_numbers a_this_thickest a_this_refusals H.size g_this f_this_thickest (4095 - p1) p2 p3 q2 hq2) (cwV 3 hts gX2_twoCost_X2_leastCost rfl rfl rfl hv_X2_leastCost ⟨Nat.le_of_ble_eq_true rfl, Nat.le_of_ble_eq_true rfl⟩) [0, 1] [] [0, 1] rfl rfl rfl rfl (by decide) rfl rfl 2 0 rfl rfl rfl rfl rfl hl.1 (Nat.le_of_ble_eq_true rfl) dX2_twoCost_15 ⟨Nat.zero_le _, Nat.zero_le _⟩ (fun H locs hP hD hS => ?_)
  refine lv_iadd hx hb dX2_twoCost_18 ?_
  obtain rfl := Option.some.inj hf
  exact W.iret (v := (q1 + q2)) hx hb hr (fun t ht hW => ⟨⟨(q1 + q2), (), rfl, rfl, rf_mk ht hP hD⟩, hS.F ht⟩) hS.2.2 dX2_twoCost_19
theorem kX2_two_0 : (.fieldLink RX2 46 "RingAndFinger" "numberCount" "I" : Cond) ∈ wsX2_two := by decide +kernel
theorem jX2_two_X2 : ∀ w ∈ u_ws RX2 TX2 12, w ∈ wsX2_two := by decide +kernel
set_option maxHeartbeats 8000000 in
set_option maxRecDepth 100000 in
theorem c_X2_two (l : Launch) (D : va_G) (cA : ClassId) (ad : Nat → Nat) (a_this a_this_now a_this_then a_this_trial a_this_search a_this_letters a_this_numbers a_this_thickest a_this_refusals a_this_now_kinds a_this_now_thicks a_this_trial_kinds a_this_trial_thicks : Nat) (sz : Nat) (g_this g_this_now f_this_now_kinds f_this_now_thicks g_this_trial f_this_trial_kinds f_this_trial_thicks f_this_numbers f_this_thickest f_this_refusals : Nat → Int32) (p1 p2 p3 p4 p5 : Int32) (q : Int32 × (Nat → Int32) × (Nat → Int32) × (Nat → Int32) × (Nat → Int32) × (Nat → Int32)) (hf : f_X2_two g_this g_this_now f_this_now_kinds f_this_now_thicks g_this_trial f_this_trial_kinds f_this_trial_thicks f_this_numbers f_this_thickest f_this_refusals p1 p2 p3 p4 p5 = some q) : Met l yX2_two wsX2_two ({ frames := 6, cells := 0, slots := 0, locals := 141 } : Room) (va_Pc [.ref a_this, .int p1, .int p2, .int p3, .int p4, .int p5] (rf_Pre D cA ad [(a_this, .inr (2, rf_o2 a_this_now a_this_then a_this_trial a_this_search a_this_letters a_this_numbers a_this_thickest a_this_refusals g_this)), (a_this_now, .inr (0, rf_o0 a_this_now_kinds a_this_now_thicks g_this_now)), (a_this_now_kinds, .inl (cA, 6, .inl f_this_now_kinds)), (a_this_now_thicks, .inl (cA, 6, .inl f_this_now_thicks)), (a_this_trial, .inr (0, rf_o0 a_this_trial_kinds a_this_trial_thicks g_this_trial)), (a_this_trial_kinds, .inl (cA, 6, .inl f_this_trial_kinds)), (a_this_trial_thicks, .inl (cA, 6, .inl f_this_trial_thicks)), (a_this_numbers, .inl (cA, 12, .inl f_this_numbers)), (a_this_thickest, .inl (cA, 12, .inl f_this_thickest)), (a_this_refusals, .inl (cA, 7, .inl f_this_refusals))] sz)) (va_Qi (fun (r : Int32) (_ : Unit) => r = q.1) (fun _ t => rf_Post D (va_A [(a_this, .inr (2, rf_o2 a_this_now a_this_then a_this_trial a_this_search a_this_letters a_this_numbers a_this_thickest a_this_refusals g_this)), (a_this_now, .inr (0, rf_o0 a_this_now_kinds a_this_now_thicks g_this_now)), (a_this_now_kinds, .inl (cA, 6, .inl f_this_now_kinds)), (a_this_now_thicks, .inl (cA, 6, .inl f_this_now_thicks)), (a_this_trial, .inr (0, rf_o0 a_this_trial_kinds a_this_trial_thicks g_this_trial)), (a_this_trial_kinds, .inl (cA, 6, .inl f_this_trial_kinds)), (a_this_trial_thicks, .inl (cA, 6, .inl f_this_trial_thicks)), (a_this_numbers, .inl (cA, 12, .inl f_this_numbers)), (a_this_thickest, .inl (cA, 12, .inl f_this_thickest)), (a_this_refusals, .inl (cA, 7, .inl f_this_refusals))] sz) [(a_this, .inr (2, rf_o2 a_this_now a_this_then a_this_trial a_this_search a_this_letters a_this_numbers a_this_thickest a_this_refusals g_this)), (a_this_now, .inr (0, rf_o0 a_this_now_kinds a_this_now_thicks g_this_now)), (a_this_now_kinds, .inl (cA, 6, .inl f_this_now_kinds)), (a_this_now_thicks, .inl (cA, 6, .inl f_this_now_thicks)), (a_this_trial, .inr (0, rf_o0 a_this_trial_kinds a_this_trial_thicks q.2.1)), (a_this_trial_kinds, .inl (cA, 6, .inl q.2.2.1)), (a_this_trial_thicks, .inl (cA, 6, .inl q.2.2.2.1)), (a_this_numbers, .inl (cA, 12, .inl f_this_numbers)), (a_this_thickest, .inl (cA, 12, .inl q.2.2.2.2.1)), (a_this_refusals, .inl (cA, 7, .inl q.2.2.2.2.2))] t) (va_A [(a_this, .inr (2, rf_o2 a_this_now a_this_then a_this_trial a_this_search a_this_letters a_this_numbers a_this_thickest a_this_refusals g_this)), (a_this_now, .inr (0, rf_o0 a_this_now_kinds a_this_now_thicks g_this_now)), (a_this_now_kinds, .inl (cA, 6, .inl f_this_now_kinds)), (a_this_now_thicks, .inl (cA, 6, .inl f_this_now_thicks)), (a_this_trial, .inr (0, rf_o0 a_this_trial_kinds a_this_trial_thicks g_this_trial)), (a_this_trial_kinds, .inl (cA, 6, .inl f_this_trial_kinds)), (a_this_trial_thicks, .inl (cA, 6, .inl f_this_trial_thicks)), (a_this_numbers, .inl (cA, 12, .inl f_this_numbers)), (a_this_thickest, .inl (cA, 12, .inl f_this_thickest)), (a_this_refusals, .inl (cA, 7, .inl f_this_refusals))] sz)) 0 0 (va_A [(a_this, .inr (2, rf_o2 a_this_now a_this_then a_this_trial a_this_search a_this_letters a_this_numbers a_this_thickest a_this_refusals g_this)), (a_this_now, .inr (0, rf_o0 a_this_now_kinds a_this_now_thicks g_this_now)), (a_this_now_kinds, .inl (cA, 6, .inl f_this_now_kinds)), (a_this_now_thicks, .inl (cA, 6, .inl f_this_now_thicks)), (a_this_trial, .inr (0, rf_o0 a_this_trial_kinds a_this_trial_thicks g_this_trial)), (a_this_trial_kinds, .inl (cA, 6, .inl f_this_trial_kinds)), (a_this_trial_thicks, .inl (cA, 6, .inl f_this_trial_thicks)), (a_this_numbers, .inl (cA, 12, .inl f_this_numbers)), (a_this_thickest, .inl (cA, 12, .inl f_this_thickest)), (a_this_refusals, .inl (cA, 7, .inl f_this_refusals))] sz) := by
  refine Met.ofW (cc := cX2_two) (maxL := 8) (ret := (some .int)) (by decide) rfl ?_
  intro p e s m args below meth c s₁ B hml hv
  obtain ⟨rfl, hsz, hP, hK, hD0, hE⟩ := hv
  have hx := B.exec
  have hb := B.bytes
  have hr := B.returns
  have hts := atoms_spec (ws := wsX2_two) B.pre
  have hown : s.vm.findClass RX2 = some m.cls := findClass_of_methodNamed B.named
  have hlocks := B.notSynchronized
  subst hsz
  have hD := hD0.self (sz := s.heap.size)
  generalize hAe : va_A [(a_this, .inr (2, rf_o2 a_this_now a_this_then a_this_trial a_this_search a_this_letters a_this_numbers a_this_thickest a_this_refusals g_this)), (a_this_now, .inr (0, rf_o0 a_this_now_kinds a_this_now_thicks g_this_now)), (a_this_now_kinds, .inl (cA, 6, .inl f_this_now_kinds)), (a_this_now_thicks, .inl (cA, 6, .inl f_this_now_thicks)), (a_this_trial, .inr (0, rf_o0 a_this_trial_kinds a_this_trial_thicks g_this_trial)), (a_this_trial_kinds, .inl (cA, 6, .inl f_this_trial_kinds)), (a_this_trial_thicks, .inl (cA, 6, .inl f_this_trial_thicks)), (a_this_numbers, .inl (cA, 12, .inl f_this_numbers)), (a_this_thickest, .inl (cA, 12, .inl f_this_thickest)), (a_this_refusals, .inl (cA, 7, .inl f_this_refusals))] s.heap.size = A at hD hE ⊢
  have hA : ∀ q : Nat, s.heap.size ≤ q → A q := fun q h => by rw [← hAe]; exact Or.inr h
  have hS : va_S A s.heap s.heap [] := va_S.rf
  have hP : va_P D vwCl [(a_this, .inr (2, rf_o2 a_this_now a_this_then a_this_trial a_this_search a_this_letters a_this_numbers a_this_thickest a_this_refusals g_this)), (a_this_now, .inr (0, rf_o0 a_this_now_kinds a_this_now_thicks g_this_now)), (a_this_now_kinds, .inl (cA, 6, .inl f_this_now_kinds)), (a_this_now_thicks, .inl (cA, 6, .inl f_this_now_thicks)), (a_this_trial, .inr (0, rf_o0 a_this_trial_kinds a_this_trial_thicks g_this_trial)), (a_this_trial_kinds, .inl (cA, 6, .inl f_this_trial_kinds)), (a_this_trial_thicks, .inl (cA, 6, .inl f_this_trial_thicks)), (a_this_numbers, .inl (cA, 12, .inl f_this_numbers)), (a_this_thickest, .inl (cA, 12, .inl f_this_thickest)), (a_this_refusals, .inl (cA, 7, .inl f_this_refusals))] s.heap := hP
  have hl := lv_entry ([.ref a_this, .int p1, .int p2, .int p3, .int p4, .int p5]) (n := 8) (Nat.le_of_ble_eq_true rfl)
  rw [lg_entry_eq]
  generalize (lg_sl ([.ref a_this, .int p1, .int p2, .int p3, .int p4, .int p5]) ++ List.replicate (8 - (lg_sl ([.ref a_this, .int p1, .int p2, .int p3, .int p4, .int p5])).length) Slot.unset).toArray = ls at hl ⊢
  have hl : lv_has ls 8 [(0, .ref a_this), (1, .int p1), (2, .int p2), (3, .int p3), (4, .int p4), (5, .int p5)] := hl
  rw [f_X2_two] at hf
  refine lv_iload_n hx hb dX2_two_0 rfl (lv_at hl 1 rfl) ?_
  refine lv_iload_n hx hb dX2_two_1 rfl (lv_at hl 2 rfl) ?_
  refine lv_iload_n hx hb dX2_two_2 rfl (lv_at hl 3 rfl) ?_
  refine lv_iload hx hb dX2_two_3 (lv_at hl 4 rfl) ?_
  obtain ⟨q1, hq1, hf⟩ := rf_bindq hf
  refine rf_Si (As := [.int p1, .int p2, .int p3, .int p4]) (rest := []) (wr := [(a_this, .inr (2, rf_o2 a_this_now a_this_then a_this_trial a_this_search a_this_letters a_this_numbers a_this_thickest a_this_refusals g_this)), (a_this_now, .inr (0, rf_o0 a_this_now_kinds a_this_now_thicks g_this_now)), (a_this_now_kinds, .inl (cA, 6, .inl f_this_now_kinds)), (a_this_now_thicks, .inl (cA, 6, .inl f_this_now_thicks)), (a_this_trial, .inr (0, rf_o0 a_this_trial_kinds a_this_trial_thicks g_this_trial)), (a_this_trial_kinds, .inl (cA, 6, .inl f_this_trial_kinds)), (a_this_trial_thicks, .inl (cA, 6, .inl f_this_trial_thicks)), (a_this_numbers, .inl (cA, 12, .inl f_this_numbers)), (a_this_thickest, .inl (cA, 12, .inl f_this_thickest)), (a_this_refusals, .inl (cA, 7, .inl f_this_refusals))]) (wn := [(a_this, .inr (2, rf_o2 a_this_now a_this_then a_this_trial a_this_search a_this_letters a_this_numbers a_this_thickest a_this_refusals g_this)), (a_this_now, .inr (0, rf_o0 a_this_now_kinds a_this_now_thicks g_this_now)), (a_this_now_kinds, .inl (cA, 6, .inl f_this_now_kinds)), (a_this_now_thicks, .inl (cA, 6, .inl f_this_now_thicks)), (a_this_trial, .inr (0, rf_o0 a_this_trial_kinds a_this_trial_thicks g_this_trial)), (a_this_trial_kinds, .inl (cA, 6, .inl f_this_trial_kinds)), (a_this_trial_thicks, .inl (cA, 6, .inl f_this_trial_thicks)), (a_this_numbers, .inl (cA, 12, .inl f_this_numbers)), (a_this_thickest, .inl (cA, 12, .inl f_this_thickest)), (a_this_refusals, .inl (cA, 7, .inl f_this_refusals))]) ⟨hx, hb, hml, hown, hts⟩ hK hP hD hS hA hE (c_X2_spanRange l D cA ad s.heap.size p1 p2 p3 p4 q1 hq1) (va_cwS 4 hts gX2_two_X2_spanRange rfl rfl rfl hs_X2_spanRange ⟨Nat.le_of_ble_eq_true rfl, Nat.le_of_ble_eq_true rfl⟩) [] [0, 1, 2, 3, 4, 5, 6, 7, 8, 9] [0, 1, 2, 3, 4, 5, 6, 7, 8, 9] rfl rfl rfl rfl (by decide) rfl rfl rfl rfl hl.1 (Nat.le_of_ble_eq_true rfl) dX2_two_5 ⟨Nat.zero_le _, Nat.zero_le _⟩ (fun H locs hP hD hS => ?_)
  refine lv_istore (lv' := [(6, .int q1), (0, .ref a_this), (1, .int p1), (2, .int p2), (3, .int p3), (4, .int p4), (5, .int p5)]) hx hb dX2_two_8 hl (by decide) rfl (fun ls hl => ?_)
  refine lv_iload hx hb dX2_two_10 (lv_at hl 0 rfl) ?_
  refine lv_if_eq (tgt := 22) hx hb dX2_two_12 (by decide) (fun c2 => ?_) (fun c2 => ?_)
  · have hf := rf_ifp hf c2
    refine lv_iload hx hb dX2_two_22 (lv_at hl 6 rfl) ?_
    refine lv_if_lt (tgt := 33) hx hb dX2_two_24 (by decide) (fun c3 => ?_) (fun c3 => ?_)
    · have hf := rf_ifp hf c3
      refine lv_aload_n hx hb dX2_two_33 rfl (lv_at hl 1 rfl) ?_
      refine lv_bipush (v := (-2)) hx hb dX2_two_34 (by decide) ?_
      obtain ⟨q4, hq4, hf⟩ := rf_bindq hf
      refine rf_Vi (As := [.int (-2)]) (rest := []) (wr := [(a_this_now, .inr (0, rf_o0 a_this_now_kinds a_this_now_thicks g_this_now)), (a_this_now_kinds, .inl (cA, 6, .inl f_this_now_kinds)), (a_this_now_thicks, .inl (cA, 6, .inl f_this_now_thicks)), (a_this_trial, .inr (0, rf_o0 a_this_trial_kinds a_this_trial_thicks g_this_trial)), (a_this_trial_kinds, .inl (cA, 6, .inl f_this_trial_kinds)), (a_this_trial_thicks, .inl (cA, 6, .inl f_this_trial_thicks)), (a_this_numbers, .inl (cA, 12, .inl f_this_numbers)), (a_this_thickest, .inl (cA, 12, .inl f_this_thickest))]) (wn := [(a_this, .inr (2, rf_o2 a_this_now a_this_then a_this_trial a_this_search a_this_letters a_this_numbers a_this_thickest a_this_refusals g_this)), (a_this_now, .inr (0, rf_o0 a_this_now_kinds a_this_now_thicks g_this_now)), (a_this_now_kinds, .inl (cA, 6, .inl f_this_now_kinds)), (a_this_now_thicks, .inl (cA, 6, .inl f_this_now_thicks)), (a_this_trial, .inr (0, rf_o0 a_this_trial_kinds a_this_trial_thicks g_this_trial)), (a_this_trial_kinds, .inl (cA, 6, .inl f_this_trial_kinds)), (a_this_trial_thicks, .inl (cA, 6, .inl f_this_trial_thicks)), (a_this_numbers, .inl (cA, 12, .inl f_this_numbers)), (a_this_thickest, .inl (cA, 12, .inl f_this_thickest)), (a_this_refusals, .inl (cA, 7, .inl q4.2))]) ⟨hx, hb, hml, hown, hts⟩ hK hP hD hS hA hE (c_X2_refuse l D cA ad a_this a_this_now a_this_then a_this_trial a_this_search a_this_letters a_this_numbers a_this_thickest a_this_refusals H.size g_this f_this_refusals (-2) q4 hq4) (cwV 1 hts gX2_two_X2_refuse rfl rfl rfl hv_X2_refuse ⟨Nat.le_of_ble_eq_true rfl, Nat.le_of_ble_eq_true rfl⟩) [0, 9] [1, 2, 3, 4, 5, 6, 7, 8] [8, 0, 1, 2, 3, 4, 5, 6, 7, 9] rfl rfl rfl rfl (by decide) rfl rfl 2 0 rfl rfl rfl rfl rfl hl.1 (Nat.le_of_ble_eq_true rfl) dX2_two_36 ⟨Nat.zero_le _, Nat.zero_le _⟩ (fun H locs hP hD hS => ?_)
      obtain rfl := Option.some.inj hf
      exact W.iret (v := q4.1) hx hb hr (fun t ht hW => ⟨⟨q4.1, (), rfl, rfl, rf_mk ht hP hD⟩, hS.F ht⟩) hS.2.2 dX2_two_39
    · have hf := rf_ifn hf c3
      refine lv_iload hx hb dX2_two_27 (lv_at hl 6 rfl) ?_
      refine lv_iconst (v := 2) hx hb dX2_two_29 (by decide) ?_
      refine lv_icmp_le (tgt := 40) hx hb dX2_two_30 (by decide) (fun c5 => ?_) (fun c5 => ?_)
      · have hf := rf_ifp hf c5
        refine lv_aload_n hx hb dX2_two_40 rfl (lv_at hl 1 rfl) ?_
        refine va_get (D := D) (ci := 2) (v := .int (g_this 1)) (C := RX2) (T := TX2) (N := 12) hx hb hts jX2_two_X2 hown hK hP 0 rfl rfl 9 (by decide) (hts _ kX2_two_0) (fun _ h9 => h9) rfl dX2_two_41 ?_
        refine lv_bipush (v := 12) hx hb dX2_two_44 (by decide) ?_
        refine lv_icmp_eq (tgt := 56) hx hb dX2_two_46 (by decide) (fun c6 => ?_) (fun c6 => ?_)
        · have hf := rf_ifp hf c6
          refine lv_aload_n hx hb dX2_two_56 rfl (lv_at hl 1 rfl) ?_
          obtain ⟨q7, hq7, hf⟩ := rf_bindq hf
          refine rf_Vv (As := []) (rest := []) (wr := [(a_this_refusals, .inl (cA, 7, .inl f_this_refusals))]) (wn := [(a_this, .inr (2, rf_o2 a_this_now a_this_then a_this_trial a_this_search a_this_letters a_this_numbers a_this_thickest a_this_refusals g_this)), (a_this_now, .inr (0, rf_o0 a_this_now_kinds a_this_now_thicks g_this_now)), (a_this_now_kinds, .inl (cA, 6, .inl f_this_now_kinds)), (a_this_now_thicks, .inl (cA, 6, .inl f_this_now_thicks)), (a_this_trial, .inr (0, rf_o0 a_this_trial_kinds a_this_trial_thicks q7.1)), (a_this_trial_kinds, .inl (cA, 6, .inl q7.2.1)), (a_this_trial_thicks, .inl (cA, 6, .inl q7.2.2.1)), (a_this_numbers, .inl (cA, 12, .inl f_this_numbers)), (a_this_thickest, .inl (cA, 12, .inl q7.2.2.2)), (a_this_refusals, .inl (cA, 7, .inl f_this_refusals))]) ⟨hx, hb, hml, hown, hts⟩ hK hP hD hS hA hE (c_X2_measureMonths l D cA ad a_this a_this_now a_this_then a_this_trial a_this_search a_this_letters a_this_numbers a_this_thickest a_this_refusals a_this_now_kinds a_this_now_thicks a_this_trial_kinds a_this_trial_thicks H.size g_this g_this_now f_this_now_kinds f_this_now_thicks g_this_trial f_this_trial_kinds f_this_trial_thicks f_this_numbers f_this_thickest q7 hq7) (cwV 0 hts gX2_two_X2_measureMonths rfl rfl rfl hv_X2_measureMonths ⟨Nat.le_of_ble_eq_true rfl, Nat.le_of_ble_eq_true rfl⟩) [0, 1, 2, 3, 4, 5, 6, 7, 8] [9] [1, 2, 3, 4, 5, 6, 7, 8, 9, 0] rfl rfl rfl rfl (by decide) rfl rfl 2 0 rfl rfl rfl rfl rfl hl.1 (Nat.le_of_ble_eq_true rfl) dX2_two_57 ⟨Nat.zero_le _, Nat.zero_le _⟩ (fun H locs hP hD hS => ?_)
          refine lv_iload_n hx hb dX2_two_60 rfl (lv_at hl 2 rfl) ?_
          refine lv_iload_n hx hb dX2_two_61 rfl (lv_at hl 3 rfl) ?_
          obtain ⟨q8, hq8, hf⟩ := rf_bindq hf
          refine rf_Si (As := [.int p1, .int p2]) (rest := []) (wr := [(a_this, .inr (2, rf_o2 a_this_now a_this_then a_this_trial a_this_search a_this_letters a_this_numbers a_this_thickest a_this_refusals g_this)), (a_this_now, .inr (0, rf_o0 a_this_now_kinds a_this_now_thicks g_this_now)), (a_this_now_kinds, .inl (cA, 6, .inl f_this_now_kinds)), (a_this_now_thicks, .inl (cA, 6, .inl f_this_now_thicks)), (a_this_trial, .inr (0, rf_o0 a_this_trial_kinds a_this_trial_thicks q7.1)), (a_this_trial_kinds, .inl (cA, 6, .inl q7.2.1)), (a_this_trial_thicks, .inl (cA, 6, .inl q7.2.2.1)), (a_this_numbers, .inl (cA, 12, .inl f_this_numbers)), (a_this_thickest, .inl (cA, 12, .inl q7.2.2.2)), (a_this_refusals, .inl (cA, 7, .inl f_this_refusals))]) (wn := [(a_this, .inr (2, rf_o2 a_this_now a_this_then a_this_trial a_this_search a_this_letters a_this_numbers a_this_thickest a_this_refusals g_this)), (a_this_now, .inr (0, rf_o0 a_this_now_kinds a_this_now_thicks g_this_now)), (a_this_now_kinds, .inl (cA, 6, .inl f_this_now_kinds)), (a_this_now_thicks, .inl (cA, 6, .inl f_this_now_thicks)), (a_this_trial, .inr (0, rf_o0 a_this_trial_kinds a_this_trial_thicks q7.1)), (a_this_trial_kinds, .inl (cA, 6, .inl q7.2.1)), (a_this_trial_thicks, .inl (cA, 6, .inl q7.2.2.1)), (a_this_numbers, .inl (cA, 12, .inl f_this_numbers)), (a_this_thickest, .inl (cA, 12, .inl q7.2.2.2)), (a_this_refusals, .inl (cA, 7, .inl f_this_refusals))]) ⟨hx, hb, hml, hown, hts⟩ hK hP hD hS hA hE (c_X2_monthSpan l D cA ad H.size p1 p2 q8 hq8) (va_cwS 2 hts gX2_two_X2_monthSpan rfl rfl rfl hs_X2_monthSpan ⟨Nat.le_of_ble_eq_true rfl, Nat.le_of_ble_eq_true rfl⟩) [] [0, 1, 2, 3, 4, 5, 6, 7, 8, 9] [0, 1, 2, 3, 4, 5, 6, 7, 8, 9] rfl rfl rfl rfl (by decide) rfl rfl rfl rfl hl.1 (Nat.le_of_ble_eq_true rfl) dX2_two_62 ⟨Nat.zero_le _, Nat.zero_le _⟩ (fun H locs hP hD hS => ?_)
          refine lv_istore (lv' := [(7, .int q8), (6, .int q1), (0, .ref a_this), (1, .int p1), (2, .int p2), (3, .int p3), (4, .int p4), (5, .int p5)]) hx hb dX2_two_65 hl (by decide) rfl (fun ls hl => ?_)
          refine lv_iload hx hb dX2_two_67 (lv_at hl 7 rfl) ?_
          by_cases c9 : p5 = 0
          · have hf := rf_ifp hf c9
            refine rf_lookC (off := 27) (tgt := 96) hx hb dX2_two_69 (by decide) c9 (by decide) (by decide) ?_
            refine lv_aload_n hx hb dX2_two_96 rfl (lv_at hl 2 rfl) ?_
            refine lv_iload hx hb dX2_two_97 (lv_at hl 0 rfl) ?_
            refine lv_iload_n hx hb dX2_two_99 rfl (lv_at hl 5 rfl) ?_
            refine lv_iload hx hb dX2_two_100 (lv_at hl 6 rfl) ?_
            obtain ⟨q10, hq10, hf⟩ := rf_bindq hf
            refine rf_Vi (As := [.int q8, .int p3, .int p4]) (rest := []) (wr := [(a_this_now, .inr (0, rf_o0 a_this_now_kinds a_this_now_thicks g_this_now)), (a_this_now_kinds, .inl (cA, 6, .inl f_this_now_kinds)), (a_this_now_thicks, .inl (cA, 6, .inl f_this_now_thicks)), (a_this_trial, .inr (0, rf_o0 a_this_trial_kinds a_this_trial_thicks q7.1)), (a_this_trial_kinds, .inl (cA, 6, .inl q7.2.1)), (a_this_trial_thicks, .inl (cA, 6, .inl q7.2.2.1)), (a_this_numbers, .inl (cA, 12, .inl f_this_numbers)), (a_this_refusals, .inl (cA, 7, .inl f_this_refusals))]) (wn := [(a_this, .inr (2, rf_o2 a_this_now a_this_then a_this_trial a_this_search a_this_letters a_this_numbers a_this_thickest a_this_refusals g_this)), (a_this_now, .inr (0, rf_o0 a_this_now_kinds a_this_now_thicks g_this_now)), (a_this_now_kinds, .inl (cA, 6, .inl f_this_now_kinds)), (a_this_now_thicks, .inl (cA, 6, .inl f_this_now_thicks)), (a_this_trial, .inr (0, rf_o0 a_this_trial_kinds a_this_trial_thicks q7.1)), (a_this_trial_kinds, .inl (cA, 6, .inl q7.2.1)), (a_this_trial_thicks, .inl (cA, 6, .inl q7.2.2.1)), (a_this_numbers, .inl (cA, 12, .inl f_this_numbers)), (a_this_thickest, .inl (cA, 12, .inl q7.2.2.2)), (a_this_refusals, .inl (cA, 7, .inl f_this_refusals))]) ⟨hx, hb, hml, hown, hts⟩ hK hP hD hS hA hE (c_X2_bestSize l D cA ad a_this a_this_now a_this_then a_this_trial a_this_search a_this_letters a_this_numbers a_this_thickest a_this_refusals H.size g_this q7.2.2.2 q8 p3 p4 q10 hq10) (cwV 3 hts gX2_two_X2_bestSize rfl rfl rfl hv_X2_bestSize ⟨Nat.le_of_ble_eq_true rfl, Nat.le_of_ble_eq_true rfl⟩) [0, 8] [1, 2, 3, 4, 5, 6, 7, 9] [8, 0, 1, 2, 3, 4, 5, 6, 9, 7] rfl rfl rfl rfl (by decide) rfl rfl 2 0 rfl rfl rfl rfl rfl hl.1 (Nat.le_of_ble_eq_true rfl) dX2_two_102 ⟨Nat.zero_le _, Nat.zero_le _⟩ (fun H locs hP hD hS => ?_)
            obtain rfl := Option.some.inj hf
            exact W.iret (v := q10) hx hb hr (fun t ht hW => ⟨⟨q10, (), rfl, rfl, rf_mk ht hP hD⟩, hS.F ht⟩) hS.2.2 dX2_two_105
          · have hf := rf_ifn hf c9
            by_cases c11 : p5 = 1
            · have hf := rf_ifp hf c11
              refine rf_lookC (off := 37) (tgt := 106) hx hb dX2_two_69 (by decide) c11 (by decide) (by decide) ?_
              refine lv_aload_n hx hb dX2_two_106 rfl (lv_at hl 2 rfl) ?_
              refine lv_sipush (v := 4095) hx hb dX2_two_107 (by decide) ?_
              refine lv_iload hx hb dX2_two_110 (lv_at hl 0 rfl) ?_
              refine lv_isub hx hb dX2_two_112 ?_
              refine lv_iload_n hx hb dX2_two_113 rfl (lv_at hl 5 rfl) ?_
              refine lv_iload hx hb dX2_two_114 (lv_at hl 6 rfl) ?_
              obtain ⟨q12, hq12, hf⟩ := rf_bindq hf
              refine rf_Vi (As := [.int (4095 - q8), .int p3, .int p4]) (rest := []) (wr := [(a_this_now, .inr (0, rf_o0 a_this_now_kinds a_this_now_thicks g_this_now)), (a_this_now_kinds, .inl (cA, 6, .inl f_this_now_kinds)), (a_this_now_thicks, .inl (cA, 6, .inl f_this_now_thicks)), (a_this_trial, .inr (0, rf_o0 a_this_trial_kinds a_this_trial_thicks q7.1)), (a_this_trial_kinds, .inl (cA, 6, .inl q7.2.1)), (a_this_trial_thicks, .inl (cA, 6, .inl q7.2.2.1)), (a_this_numbers, .inl (cA, 12, .inl f_this_numbers)), (a_this_refusals, .inl (cA, 7, .inl f_this_refusals))]) (wn := [(a_this, .inr (2, rf_o2 a_this_now a_this_then a_this_trial a_this_search a_this_letters a_this_numbers a_this_thickest a_this_refusals g_this)), (a_this_now, .inr (0, rf_o0 a_this_now_kinds a_this_now_thicks g_this_now)), (a_this_now_kinds, .inl (cA, 6, .inl f_this_now_kinds)), (a_this_now_thicks, .inl (cA, 6, .inl f_this_now_thicks)), (a_this_trial, .inr (0, rf_o0 a_this_trial_kinds a_this_trial_thicks q7.1)), (a_this_trial_kinds, .inl (cA, 6, .inl q7.2.1)), (a_this_trial_thicks, .inl (cA, 6, .inl q7.2.2.1)), (a_this_numbers, .inl (cA, 12, .inl f_this_numbers)), (a_this_thickest, .inl (cA, 12, .inl q7.2.2.2)), (a_this_refusals, .inl (cA, 7, .inl f_this_refusals))]) ⟨hx, hb, hml, hown, hts⟩ hK hP hD hS hA hE (c_X2_bestSize l D cA ad a_this a_this_now a_this_then a_this_trial a_this_search a_this_letters a_this_numbers a_this_thickest a_this_refusals H.size g_this q7.2.2.2 (4095 - q8) p3 p4 q12 hq12) (cwV 3 hts gX2_two_X2_bestSize rfl rfl rfl hv_X2_bestSize ⟨Nat.le_of_ble_eq_true rfl, Nat.le_of_ble_eq_true rfl⟩) [0, 8] [1, 2, 3, 4, 5, 6, 7, 9] [8, 0, 1, 2, 3, 4, 5, 6, 9, 7] rfl rfl rfl rfl (by decide) rfl rfl 2 0 rfl rfl rfl rfl rfl hl.1 (Nat.le_of_ble_eq_true rfl) dX2_two_116 ⟨Nat.zero_le _, Nat.zero_le _⟩ (fun H locs hP hD hS => ?_)
              obtain rfl := Option.some.inj hf
              exact W.iret (v := q12) hx hb hr (fun t ht hW => ⟨⟨q12, (), rfl, rfl, rf_mk ht hP hD⟩, hS.F ht⟩) hS.2.2 dX2_two_119
            · have hf := rf_ifn hf c11
              refine rf_lookD (tgt := 120) (ks := [0, 1]) hx hb dX2_two_69 (by decide) (by intro z hz; simp only [List.mem_cons, List.not_mem_nil, or_false] at hz; rcases hz with rfl | rfl <;> assumption) rfl (by decide) ?_
              refine lv_aload_n hx hb dX2_two_120 rfl (lv_at hl 2 rfl) ?_
              refine lv_iload hx hb dX2_two_121 (lv_at hl 0 rfl) ?_
              refine lv_iload_n hx hb dX2_two_123 rfl (lv_at hl 5 rfl) ?_
              refine lv_iload hx hb dX2_two_124 (lv_at hl 6 rfl) ?_
              obtain ⟨q13, hq13, hf⟩ := rf_bindq hf
              refine rf_Vi (As := [.int q8, .int p3, .int p4]) (rest := []) (wr := [(a_this_now, .inr (0, rf_o0 a_this_now_kinds a_this_now_thicks g_this_now)), (a_this_now_kinds, .inl (cA, 6, .inl f_this_now_kinds)), (a_this_now_thicks, .inl (cA, 6, .inl f_this_now_thicks)), (a_this_trial, .inr (0, rf_o0 a_this_trial_kinds a_this_trial_thicks q7.1)), (a_this_trial_kinds, .inl (cA, 6, .inl q7.2.1)), (a_this_trial_thicks, .inl (cA, 6, .inl q7.2.2.1)), (a_this_numbers, .inl (cA, 12, .inl f_this_numbers)), (a_this_refusals, .inl (cA, 7, .inl f_this_refusals))]) (wn := [(a_this, .inr (2, rf_o2 a_this_now a_this_then a_this_trial a_this_search a_this_letters a_this_numbers a_this_thickest a_this_refusals g_this)), (a_this_now, .inr (0, rf_o0 a_this_now_kinds a_this_now_thicks g_this_now)), (a_this_now_kinds, .inl (cA, 6, .inl f_this_now_kinds)), (a_this_now_thicks, .inl (cA, 6, .inl f_this_now_thicks)), (a_this_trial, .inr (0, rf_o0 a_this_trial_kinds a_this_trial_thicks q7.1)), (a_this_trial_kinds, .inl (cA, 6, .inl q7.2.1)), (a_this_trial_thicks, .inl (cA, 6, .inl q7.2.2.1)), (a_this_numbers, .inl (cA, 12, .inl f_this_numbers)), (a_this_thickest, .inl (cA, 12, .inl q7.2.2.2)), (a_this_refusals, .inl (cA, 7, .inl f_this_refusals))]) ⟨hx, hb, hml, hown, hts⟩ hK hP hD hS hA hE (c_X2_twoCost l D cA ad a_this a_this_now a_this_then a_this_trial a_this_search a_this_letters a_this_numbers a_this_thickest a_this_refusals H.size g_this q7.2.2.2 q8 p3 p4 q13 hq13) (cwV 3 hts gX2_two_X2_twoCost rfl rfl rfl hv_X2_twoCost ⟨Nat.le_of_ble_eq_true rfl, Nat.le_of_ble_eq_true rfl⟩) [0, 8] [1, 2, 3, 4, 5, 6, 7, 9] [8, 0, 1, 2, 3, 4, 5, 6, 9, 7] rfl rfl rfl rfl (by decide) rfl rfl 2 0 rfl rfl rfl rfl rfl hl.1 (Nat.le_of_ble_eq_true rfl) dX2_two_126 ⟨Nat.zero_le _, Nat.zero_le _⟩ (fun H locs hP hD hS => ?_)
              obtain rfl := Option.some.inj hf
              exact W.iret (v := q13) hx hb hr (fun t ht hW => ⟨⟨q13, (), rfl, rfl, rf_mk ht hP hD⟩, hS.F ht⟩) hS.2.2 dX2_two_129
        · have hf := rf_ifn hf c6
          refine lv_aload_n hx hb dX2_two_49 rfl (lv_at hl 1 rfl) ?_
          refine lv_bipush (v := (-3)) hx hb dX2_two_50 (by decide) ?_
          obtain ⟨q14, hq14, hf⟩ := rf_bindq hf
          refine rf_Vi (As := [.int (-3)]) (rest := []) (wr := [(a_this_now, .inr (0, rf_o0 a_this_now_kinds a_this_now_thicks g_this_now)), (a_this_now_kinds, .inl (cA, 6, .inl f_this_now_kinds)), (a_this_now_thicks, .inl (cA, 6, .inl f_this_now_thicks)), (a_this_trial, .inr (0, rf_o0 a_this_trial_kinds a_this_trial_thicks g_this_trial)), (a_this_trial_kinds, .inl (cA, 6, .inl f_this_trial_kinds)), (a_this_trial_thicks, .inl (cA, 6, .inl f_this_trial_thicks)), (a_this_numbers, .inl (cA, 12, .inl f_this_numbers)), (a_this_thickest, .inl (cA, 12, .inl f_this_thickest))]) (wn := [(a_this, .inr (2, rf_o2 a_this_now a_this_then a_this_trial a_this_search a_this_letters a_this_numbers a_this_thickest a_this_refusals g_this)), (a_this_now, .inr (0, rf_o0 a_this_now_kinds a_this_now_thicks g_this_now)), (a_this_now_kinds, .inl (cA, 6, .inl f_this_now_kinds)), (a_this_now_thicks, .inl (cA, 6, .inl f_this_now_thicks)), (a_this_trial, .inr (0, rf_o0 a_this_trial_kinds a_this_trial_thicks g_this_trial)), (a_this_trial_kinds, .inl (cA, 6, .inl f_this_trial_kinds)), (a_this_trial_thicks, .inl (cA, 6, .inl f_this_trial_thicks)), (a_this_numbers, .inl (cA, 12, .inl f_this_numbers)), (a_this_thickest, .inl (cA, 12, .inl f_this_thickest)), (a_this_refusals, .inl (cA, 7, .inl q14.2))]) ⟨hx, hb, hml, hown, hts⟩ hK hP hD hS hA hE (c_X2_refuse l D cA ad a_this a_this_now a_this_then a_this_trial a_this_search a_this_letters a_this_numbers a_this_thickest a_this_refusals H.size g_this f_this_refusals (-3) q14 hq14) (cwV 1 hts gX2_two_X2_refuse rfl rfl rfl hv_X2_refuse ⟨Nat.le_of_ble_eq_true rfl, Nat.le_of_ble_eq_true rfl⟩) [0, 9] [1, 2, 3, 4, 5, 6, 7, 8] [8, 0, 1, 2, 3, 4, 5, 6, 7, 9] rfl rfl rfl rfl (by decide) rfl rfl 2 0 rfl rfl rfl rfl rfl hl.1 (Nat.le_of_ble_eq_true rfl) dX2_two_52 ⟨Nat.zero_le _, Nat.zero_le _⟩ (fun H locs hP hD hS => ?_)
          obtain rfl := Option.some.inj hf
          exact W.iret (v := q14.1) hx hb hr (fun t ht hW => ⟨⟨q14.1, (), rfl, rfl, rf_mk ht hP hD⟩, hS.F ht⟩) hS.2.2 dX2_two_55
      · have hf := rf_ifn hf c5
        refine lv_aload_n hx hb dX2_two_33 rfl (lv_at hl 1 rfl) ?_
        refine lv_bipush (v := (-2)) hx hb dX2_two_34 (by decide) ?_
        obtain ⟨q15, hq15, hf⟩ := rf_bindq hf
        refine rf_Vi (As := [.int (-2)]) (rest := []) (wr := [(a_this_now, .inr (0, rf_o0 a_this_now_kinds a_this_now_thicks g_this_now)), (a_this_now_kinds, .inl (cA, 6, .inl f_this_now_kinds)), (a_this_now_thicks, .inl (cA, 6, .inl f_this_now_thicks)), (a_this_trial, .inr (0, rf_o0 a_this_trial_kinds a_this_trial_thicks g_this_trial)), (a_this_trial_kinds, .inl (cA, 6, .inl f_this_trial_kinds)), (a_this_trial_thicks, .inl (cA, 6, .inl f_this_trial_thicks)), (a_this_numbers, .inl (cA, 12, .inl f_this_numbers)), (a_this_thickest, .inl (cA, 12, .inl f_this_thickest))]) (wn := [(a_this, .inr (2, rf_o2 a_this_now a_this_then a_this_trial a_this_search a_this_letters a_this_numbers a_this_thickest a_this_refusals g_this)), (a_this_now, .inr (0, rf_o0 a_this_now_kinds a_this_now_thicks g_this_now)), (a_this_now_kinds, .inl (cA, 6, .inl f_this_now_kinds)), (a_this_now_thicks, .inl (cA, 6, .inl f_this_now_thicks)), (a_this_trial, .inr (0, rf_o0 a_this_trial_kinds a_this_trial_thicks g_this_trial)), (a_this_trial_kinds, .inl (cA, 6, .inl f_this_trial_kinds)), (a_this_trial_thicks, .inl (cA, 6, .inl f_this_trial_thicks)), (a_this_numbers, .inl (cA, 12, .inl f_this_numbers)), (a_this_thickest, .inl (cA, 12, .inl f_this_thickest)), (a_this_refusals, .inl (cA, 7, .inl q15.2))]) ⟨hx, hb, hml, hown, hts⟩ hK hP hD hS hA hE (c_X2_refuse l D cA ad a_this a_this_now a_this_then a_this_trial a_this_search a_this_letters a_this_numbers a_this_thickest a_this_refusals H.size g_this f_this_refusals (-2) q15 hq15) (cwV 1 hts gX2_two_X2_refuse rfl rfl rfl hv_X2_refuse ⟨Nat.le_of_ble_eq_true rfl, Nat.le_of_ble_eq_true rfl⟩) [0, 9] [1, 2, 3, 4, 5, 6, 7, 8] [8, 0, 1, 2, 3, 4, 5, 6, 7, 9] rfl rfl rfl rfl (by decide) rfl rfl 2 0 rfl rfl rfl rfl rfl hl.1 (Nat.le_of_ble_eq_true rfl) dX2_two_36 ⟨Nat.zero_le _, Nat.zero_le _⟩ (fun H locs hP hD hS => ?_)
        obtain rfl := Option.some.inj hf
        exact W.iret (v := q15.1) hx hb hr (fun t ht hW => ⟨⟨q15.1, (), rfl, rfl, rf_mk ht hP hD⟩, hS.F ht⟩) hS.2.2 dX2_two_39
  · have hf := rf_ifn hf c2
    refine lv_aload_n hx hb dX2_two_15 rfl (lv_at hl 1 rfl) ?_
    refine lv_iload hx hb dX2_two_16 (lv_at hl 0 rfl) ?_
    obtain ⟨q16, hq16, hf⟩ := rf_bindq hf
    refine rf_Vi (As := [.int q1]) (rest := []) (wr := [(a_this_now, .inr (0, rf_o0 a_this_now_kinds a_this_now_thicks g_this_now)), (a_this_now_kinds, .inl (cA, 6, .inl f_this_now_kinds)), (a_this_now_thicks, .inl (cA, 6, .inl f_this_now_thicks)), (a_this_trial, .inr (0, rf_o0 a_this_trial_kinds a_this_trial_thicks g_this_trial)), (a_this_trial_kinds, .inl (cA, 6, .inl f_this_trial_kinds)), (a_this_trial_thicks, .inl (cA, 6, .inl f_this_trial_thicks)), (a_this_numbers, .inl (cA, 12, .inl f_this_numbers)), (a_this_thickest, .inl (cA, 12, .inl f_this_thickest))]) (wn := [(a_this, .inr (2, rf_o2 a_this_now a_this_then a_this_trial a_this_search a_this_letters a_this_numbers a_this_thickest a_this_refusals g_this)), (a_this_now, .inr (0, rf_o0 a_this_now_kinds a_this_now_thicks g_this_now)), (a_this_now_kinds, .inl (cA, 6, .inl f_this_now_kinds)), (a_this_now_thicks, .inl (cA, 6, .inl f_this_now_thicks)), (a_this_trial, .inr (0, rf_o0 a_this_trial_kinds a_this_trial_thicks g_this_trial)), (a_this_trial_kinds, .inl (cA, 6, .inl f_this_trial_kinds)), (a_this_trial_thicks, .inl (cA, 6, .inl f_this_trial_thicks)), (a_this_numbers, .inl (cA, 12, .inl f_this_numbers)), (a_this_thickest, .inl (cA, 12, .inl f_this_thickest)), (a_this_refusals, .inl (cA, 7, .inl q16.2))]) ⟨hx, hb, hml, hown, hts⟩ hK hP hD hS hA hE (c_X2_refuse l D cA ad a_this a_this_now a_this_then a_this_trial a_this_search a_this_letters a_this_numbers a_this_thickest a_this_refusals H.size g_this f_this_refusals q1 q16 hq16) (cwV 1 hts gX2_two_X2_refuse rfl rfl rfl hv_X2_refuse ⟨Nat.le_of_ble_eq_true rfl, Nat.le_of_ble_eq_true rfl⟩) [0, 9] [1, 2, 3, 4, 5, 6, 7, 8] [8, 0, 1, 2, 3, 4, 5, 6, 7, 9] rfl rfl rfl rfl (by decide) rfl rfl 2 0 rfl rfl rfl rfl rfl hl.1 (Nat.le_of_ble_eq_true rfl) dX2_two_18 ⟨Nat.zero_le _, Nat.zero_le _⟩ (fun H locs hP hD hS => ?_)
    obtain rfl := Option.some.inj hf
    exact W.iret (v := q16.1) hx hb hr (fun t ht hW => ⟨⟨q16.1, (), rfl, rfl, rf_mk ht hP hD⟩, hS.F ht⟩) hS.2.2 dX2_two_21
theorem kX2_worth_0 : (.fieldLink RX2 46 "RingAndFinger" "numberCount" "I" : Cond) ∈ wsX2_worth := by decide +kernel
theorem kX2_worth_1 : (.constant RX2 210 (1000000000) : Cond) ∈ wsX2_worth := by decide +kernel
theorem jX2_worth_X2 : ∀ w ∈ u_ws RX2 TX2 12, w ∈ wsX2_worth := by decide +kernel
set_option maxHeartbeats 8000000 in
set_option maxRecDepth 100000 in
theorem c_X2_worth (l : Launch) (D : va_G) (cA : ClassId) (ad : Nat → Nat) (a_this a_this_now a_this_then a_this_trial a_this_search a_this_letters a_this_numbers a_this_thickest a_this_refusals a_this_now_kinds a_this_now_thicks a_this_trial_kinds a_this_trial_thicks : Nat) (sz : Nat) (g_this g_this_now f_this_now_kinds f_this_now_thicks g_this_trial f_this_trial_kinds f_this_trial_thicks f_this_numbers f_this_thickest f_this_refusals : Nat → Int32) (p1 p2 p3 p4 : Int32) (q : Int32 × (Nat → Int32) × (Nat → Int32) × (Nat → Int32) × (Nat → Int32) × (Nat → Int32)) (hf : f_X2_worth g_this g_this_now f_this_now_kinds f_this_now_thicks g_this_trial f_this_trial_kinds f_this_trial_thicks f_this_numbers f_this_thickest f_this_refusals p1 p2 p3 p4 = some q) : Met l yX2_worth wsX2_worth ({ frames := 6, cells := 0, slots := 0, locals := 141 } : Room) (va_Pc [.ref a_this, .int p1, .int p2, .int p3, .int p4] (rf_Pre D cA ad [(a_this, .inr (2, rf_o2 a_this_now a_this_then a_this_trial a_this_search a_this_letters a_this_numbers a_this_thickest a_this_refusals g_this)), (a_this_now, .inr (0, rf_o0 a_this_now_kinds a_this_now_thicks g_this_now)), (a_this_now_kinds, .inl (cA, 6, .inl f_this_now_kinds)), (a_this_now_thicks, .inl (cA, 6, .inl f_this_now_thicks)), (a_this_trial, .inr (0, rf_o0 a_this_trial_kinds a_this_trial_thicks g_this_trial)), (a_this_trial_kinds, .inl (cA, 6, .inl f_this_trial_kinds)), (a_this_trial_thicks, .inl (cA, 6, .inl f_this_trial_thicks)), (a_this_numbers, .inl (cA, 12, .inl f_this_numbers)), (a_this_thickest, .inl (cA, 12, .inl f_this_thickest)), (a_this_refusals, .inl (cA, 7, .inl f_this_refusals))] sz)) (va_Qi (fun (r : Int32) (_ : Unit) => r = q.1) (fun _ t => rf_Post D (va_A [(a_this, .inr (2, rf_o2 a_this_now a_this_then a_this_trial a_this_search a_this_letters a_this_numbers a_this_thickest a_this_refusals g_this)), (a_this_now, .inr (0, rf_o0 a_this_now_kinds a_this_now_thicks g_this_now)), (a_this_now_kinds, .inl (cA, 6, .inl f_this_now_kinds)), (a_this_now_thicks, .inl (cA, 6, .inl f_this_now_thicks)), (a_this_trial, .inr (0, rf_o0 a_this_trial_kinds a_this_trial_thicks g_this_trial)), (a_this_trial_kinds, .inl (cA, 6, .inl f_this_trial_kinds)), (a_this_trial_thicks, .inl (cA, 6, .inl f_this_trial_thicks)), (a_this_numbers, .inl (cA, 12, .inl f_this_numbers)), (a_this_thickest, .inl (cA, 12, .inl f_this_thickest)), (a_this_refusals, .inl (cA, 7, .inl f_this_refusals))] sz) [(a_this, .inr (2, rf_o2 a_this_now a_this_then a_this_trial a_this_search a_this_letters a_this_numbers a_this_thickest a_this_refusals g_this)), (a_this_now, .inr (0, rf_o0 a_this_now_kinds a_this_now_thicks g_this_now)), (a_this_now_kinds, .inl (cA, 6, .inl f_this_now_kinds)), (a_this_now_thicks, .inl (cA, 6, .inl f_this_now_thicks)), (a_this_trial, .inr (0, rf_o0 a_this_trial_kinds a_this_trial_thicks q.2.1)), (a_this_trial_kinds, .inl (cA, 6, .inl q.2.2.1)), (a_this_trial_thicks, .inl (cA, 6, .inl q.2.2.2.1)), (a_this_numbers, .inl (cA, 12, .inl f_this_numbers)), (a_this_thickest, .inl (cA, 12, .inl q.2.2.2.2.1)), (a_this_refusals, .inl (cA, 7, .inl q.2.2.2.2.2))] t) (va_A [(a_this, .inr (2, rf_o2 a_this_now a_this_then a_this_trial a_this_search a_this_letters a_this_numbers a_this_thickest a_this_refusals g_this)), (a_this_now, .inr (0, rf_o0 a_this_now_kinds a_this_now_thicks g_this_now)), (a_this_now_kinds, .inl (cA, 6, .inl f_this_now_kinds)), (a_this_now_thicks, .inl (cA, 6, .inl f_this_now_thicks)), (a_this_trial, .inr (0, rf_o0 a_this_trial_kinds a_this_trial_thicks g_this_trial)), (a_this_trial_kinds, .inl (cA, 6, .inl f_this_trial_kinds)), (a_this_trial_thicks, .inl (cA, 6, .inl f_this_trial_thicks)), (a_this_numbers, .inl (cA, 12, .inl f_this_numbers)), (a_this_thickest, .inl (cA, 12, .inl f_this_thickest)), (a_this_refusals, .inl (cA, 7, .inl f_this_refusals))] sz)) 0 0 (va_A [(a_this, .inr (2, rf_o2 a_this_now a_this_then a_this_trial a_this_search a_this_letters a_this_numbers a_this_thickest a_this_refusals g_this)), (a_this_now, .inr (0, rf_o0 a_this_now_kinds a_this_now_thicks g_this_now)), (a_this_now_kinds, .inl (cA, 6, .inl f_this_now_kinds)), (a_this_now_thicks, .inl (cA, 6, .inl f_this_now_thicks)), (a_this_trial, .inr (0, rf_o0 a_this_trial_kinds a_this_trial_thicks g_this_trial)), (a_this_trial_kinds, .inl (cA, 6, .inl f_this_trial_kinds)), (a_this_trial_thicks, .inl (cA, 6, .inl f_this_trial_thicks)), (a_this_numbers, .inl (cA, 12, .inl f_this_numbers)), (a_this_thickest, .inl (cA, 12, .inl f_this_thickest)), (a_this_refusals, .inl (cA, 7, .inl f_this_refusals))] sz) := by
  refine Met.ofW (cc := cX2_worth) (maxL := 6) (ret := (some .int)) (by decide) rfl ?_
  intro p e s m args below meth c s₁ B hml hv
  obtain ⟨rfl, hsz, hP, hK, hD0, hE⟩ := hv
  have hx := B.exec
  have hb := B.bytes
  have hr := B.returns
  have hts := atoms_spec (ws := wsX2_worth) B.pre
  have hown : s.vm.findClass RX2 = some m.cls := findClass_of_methodNamed B.named
  have hlocks := B.notSynchronized
  subst hsz
  have hD := hD0.self (sz := s.heap.size)
  generalize hAe : va_A [(a_this, .inr (2, rf_o2 a_this_now a_this_then a_this_trial a_this_search a_this_letters a_this_numbers a_this_thickest a_this_refusals g_this)), (a_this_now, .inr (0, rf_o0 a_this_now_kinds a_this_now_thicks g_this_now)), (a_this_now_kinds, .inl (cA, 6, .inl f_this_now_kinds)), (a_this_now_thicks, .inl (cA, 6, .inl f_this_now_thicks)), (a_this_trial, .inr (0, rf_o0 a_this_trial_kinds a_this_trial_thicks g_this_trial)), (a_this_trial_kinds, .inl (cA, 6, .inl f_this_trial_kinds)), (a_this_trial_thicks, .inl (cA, 6, .inl f_this_trial_thicks)), (a_this_numbers, .inl (cA, 12, .inl f_this_numbers)), (a_this_thickest, .inl (cA, 12, .inl f_this_thickest)), (a_this_refusals, .inl (cA, 7, .inl f_this_refusals))] s.heap.size = A at hD hE ⊢
  have hA : ∀ q : Nat, s.heap.size ≤ q → A q := fun q h => by rw [← hAe]; exact Or.inr h
  have hS : va_S A s.heap s.heap [] := va_S.rf
  have hP : va_P D vwCl [(a_this, .inr (2, rf_o2 a_this_now a_this_then a_this_trial a_this_search a_this_letters a_this_numbers a_this_thickest a_this_refusals g_this)), (a_this_now, .inr (0, rf_o0 a_this_now_kinds a_this_now_thicks g_this_now)), (a_this_now_kinds, .inl (cA, 6, .inl f_this_now_kinds)), (a_this_now_thicks, .inl (cA, 6, .inl f_this_now_thicks)), (a_this_trial, .inr (0, rf_o0 a_this_trial_kinds a_this_trial_thicks g_this_trial)), (a_this_trial_kinds, .inl (cA, 6, .inl f_this_trial_kinds)), (a_this_trial_thicks, .inl (cA, 6, .inl f_this_trial_thicks)), (a_this_numbers, .inl (cA, 12, .inl f_this_numbers)), (a_this_thickest, .inl (cA, 12, .inl f_this_thickest)), (a_this_refusals, .inl (cA, 7, .inl f_this_refusals))] s.heap := hP
  have hl := lv_entry ([.ref a_this, .int p1, .int p2, .int p3, .int p4]) (n := 6) (Nat.le_of_ble_eq_true rfl)
  rw [lg_entry_eq]
  generalize (lg_sl ([.ref a_this, .int p1, .int p2, .int p3, .int p4]) ++ List.replicate (6 - (lg_sl ([.ref a_this, .int p1, .int p2, .int p3, .int p4])).length) Slot.unset).toArray = ls at hl ⊢
  have hl : lv_has ls 6 [(0, .ref a_this), (1, .int p1), (2, .int p2), (3, .int p3), (4, .int p4)] := hl
  rw [f_X2_worth] at hf
  refine lv_iload_n hx hb dX2_worth_0 rfl (lv_at hl 1 rfl) ?_
  refine lv_iload_n hx hb dX2_worth_1 rfl (lv_at hl 2 rfl) ?_
  refine lv_iload_n hx hb dX2_worth_2 rfl (lv_at hl 3 rfl) ?_
  refine lv_iload hx hb dX2_worth_3 (lv_at hl 4 rfl) ?_
  obtain ⟨q1, hq1, hf⟩ := rf_bindq hf
  refine rf_Si (As := [.int p1, .int p2, .int p3, .int p4]) (rest := []) (wr := [(a_this, .inr (2, rf_o2 a_this_now a_this_then a_this_trial a_this_search a_this_letters a_this_numbers a_this_thickest a_this_refusals g_this)), (a_this_now, .inr (0, rf_o0 a_this_now_kinds a_this_now_thicks g_this_now)), (a_this_now_kinds, .inl (cA, 6, .inl f_this_now_kinds)), (a_this_now_thicks, .inl (cA, 6, .inl f_this_now_thicks)), (a_this_trial, .inr (0, rf_o0 a_this_trial_kinds a_this_trial_thicks g_this_trial)), (a_this_trial_kinds, .inl (cA, 6, .inl f_this_trial_kinds)), (a_this_trial_thicks, .inl (cA, 6, .inl f_this_trial_thicks)), (a_this_numbers, .inl (cA, 12, .inl f_this_numbers)), (a_this_thickest, .inl (cA, 12, .inl f_this_thickest)), (a_this_refusals, .inl (cA, 7, .inl f_this_refusals))]) (wn := [(a_this, .inr (2, rf_o2 a_this_now a_this_then a_this_trial a_this_search a_this_letters a_this_numbers a_this_thickest a_this_refusals g_this)), (a_this_now, .inr (0, rf_o0 a_this_now_kinds a_this_now_thicks g_this_now)), (a_this_now_kinds, .inl (cA, 6, .inl f_this_now_kinds)), (a_this_now_thicks, .inl (cA, 6, .inl f_this_now_thicks)), (a_this_trial, .inr (0, rf_o0 a_this_trial_kinds a_this_trial_thicks g_this_trial)), (a_this_trial_kinds, .inl (cA, 6, .inl f_this_trial_kinds)), (a_this_trial_thicks, .inl (cA, 6, .inl f_this_trial_thicks)), (a_this_numbers, .inl (cA, 12, .inl f_this_numbers)), (a_this_thickest, .inl (cA, 12, .inl f_this_thickest)), (a_this_refusals, .inl (cA, 7, .inl f_this_refusals))]) ⟨hx, hb, hml, hown, hts⟩ hK hP hD hS hA hE (c_X2_spanRange l D cA ad s.heap.size p1 p2 p3 p4 q1 hq1) (va_cwS 4 hts gX2_worth_X2_spanRange rfl rfl rfl hs_X2_spanRange ⟨Nat.le_of_ble_eq_true rfl, Nat.le_of_ble_eq_true rfl⟩) [] [0, 1, 2, 3, 4, 5, 6, 7, 8, 9] [0, 1, 2, 3, 4, 5, 6, 7, 8, 9] rfl rfl rfl rfl (by decide) rfl rfl rfl rfl hl.1 (Nat.le_of_ble_eq_true rfl) dX2_worth_5 ⟨Nat.zero_le _, Nat.zero_le _⟩ (fun H locs hP hD hS => ?_)
  refine lv_istore (lv' := [(5, .int q1), (0, .ref a_this), (1, .int p1), (2, .int p2), (3, .int p3), (4, .int p4)]) hx hb dX2_worth_8 hl (by decide) rfl (fun ls hl => ?_)
  refine lv_iload hx hb dX2_worth_10 (lv_at hl 0 rfl) ?_
  refine lv_if_eq (tgt := 25) hx hb dX2_worth_12 (by decide) (fun c2 => ?_) (fun c2 => ?_)
  · have hf := rf_ifp hf c2
    refine lv_aload_n hx hb dX2_worth_25 rfl (lv_at hl 1 rfl) ?_
    refine va_get (D := D) (ci := 2) (v := .int (g_this 1)) (C := RX2) (T := TX2) (N := 12) hx hb hts jX2_worth_X2 hown hK hP 0 rfl rfl 9 (by decide) (hts _ kX2_worth_0) (fun _ h9 => h9) rfl dX2_worth_26 ?_
    refine lv_bipush (v := 12) hx hb dX2_worth_29 (by decide) ?_
    refine lv_icmp_eq (tgt := 44) hx hb dX2_worth_31 (by decide) (fun c3 => ?_) (fun c3 => ?_)
    · have hf := rf_ifp hf c3
      refine lv_aload_n hx hb dX2_worth_44 rfl (lv_at hl 1 rfl) ?_
      obtain ⟨q4, hq4, hf⟩ := rf_bindq hf
      refine rf_Vv (As := []) (rest := []) (wr := [(a_this_refusals, .inl (cA, 7, .inl f_this_refusals))]) (wn := [(a_this, .inr (2, rf_o2 a_this_now a_this_then a_this_trial a_this_search a_this_letters a_this_numbers a_this_thickest a_this_refusals g_this)), (a_this_now, .inr (0, rf_o0 a_this_now_kinds a_this_now_thicks g_this_now)), (a_this_now_kinds, .inl (cA, 6, .inl f_this_now_kinds)), (a_this_now_thicks, .inl (cA, 6, .inl f_this_now_thicks)), (a_this_trial, .inr (0, rf_o0 a_this_trial_kinds a_this_trial_thicks q4.1)), (a_this_trial_kinds, .inl (cA, 6, .inl q4.2.1)), (a_this_trial_thicks, .inl (cA, 6, .inl q4.2.2.1)), (a_this_numbers, .inl (cA, 12, .inl f_this_numbers)), (a_this_thickest, .inl (cA, 12, .inl q4.2.2.2)), (a_this_refusals, .inl (cA, 7, .inl f_this_refusals))]) ⟨hx, hb, hml, hown, hts⟩ hK hP hD hS hA hE (c_X2_measureMonths l D cA ad a_this a_this_now a_this_then a_this_trial a_this_search a_this_letters a_this_numbers a_this_thickest a_this_refusals a_this_now_kinds a_this_now_thicks a_this_trial_kinds a_this_trial_thicks H.size g_this g_this_now f_this_now_kinds f_this_now_thicks g_this_trial f_this_trial_kinds f_this_trial_thicks f_this_numbers f_this_thickest q4 hq4) (cwV 0 hts gX2_worth_X2_measureMonths rfl rfl rfl hv_X2_measureMonths ⟨Nat.le_of_ble_eq_true rfl, Nat.le_of_ble_eq_true rfl⟩) [0, 1, 2, 3, 4, 5, 6, 7, 8] [9] [1, 2, 3, 4, 5, 6, 7, 8, 9, 0] rfl rfl rfl rfl (by decide) rfl rfl 2 0 rfl rfl rfl rfl rfl hl.1 (Nat.le_of_ble_eq_true rfl) dX2_worth_45 ⟨Nat.zero_le _, Nat.zero_le _⟩ (fun H locs hP hD hS => ?_)
      refine lv_aload_n hx hb dX2_worth_48 rfl (lv_at hl 1 rfl) ?_
      refine lv_sipush (v := 4095) hx hb dX2_worth_49 (by decide) ?_
      refine lv_iload_n hx hb dX2_worth_52 rfl (lv_at hl 4 rfl) ?_
      refine lv_iload hx hb dX2_worth_53 (lv_at hl 5 rfl) ?_
      obtain ⟨q5, hq5, hf⟩ := rf_bindq hf
      refine rf_Vi (As := [.int 4095, .int p3, .int p4]) (rest := []) (wr := [(a_this_now, .inr (0, rf_o0 a_this_now_kinds a_this_now_thicks g_this_now)), (a_this_now_kinds, .inl (cA, 6, .inl f_this_now_kinds)), (a_this_now_thicks, .inl (cA, 6, .inl f_this_now_thicks)), (a_this_trial, .inr (0, rf_o0 a_this_trial_kinds a_this_trial_thicks q4.1)), (a_this_trial_kinds, .inl (cA, 6, .inl q4.2.1)), (a_this_trial_thicks, .inl (cA, 6, .inl q4.2.2.1)), (a_this_numbers, .inl (cA, 12, .inl f_this_numbers)), (a_this_refusals, .inl (cA, 7, .inl f_this_refusals))]) (wn := [(a_this, .inr (2, rf_o2 a_this_now a_this_then a_this_trial a_this_search a_this_letters a_this_numbers a_this_thickest a_this_refusals g_this)), (a_this_now, .inr (0, rf_o0 a_this_now_kinds a_this_now_thicks g_this_now)), (a_this_now_kinds, .inl (cA, 6, .inl f_this_now_kinds)), (a_this_now_thicks, .inl (cA, 6, .inl f_this_now_thicks)), (a_this_trial, .inr (0, rf_o0 a_this_trial_kinds a_this_trial_thicks q4.1)), (a_this_trial_kinds, .inl (cA, 6, .inl q4.2.1)), (a_this_trial_thicks, .inl (cA, 6, .inl q4.2.2.1)), (a_this_numbers, .inl (cA, 12, .inl f_this_numbers)), (a_this_thickest, .inl (cA, 12, .inl q4.2.2.2)), (a_this_refusals, .inl (cA, 7, .inl f_this_refusals))]) ⟨hx, hb, hml, hown, hts⟩ hK hP hD hS hA hE (c_X2_leastCost l D cA ad a_this a_this_now a_this_then a_this_trial a_this_search a_this_letters a_this_numbers a_this_thickest a_this_refusals H.size g_this q4.2.2.2 4095 p3 p4 q5 hq5) (cwV 3 hts gX2_worth_X2_leastCost rfl rfl rfl hv_X2_leastCost ⟨Nat.le_of_ble_eq_true rfl, Nat.le_of_ble_eq_true rfl⟩) [0, 8] [1, 2, 3, 4, 5, 6, 7, 9] [8, 0, 1, 2, 3, 4, 5, 6, 9, 7] rfl rfl rfl rfl (by decide) rfl rfl 2 0 rfl rfl rfl rfl rfl hl.1 (Nat.le_of_ble_eq_true rfl) dX2_worth_55 ⟨Nat.zero_le _, Nat.zero_le _⟩ (fun H locs hP hD hS => ?_)
      refine lv_aload_n hx hb dX2_worth_58 rfl (lv_at hl 1 rfl) ?_
      refine lv_iload_n hx hb dX2_worth_59 rfl (lv_at hl 2 rfl) ?_
      refine lv_iload_n hx hb dX2_worth_60 rfl (lv_at hl 3 rfl) ?_
      obtain ⟨q6, hq6, hf⟩ := rf_bindq hf
      refine rf_Si (As := [.int p1, .int p2]) (rest := [.ref a_this, .int q5]) (wr := [(a_this, .inr (2, rf_o2 a_this_now a_this_then a_this_trial a_this_search a_this_letters a_this_numbers a_this_thickest a_this_refusals g_this)), (a_this_now, .inr (0, rf_o0 a_this_now_kinds a_this_now_thicks g_this_now)), (a_this_now_kinds, .inl (cA, 6, .inl f_this_now_kinds)), (a_this_now_thicks, .inl (cA, 6, .inl f_this_now_thicks)), (a_this_trial, .inr (0, rf_o0 a_this_trial_kinds a_this_trial_thicks q4.1)), (a_this_trial_kinds, .inl (cA, 6, .inl q4.2.1)), (a_this_trial_thicks, .inl (cA, 6, .inl q4.2.2.1)), (a_this_numbers, .inl (cA, 12, .inl f_this_numbers)), (a_this_thickest, .inl (cA, 12, .inl q4.2.2.2)), (a_this_refusals, .inl (cA, 7, .inl f_this_refusals))]) (wn := [(a_this, .inr (2, rf_o2 a_this_now a_this_then a_this_trial a_this_search a_this_letters a_this_numbers a_this_thickest a_this_refusals g_this)), (a_this_now, .inr (0, rf_o0 a_this_now_kinds a_this_now_thicks g_this_now)), (a_this_now_kinds, .inl (cA, 6, .inl f_this_now_kinds)), (a_this_now_thicks, .inl (cA, 6, .inl f_this_now_thicks)), (a_this_trial, .inr (0, rf_o0 a_this_trial_kinds a_this_trial_thicks q4.1)), (a_this_trial_kinds, .inl (cA, 6, .inl q4.2.1)), (a_this_trial_thicks, .inl (cA, 6, .inl q4.2.2.1)), (a_this_numbers, .inl (cA, 12, .inl f_this_numbers)), (a_this_thickest, .inl (cA, 12, .inl q4.2.2.2)), (a_this_refusals, .inl (cA, 7, .inl f_this_refusals))]) ⟨hx, hb, hml, hown, hts⟩ hK hP hD hS hA hE (c_X2_monthSpan l D cA ad H.size p1 p2 q6 hq6) (va_cwS 2 hts gX2_worth_X2_monthSpan rfl rfl rfl hs_X2_monthSpan ⟨Nat.le_of_ble_eq_true rfl, Nat.le_of_ble_eq_true rfl⟩) [] [0, 1, 2, 3, 4, 5, 6, 7, 8, 9] [0, 1, 2, 3, 4, 5, 6, 7, 8, 9] rfl rfl rfl rfl (by decide) rfl rfl rfl rfl hl.1 (Nat.le_of_ble_eq_true rfl) dX2_worth_61 ⟨Nat.zero_le _, Nat.zero_le _⟩ (fun H locs hP hD hS => ?_)
      refine lv_iload_n hx hb dX2_worth_64 rfl (lv_at hl 4 rfl) ?_
      refine lv_iload hx hb dX2_worth_65 (lv_at hl 5 rfl) ?_
      obtain ⟨q7, hq7, hf⟩ := rf_bindq hf
      refine rf_Vi (As := [.int q6, .int p3, .int p4]) (rest := [.int q5]) (wr := [(a_this_now, .inr (0, rf_o0 a_this_now_kinds a_this_now_thicks g_this_now)), (a_this_now_kinds, .inl (cA, 6, .inl f_this_now_kinds)), (a_this_now_thicks, .inl (cA, 6, .inl f_this_now_thicks)), (a_this_trial, .inr (0, rf_o0 a_this_trial_kinds a_this_trial_thicks q4.1)), (a_this_trial_kinds, .inl (cA, 6, .inl q4.2.1)), (a_this_trial_thicks, .inl (cA, 6, .inl q4.2.2.1)), (a_this_numbers, .inl (cA, 12, .inl f_this_numbers)), (a_this_refusals, .inl (cA, 7, .inl f_this_refusals))]) (wn := [(a_this, .inr (2, rf_o2 a_this_now a_this_then a_this_trial a_this_search a_this_letters a_this_numbers a_this_thickest a_this_refusals g_this)), (a_this_now, .inr (0, rf_o0 a_this_now_kinds a_this_now_thicks g_this_now)), (a_this_now_kinds, .inl (cA, 6, .inl f_this_now_kinds)), (a_this_now_thicks, .inl (cA, 6, .inl f_this_now_thicks)), (a_this_trial, .inr (0, rf_o0 a_this_trial_kinds a_this_trial_thicks q4.1)), (a_this_trial_kinds, .inl (cA, 6, .inl q4.2.1)), (a_this_trial_thicks, .inl (cA, 6, .inl q4.2.2.1)), (a_this_numbers, .inl (cA, 12, .inl f_this_numbers)), (a_this_thickest, .inl (cA, 12, .inl q4.2.2.2)), (a_this_refusals, .inl (cA, 7, .inl f_this_refusals))]) ⟨hx, hb, hml, hown, hts⟩ hK hP hD hS hA hE (c_X2_twoCost l D cA ad a_this a_this_now a_this_then a_this_trial a_this_search a_this_letters a_this_numbers a_this_thickest a_this_refusals H.size g_this q4.2.2.2 q6 p3 p4 q7 hq7) (cwV 3 hts gX2_worth_X2_twoCost rfl rfl rfl hv_X2_twoCost ⟨Nat.le_of_ble_eq_true rfl, Nat.le_of_ble_eq_true rfl⟩) [0, 8] [1, 2, 3, 4, 5, 6, 7, 9] [8, 0, 1, 2, 3, 4, 5, 6, 9, 7] rfl rfl rfl rfl (by decide) rfl rfl 2 0 rfl rfl rfl rfl rfl hl.1 (Nat.le_of_ble_eq_true rfl) dX2_worth_67 ⟨Nat.zero_le _, Nat.zero_le _⟩ (fun H locs hP hD hS => ?_)
      refine lv_isub hx hb dX2_worth_70 ?_
      obtain rfl := Option.some.inj hf
      exact W.iret (v := (q5 - q7)) hx hb hr (fun t ht hW => ⟨⟨(q5 - q7), (), rfl, rfl, rf_mk ht hP hD⟩, hS.F ht⟩) hS.2.2 dX2_worth_71
    · have hf := rf_ifn hf c3
      refine lv_ldc hx hb hown (hts _ kX2_worth_1) dX2_worth_34 ?_
      refine lv_aload_n hx hb dX2_worth_36 rfl (lv_at hl 1 rfl) ?_
      refine lv_bipush (v := (-3)) hx hb dX2_worth_37 (by decide) ?_
      obtain ⟨q8, hq8, hf⟩ := rf_bindq hf
      refine rf_Vi (As := [.int (-3)]) (rest := [.int 1000000000]) (wr := [(a_this_now, .inr (0, rf_o0 a_this_now_kinds a_this_now_thicks g_this_now)), (a_this_now_kinds, .inl (cA, 6, .inl f_this_now_kinds)), (a_this_now_thicks, .inl (cA, 6, .inl f_this_now_thicks)), (a_this_trial, .inr (0, rf_o0 a_this_trial_kinds a_this_trial_thicks g_this_trial)), (a_this_trial_kinds, .inl (cA, 6, .inl f_this_trial_kinds)), (a_this_trial_thicks, .inl (cA, 6, .inl f_this_trial_thicks)), (a_this_numbers, .inl (cA, 12, .inl f_this_numbers)), (a_this_thickest, .inl (cA, 12, .inl f_this_thickest))]) (wn := [(a_this, .inr (2, rf_o2 a_this_now a_this_then a_this_trial a_this_search a_this_letters a_this_numbers a_this_thickest a_this_refusals g_this)), (a_this_now, .inr (0, rf_o0 a_this_now_kinds a_this_now_thicks g_this_now)), (a_this_now_kinds, .inl (cA, 6, .inl f_this_now_kinds)), (a_this_now_thicks, .inl (cA, 6, .inl f_this_now_thicks)), (a_this_trial, .inr (0, rf_o0 a_this_trial_kinds a_this_trial_thicks g_this_trial)), (a_this_trial_kinds, .inl (cA, 6, .inl f_this_trial_kinds)), (a_this_trial_thicks, .inl (cA, 6, .inl f_this_trial_thicks)), (a_this_numbers, .inl (cA, 12, .inl f_this_numbers)), (a_this_thickest, .inl (cA, 12, .inl f_this_thickest)), (a_this_refusals, .inl (cA, 7, .inl q8.2))]) ⟨hx, hb, hml, hown, hts⟩ hK hP hD hS hA hE (c_X2_refuse l D cA ad a_this a_this_now a_this_then a_this_trial a_this_search a_this_letters a_this_numbers a_this_thickest a_this_refusals H.size g_this f_this_refusals (-3) q8 hq8) (cwV 1 hts gX2_worth_X2_refuse rfl rfl rfl hv_X2_refuse ⟨Nat.le_of_ble_eq_true rfl, Nat.le_of_ble_eq_true rfl⟩) [0, 9] [1, 2, 3, 4, 5, 6, 7, 8] [8, 0, 1, 2, 3, 4, 5, 6, 7, 9] rfl rfl rfl rfl (by decide) rfl rfl 2 0 rfl rfl rfl rfl rfl hl.1 (Nat.le_of_ble_eq_true rfl) dX2_worth_39 ⟨Nat.zero_le _, Nat.zero_le _⟩ (fun H locs hP hD hS => ?_)
      refine lv_isub hx hb dX2_worth_42 ?_
      obtain rfl := Option.some.inj hf
      exact W.iret (v := (1000000000 - q8.1)) hx hb hr (fun t ht hW => ⟨⟨(1000000000 - q8.1), (), rfl, rfl, rf_mk ht hP hD⟩, hS.F ht⟩) hS.2.2 dX2_worth_43
  · have hf := rf_ifn hf c2
    refine lv_ldc hx hb hown (hts _ kX2_worth_1) dX2_worth_15 ?_
    refine lv_aload_n hx hb dX2_worth_17 rfl (lv_at hl 1 rfl) ?_
    refine lv_iload hx hb dX2_worth_18 (lv_at hl 0 rfl) ?_
    obtain ⟨q9, hq9, hf⟩ := rf_bindq hf
    refine rf_Vi (As := [.int q1]) (rest := [.int 1000000000]) (wr := [(a_this_now, .inr (0, rf_o0 a_this_now_kinds a_this_now_thicks g_this_now)), (a_this_now_kinds, .inl (cA, 6, .inl f_this_now_kinds)), (a_this_now_thicks, .inl (cA, 6, .inl f_this_now_thicks)), (a_this_trial, .inr (0, rf_o0 a_this_trial_kinds a_this_trial_thicks g_this_trial)), (a_this_trial_kinds, .inl (cA, 6, .inl f_this_trial_kinds)), (a_this_trial_thicks, .inl (cA, 6, .inl f_this_trial_thicks)), (a_this_numbers, .inl (cA, 12, .inl f_this_numbers)), (a_this_thickest, .inl (cA, 12, .inl f_this_thickest))]) (wn := [(a_this, .inr (2, rf_o2 a_this_now a_this_then a_this_trial a_this_search a_this_letters a_this_numbers a_this_thickest a_this_refusals g_this)), (a_this_now, .inr (0, rf_o0 a_this_now_kinds a_this_now_thicks g_this_now)), (a_this_now_kinds, .inl (cA, 6, .inl f_this_now_kinds)), (a_this_now_thicks, .inl (cA, 6, .inl f_this_now_thicks)), (a_this_trial, .inr (0, rf_o0 a_this_trial_kinds a_this_trial_thicks g_this_trial)), (a_this_trial_kinds, .inl (cA, 6, .inl f_this_trial_kinds)), (a_this_trial_thicks, .inl (cA, 6, .inl f_this_trial_thicks)), (a_this_numbers, .inl (cA, 12, .inl f_this_numbers)), (a_this_thickest, .inl (cA, 12, .inl f_this_thickest)), (a_this_refusals, .inl (cA, 7, .inl q9.2))]) ⟨hx, hb, hml, hown, hts⟩ hK hP hD hS hA hE (c_X2_refuse l D cA ad a_this a_this_now a_this_then a_this_trial a_this_search a_this_letters a_this_numbers a_this_thickest a_this_refusals H.size g_this f_this_refusals q1 q9 hq9) (cwV 1 hts gX2_worth_X2_refuse rfl rfl rfl hv_X2_refuse ⟨Nat.le_of_ble_eq_true rfl, Nat.le_of_ble_eq_true rfl⟩) [0, 9] [1, 2, 3, 4, 5, 6, 7, 8] [8, 0, 1, 2, 3, 4, 5, 6, 7, 9] rfl rfl rfl rfl (by decide) rfl rfl 2 0 rfl rfl rfl rfl rfl hl.1 (Nat.le_of_ble_eq_true rfl) dX2_worth_20 ⟨Nat.zero_le _, Nat.zero_le _⟩ (fun H locs hP hD hS => ?_)
    refine lv_isub hx hb dX2_worth_23 ?_
    obtain rfl := Option.some.inj hf
    exact W.iret (v := (1000000000 - q9.1)) hx hb hr (fun t ht hW => ⟨⟨(1000000000 - q9.1), (), rfl, rfl, rf_mk ht hP hD⟩, hS.F ht⟩) hS.2.2 dX2_worth_24
theorem kX2_went_0 : (.fieldLink RX2 19 "RingAndFinger" "trial" "LRingAndFinger$Finger;" : Cond) ∈ wsX2_went := by decide +kernel
theorem kX2_went_1 : (.fieldLink RX2 214 "RingAndFinger$Finger" "swell" "I" : Cond) ∈ wsX2_went := by decide +kernel
theorem kX2_went_2 : (.fieldLink RX2 146 "RingAndFinger$Finger" "size" "I" : Cond) ∈ wsX2_went := by decide +kernel
theorem kX2_went_3 : (.fieldLink RX2 107 "RingAndFinger$Finger" "broad" "I" : Cond) ∈ wsX2_went := by decide +kernel
theorem kX2_went_4 : (.fieldLink RX2 10 "RingAndFinger" "now" "LRingAndFinger$Finger;" : Cond) ∈ wsX2_went := by decide +kernel
theorem jX2_went_X2 : ∀ w ∈ u_ws RX2 TX2 12, w ∈ wsX2_went := by decide +kernel
theorem jX2_went_X0 : ∀ w ∈ u_ws RX0 TX0 12, w ∈ wsX2_went := by decide +kernel
set_option maxHeartbeats 8000000 in
set_option maxRecDepth 100000 in
theorem c_X2_went (l : Launch) (D : va_G) (cA : ClassId) (ad : Nat → Nat) (a_this a_this_now a_this_then a_this_trial a_this_search a_this_letters a_this_numbers a_this_thickest a_this_refusals a_this_now_kinds a_this_now_thicks a_this_trial_kinds a_this_trial_thicks : Nat) (sz : Nat) (g_this g_this_now f_this_now_kinds f_this_now_thicks g_this_trial f_this_trial_kinds f_this_trial_thicks f_this_refusals : Nat → Int32) (p1 p2 : Int32) (q : Int32 × (Nat → Int32) × (Nat → Int32) × (Nat → Int32) × (Nat → Int32)) (hf : f_X2_went g_this g_this_now f_this_now_kinds f_this_now_thicks g_this_trial f_this_trial_kinds f_this_trial_thicks f_this_refusals p1 p2 = some q) : Met l yX2_went wsX2_went ({ frames := 4, cells := 0, slots := 0, locals := 90 } : Room) (va_Pc [.ref a_this, .int p1, .int p2] (rf_Pre D cA ad [(a_this, .inr (2, rf_o2 a_this_now a_this_then a_this_trial a_this_search a_this_letters a_this_numbers a_this_thickest a_this_refusals g_this)), (a_this_now, .inr (0, rf_o0 a_this_now_kinds a_this_now_thicks g_this_now)), (a_this_now_kinds, .inl (cA, 6, .inl f_this_now_kinds)), (a_this_now_thicks, .inl (cA, 6, .inl f_this_now_thicks)), (a_this_trial, .inr (0, rf_o0 a_this_trial_kinds a_this_trial_thicks g_this_trial)), (a_this_trial_kinds, .inl (cA, 6, .inl f_this_trial_kinds)), (a_this_trial_thicks, .inl (cA, 6, .inl f_this_trial_thicks)), (a_this_refusals, .inl (cA, 7, .inl f_this_refusals))] sz)) (va_Qi (fun (r : Int32) (_ : Unit) => r = q.1) (fun _ t => rf_Post D (va_A [(a_this, .inr (2, rf_o2 a_this_now a_this_then a_this_trial a_this_search a_this_letters a_this_numbers a_this_thickest a_this_refusals g_this)), (a_this_now, .inr (0, rf_o0 a_this_now_kinds a_this_now_thicks g_this_now)), (a_this_now_kinds, .inl (cA, 6, .inl f_this_now_kinds)), (a_this_now_thicks, .inl (cA, 6, .inl f_this_now_thicks)), (a_this_trial, .inr (0, rf_o0 a_this_trial_kinds a_this_trial_thicks g_this_trial)), (a_this_trial_kinds, .inl (cA, 6, .inl f_this_trial_kinds)), (a_this_trial_thicks, .inl (cA, 6, .inl f_this_trial_thicks)), (a_this_refusals, .inl (cA, 7, .inl f_this_refusals))] sz) [(a_this, .inr (2, rf_o2 a_this_now a_this_then a_this_trial a_this_search a_this_letters a_this_numbers a_this_thickest a_this_refusals g_this)), (a_this_now, .inr (0, rf_o0 a_this_now_kinds a_this_now_thicks g_this_now)), (a_this_now_kinds, .inl (cA, 6, .inl f_this_now_kinds)), (a_this_now_thicks, .inl (cA, 6, .inl f_this_now_thicks)), (a_this_trial, .inr (0, rf_o0 a_this_trial_kinds a_this_trial_thicks q.2.1)), (a_this_trial_kinds, .inl (cA, 6, .inl q.2.2.1)), (a_this_trial_thicks, .inl (cA, 6, .inl q.2.2.2.1)), (a_this_refusals, .inl (cA, 7, .inl q.2.2.2.2))] t) (va_A [(a_this, .inr (2, rf_o2 a_this_now a_this_then a_this_trial a_this_search a_this_letters a_this_numbers a_this_thickest a_this_refusals g_this)), (a_this_now, .inr (0, rf_o0 a_this_now_kinds a_this_now_thicks g_this_now)), (a_this_now_kinds, .inl (cA, 6, .inl f_this_now_kinds)), (a_this_now_thicks, .inl (cA, 6, .inl f_this_now_thicks)), (a_this_trial, .inr (0, rf_o0 a_this_trial_kinds a_this_trial_thicks g_this_trial)), (a_this_trial_kinds, .inl (cA, 6, .inl f_this_trial_kinds)), (a_this_trial_thicks, .inl (cA, 6, .inl f_this_trial_thicks)), (a_this_refusals, .inl (cA, 7, .inl f_this_refusals))] sz)) 0 0 (va_A [(a_this, .inr (2, rf_o2 a_this_now a_this_then a_this_trial a_this_search a_this_letters a_this_numbers a_this_thickest a_this_refusals g_this)), (a_this_now, .inr (0, rf_o0 a_this_now_kinds a_this_now_thicks g_this_now)), (a_this_now_kinds, .inl (cA, 6, .inl f_this_now_kinds)), (a_this_now_thicks, .inl (cA, 6, .inl f_this_now_thicks)), (a_this_trial, .inr (0, rf_o0 a_this_trial_kinds a_this_trial_thicks g_this_trial)), (a_this_trial_kinds, .inl (cA, 6, .inl f_this_trial_kinds)), (a_this_trial_thicks, .inl (cA, 6, .inl f_this_trial_thicks)), (a_this_refusals, .inl (cA, 7, .inl f_this_refusals))] sz) := by
  refine Met.ofW (cc := cX2_went) (maxL := 6) (ret := (some .int)) (by decide) rfl ?_
  intro p e s m args below meth c s₁ B hml hv
  obtain ⟨rfl, hsz, hP, hK, hD0, hE⟩ := hv
  have hx := B.exec
  have hb := B.bytes
  have hr := B.returns
  have hts := atoms_spec (ws := wsX2_went) B.pre
  have hown : s.vm.findClass RX2 = some m.cls := findClass_of_methodNamed B.named
  have hlocks := B.notSynchronized
  subst hsz
  have hD := hD0.self (sz := s.heap.size)
  generalize hAe : va_A [(a_this, .inr (2, rf_o2 a_this_now a_this_then a_this_trial a_this_search a_this_letters a_this_numbers a_this_thickest a_this_refusals g_this)), (a_this_now, .inr (0, rf_o0 a_this_now_kinds a_this_now_thicks g_this_now)), (a_this_now_kinds, .inl (cA, 6, .inl f_this_now_kinds)), (a_this_now_thicks, .inl (cA, 6, .inl f_this_now_thicks)), (a_this_trial, .inr (0, rf_o0 a_this_trial_kinds a_this_trial_thicks g_this_trial)), (a_this_trial_kinds, .inl (cA, 6, .inl f_this_trial_kinds)), (a_this_trial_thicks, .inl (cA, 6, .inl f_this_trial_thicks)), (a_this_refusals, .inl (cA, 7, .inl f_this_refusals))] s.heap.size = A at hD hE ⊢
  have hA : ∀ q : Nat, s.heap.size ≤ q → A q := fun q h => by rw [← hAe]; exact Or.inr h
  have hS : va_S A s.heap s.heap [] := va_S.rf
  have hP : va_P D vwCl [(a_this, .inr (2, rf_o2 a_this_now a_this_then a_this_trial a_this_search a_this_letters a_this_numbers a_this_thickest a_this_refusals g_this)), (a_this_now, .inr (0, rf_o0 a_this_now_kinds a_this_now_thicks g_this_now)), (a_this_now_kinds, .inl (cA, 6, .inl f_this_now_kinds)), (a_this_now_thicks, .inl (cA, 6, .inl f_this_now_thicks)), (a_this_trial, .inr (0, rf_o0 a_this_trial_kinds a_this_trial_thicks g_this_trial)), (a_this_trial_kinds, .inl (cA, 6, .inl f_this_trial_kinds)), (a_this_trial_thicks, .inl (cA, 6, .inl f_this_trial_thicks)), (a_this_refusals, .inl (cA, 7, .inl f_this_refusals))] s.heap := hP
  have hl := lv_entry ([.ref a_this, .int p1, .int p2]) (n := 6) (Nat.le_of_ble_eq_true rfl)
  rw [lg_entry_eq]
  generalize (lg_sl ([.ref a_this, .int p1, .int p2]) ++ List.replicate (6 - (lg_sl ([.ref a_this, .int p1, .int p2])).length) Slot.unset).toArray = ls at hl ⊢
  have hl : lv_has ls 6 [(0, .ref a_this), (1, .int p1), (2, .int p2)] := hl
  have key_41 : ∀ (yf_this_trial_kinds yf_this_trial_thicks yf_this_refusals : Nat → Int32) (n : Nat) (x3 x4 x5 : Int32) (yg_this_trial : Nat → Int32) (ql : Int32 × Int32 × Int32 × (Nat → Int32)), f_X2_went_L41 g_this g_this_now f_this_now_kinds f_this_now_thicks p1 p2 yf_this_trial_kinds yf_this_trial_thicks yf_this_refusals n x3 x4 x5 yg_this_trial = some ql → ∀ (H : Heap) (locs : List Loc) (ls : Array Slot), va_P D vwCl [(a_this, .inr (2, rf_o2 a_this_now a_this_then a_this_trial a_this_search a_this_letters a_this_numbers a_this_thickest a_this_refusals g_this)), (a_this_now, .inr (0, rf_o0 a_this_now_kinds a_this_now_thicks g_this_now)), (a_this_now_kinds, .inl (cA, 6, .inl f_this_now_kinds)), (a_this_now_thicks, .inl (cA, 6, .inl f_this_now_thicks)), (a_this_trial, .inr (0, rf_o0 a_this_trial_kinds a_this_trial_thicks yg_this_trial)), (a_this_trial_kinds, .inl (cA, 6, .inl yf_this_trial_kinds)), (a_this_trial_thicks, .inl (cA, 6, .inl yf_this_trial_thicks)), (a_this_refusals, .inl (cA, 7, .inl yf_this_refusals))] H → va_D A [(a_this, .inr (2, rf_o2 a_this_now a_this_then a_this_trial a_this_search a_this_letters a_this_numbers a_this_thickest a_this_refusals g_this)), (a_this_now, .inr (0, rf_o0 a_this_now_kinds a_this_now_thicks g_this_now)), (a_this_now_kinds, .inl (cA, 6, .inl f_this_now_kinds)), (a_this_now_thicks, .inl (cA, 6, .inl f_this_now_thicks)), (a_this_trial, .inr (0, rf_o0 a_this_trial_kinds a_this_trial_thicks yg_this_trial)), (a_this_trial_kinds, .inl (cA, 6, .inl yf_this_trial_kinds)), (a_this_trial_thicks, .inl (cA, 6, .inl yf_this_trial_thicks)), (a_this_refusals, .inl (cA, 7, .inl yf_this_refusals))] → va_S A s.heap H locs → lv_has ls 6 [(0, .ref a_this), (1, .int p1), (2, .int p2), (3, .int x3), (4, .int x4), (5, .int x5)] → (∀ (H : Heap) (locs : List Loc) (ls : Array Slot), va_P D vwCl [(a_this, .inr (2, rf_o2 a_this_now a_this_then a_this_trial a_this_search a_this_letters a_this_numbers a_this_thickest a_this_refusals g_this)), (a_this_now, .inr (0, rf_o0 a_this_now_kinds a_this_now_thicks g_this_now)), (a_this_now_kinds, .inl (cA, 6, .inl f_this_now_kinds)), (a_this_now_thicks, .inl (cA, 6, .inl f_this_now_thicks)), (a_this_trial, .inr (0, rf_o0 a_this_trial_kinds a_this_trial_thicks ql.2.2.2)), (a_this_trial_kinds, .inl (cA, 6, .inl yf_this_trial_kinds)), (a_this_trial_thicks, .inl (cA, 6, .inl yf_this_trial_thicks)), (a_this_refusals, .inl (cA, 7, .inl yf_this_refusals))] H → va_D A [(a_this, .inr (2, rf_o2 a_this_now a_this_then a_this_trial a_this_search a_this_letters a_this_numbers a_this_thickest a_this_refusals g_this)), (a_this_now, .inr (0, rf_o0 a_this_now_kinds a_this_now_thicks g_this_now)), (a_this_now_kinds, .inl (cA, 6, .inl f_this_now_kinds)), (a_this_now_thicks, .inl (cA, 6, .inl f_this_now_thicks)), (a_this_trial, .inr (0, rf_o0 a_this_trial_kinds a_this_trial_thicks ql.2.2.2)), (a_this_trial_kinds, .inl (cA, 6, .inl yf_this_trial_kinds)), (a_this_trial_thicks, .inl (cA, 6, .inl yf_this_trial_thicks)), (a_this_refusals, .inl (cA, 7, .inl yf_this_refusals))] → va_S A s.heap H locs → lv_has ls 6 [(0, .ref a_this), (1, .int p1), (2, .int p2), (3, .int ql.1), (4, .int ql.2.1), (5, .int ql.2.2.1)] → W p l e (headSpec wsX2_went ({ frames := 4, cells := 0, slots := 0, locals := 90 } : Room)).room s m ([.ref a_this, .int p1, .int p2] : List Value).toArray below meth c H locs 0 0 (MQ below (va_Qi (fun (r : Int32) (_ : Unit) => r = q.1) (fun _ t => rf_Post D A [(a_this, .inr (2, rf_o2 a_this_now a_this_then a_this_trial a_this_search a_this_letters a_this_numbers a_this_thickest a_this_refusals g_this)), (a_this_now, .inr (0, rf_o0 a_this_now_kinds a_this_now_thicks g_this_now)), (a_this_now_kinds, .inl (cA, 6, .inl f_this_now_kinds)), (a_this_now_thicks, .inl (cA, 6, .inl f_this_now_thicks)), (a_this_trial, .inr (0, rf_o0 a_this_trial_kinds a_this_trial_thicks q.2.1)), (a_this_trial_kinds, .inl (cA, 6, .inl q.2.2.1)), (a_this_trial_thicks, .inl (cA, 6, .inl q.2.2.2.1)), (a_this_refusals, .inl (cA, 7, .inl q.2.2.2.2))] t) A) ([.ref a_this, .int p1, .int p2] : List Value).toArray s 0 0 A) (F0 m 99 ls [])) → W p l e (headSpec wsX2_went ({ frames := 4, cells := 0, slots := 0, locals := 90 } : Room)).room s m ([.ref a_this, .int p1, .int p2] : List Value).toArray below meth c H locs 0 0 (MQ below (va_Qi (fun (r : Int32) (_ : Unit) => r = q.1) (fun _ t => rf_Post D A [(a_this, .inr (2, rf_o2 a_this_now a_this_then a_this_trial a_this_search a_this_letters a_this_numbers a_this_thickest a_this_refusals g_this)), (a_this_now, .inr (0, rf_o0 a_this_now_kinds a_this_now_thicks g_this_now)), (a_this_now_kinds, .inl (cA, 6, .inl f_this_now_kinds)), (a_this_now_thicks, .inl (cA, 6, .inl f_this_now_thicks)), (a_this_trial, .inr (0, rf_o0 a_this_trial_kinds a_this_trial_thicks q.2.1)), (a_this_trial_kinds, .inl (cA, 6, .inl q.2.2.1)), (a_this_trial_thicks, .inl (cA, 6, .inl q.2.2.2.1)), (a_this_refusals, .inl (cA, 7, .inl q.2.2.2.2))] t) A) ([.ref a_this, .int p1, .int p2] : List Value).toArray s 0 0 A) (F0 m 41 ls []) := by
    intro yf_this_trial_kinds yf_this_trial_thicks yf_this_refusals n
    induction n with
    | zero =>
      intro x3 x4 x5 yg_this_trial ql hf H locs ls hP hD hS hl kx
      exact absurd (show (none : Option (Int32 × Int32 × Int32 × (Nat → Int32))) = some ql from hf) (fun h9 => by cases h9)
    | succ n ih =>
      intro x3 x4 x5 yg_this_trial ql hf H locs ls hP hD hS hl kx
      rw [f_X2_went_L41] at hf
      refine lv_iload hx hb dX2_went_41 (lv_at hl 5 rfl) ?_
      refine lv_bipush (v := 30) hx hb dX2_went_43 (by decide) ?_
      refine lv_icmp_gt (tgt := 99) hx hb dX2_went_45 (by decide) (fun c1 => ?_) (fun c1 => ?_)
      · have hf := rf_ifp hf c1
        obtain rfl := Option.some.inj hf
        exact kx _ _ _ hP hD hS (lv_sub hl [0, 1, 2, 3, 4, 5] rfl)
      · have hf := rf_ifn hf c1
        refine lv_aload_n hx hb dX2_went_48 rfl (lv_at hl 0 rfl) ?_
        refine va_get (D := D) (ci := 2) (v := .ref a_this_trial) (C := RX2) (T := TX2) (N := 12) hx hb hts jX2_went_X2 hown hK hP 0 rfl rfl 2 (by decide) (hts _ kX2_went_0) (fun _ h9 => h9) rfl dX2_went_49 ?_
        refine lv_iload hx hb dX2_went_52 (lv_at hl 5 rfl) ?_
        refine va_put (D := D) (ci := 0) (v := .int x5) (ty := .int) (C := RX0) (T := TX0) (N := 12) hx hb hts jX2_went_X0 tyX0 tyX0_ok nmX0 hown hK hP hD hS 4 rfl rfl 6 (by decide) (hts _ kX2_went_1) (fun _ h9 => h9) rfl (by decide +kernel) rfl rfl (Nat.le_of_ble_eq_true rfl) dX2_went_54 (fun H locs hP hD hS => ?_)
        have hP : va_P D vwCl [(a_this, .inr (2, rf_o2 a_this_now a_this_then a_this_trial a_this_search a_this_letters a_this_numbers a_this_thickest a_this_refusals g_this)), (a_this_now, .inr (0, rf_o0 a_this_now_kinds a_this_now_thicks g_this_now)), (a_this_now_kinds, .inl (cA, 6, .inl f_this_now_kinds)), (a_this_now_thicks, .inl (cA, 6, .inl f_this_now_thicks)), (a_this_trial, .inr (0, rf_o0 a_this_trial_kinds a_this_trial_thicks (upd yg_this_trial 4 x5))), (a_this_trial_kinds, .inl (cA, 6, .inl yf_this_trial_kinds)), (a_this_trial_thicks, .inl (cA, 6, .inl yf_this_trial_thicks)), (a_this_refusals, .inl (cA, 7, .inl yf_this_refusals))] H := hP
        have hD : va_D A [(a_this, .inr (2, rf_o2 a_this_now a_this_then a_this_trial a_this_search a_this_letters a_this_numbers a_this_thickest a_this_refusals g_this)), (a_this_now, .inr (0, rf_o0 a_this_now_kinds a_this_now_thicks g_this_now)), (a_this_now_kinds, .inl (cA, 6, .inl f_this_now_kinds)), (a_this_now_thicks, .inl (cA, 6, .inl f_this_now_thicks)), (a_this_trial, .inr (0, rf_o0 a_this_trial_kinds a_this_trial_thicks (upd yg_this_trial 4 x5))), (a_this_trial_kinds, .inl (cA, 6, .inl yf_this_trial_kinds)), (a_this_trial_thicks, .inl (cA, 6, .inl yf_this_trial_thicks)), (a_this_refusals, .inl (cA, 7, .inl yf_this_refusals))] := hD
        refine lv_aload_n hx hb dX2_went_57 rfl (lv_at hl 0 rfl) ?_
        refine va_get (D := D) (ci := 2) (v := .ref a_this_trial) (C := RX2) (T := TX2) (N := 12) hx hb hts jX2_went_X2 hown hK hP 0 rfl rfl 2 (by decide) (hts _ kX2_went_0) (fun _ h9 => h9) rfl dX2_went_58 ?_
        obtain ⟨q2, hq2, hf⟩ := rf_bindq hf
        refine rf_Vi (As := []) (rest := []) (wr := [(a_this, .inr (2, rf_o2 a_this_now a_this_then a_this_trial a_this_search a_this_letters a_this_numbers a_this_thickest a_this_refusals g_this)), (a_this_now, .inr (0, rf_o0 a_this_now_kinds a_this_now_thicks g_this_now)), (a_this_now_kinds, .inl (cA, 6, .inl f_this_now_kinds)), (a_this_now_thicks, .inl (cA, 6, .inl f_this_now_thicks)), (a_this_refusals, .inl (cA, 7, .inl yf_this_refusals))]) (wn := [(a_this, .inr (2, rf_o2 a_this_now a_this_then a_this_trial a_this_search a_this_letters a_this_numbers a_this_thickest a_this_refusals g_this)), (a_this_now, .inr (0, rf_o0 a_this_now_kinds a_this_now_thicks g_this_now)), (a_this_now_kinds, .inl (cA, 6, .inl f_this_now_kinds)), (a_this_now_thicks, .inl (cA, 6, .inl f_this_now_thicks)), (a_this_trial, .inr (0, rf_o0 a_this_trial_kinds a_this_trial_thicks (upd yg_this_trial 4 x5))), (a_this_trial_kinds, .inl (cA, 6, .inl yf_this_trial_kinds)), (a_this_trial_thicks, .inl (cA, 6, .inl yf_this_trial_thicks)), (a_this_refusals, .inl (cA, 7, .inl yf_this_refusals))]) ⟨hx, hb, hml, hown, hts⟩ hK hP hD hS hA hE (c_X0_thickestNow l D cA ad a_this_trial a_this_trial_kinds a_this_trial_thicks H.size (upd yg_this_trial 4 x5) yf_this_trial_kinds yf_this_trial_thicks q2 hq2) (cwV 0 hts gX2_went_X0_thickestNow rfl rfl rfl hv_X0_thickestNow ⟨Nat.le_of_ble_eq_true rfl, Nat.le_of_ble_eq_true rfl⟩) [4, 5, 6] [0, 1, 2, 3, 7] [0, 1, 2, 3, 5, 6, 7, 4] rfl rfl rfl rfl (by decide) rfl rfl 0 4 rfl rfl rfl rfl rfl hl.1 (Nat.le_of_ble_eq_true rfl) dX2_went_61 ⟨Nat.zero_le _, Nat.zero_le _⟩ (fun H locs hP hD hS => ?_)
        refine lv_aload_n hx hb dX2_went_64 rfl (lv_at hl 0 rfl) ?_
        refine va_get (D := D) (ci := 2) (v := .ref a_this_trial) (C := RX2) (T := TX2) (N := 12) hx hb hts jX2_went_X2 hown hK hP 0 rfl rfl 2 (by decide) (hts _ kX2_went_0) (fun _ h9 => h9) rfl dX2_went_65 ?_
        refine va_get (D := D) (ci := 0) (v := .int (yg_this_trial 1)) (C := RX0) (T := TX0) (N := 12) hx hb hts jX2_went_X0 hown hK hP 4 rfl rfl 3 (by decide) (hts _ kX2_went_2) (fun _ h9 => h9) rfl dX2_went_68 ?_
        refine lv_iload_n hx hb dX2_went_71 rfl (lv_at hl 1 rfl) ?_
        refine lv_aload_n hx hb dX2_went_72 rfl (lv_at hl 0 rfl) ?_
        refine va_get (D := D) (ci := 2) (v := .ref a_this_trial) (C := RX2) (T := TX2) (N := 12) hx hb hts jX2_went_X2 hown hK hP 0 rfl rfl 2 (by decide) (hts _ kX2_went_0) (fun _ h9 => h9) rfl dX2_went_73 ?_
        refine va_get (D := D) (ci := 0) (v := .int (yg_this_trial 2)) (C := RX0) (T := TX0) (N := 12) hx hb hts jX2_went_X0 hown hK hP 4 rfl rfl 4 (by decide) (hts _ kX2_went_3) (fun _ h9 => h9) rfl dX2_went_76 ?_
        obtain ⟨q3, hq3, hf⟩ := rf_bindq hf
        refine rf_Si (As := [.int p1, .int (yg_this_trial 2)]) (rest := [.int (yg_this_trial 1), .int q2]) (wr := [(a_this, .inr (2, rf_o2 a_this_now a_this_then a_this_trial a_this_search a_this_letters a_this_numbers a_this_thickest a_this_refusals g_this)), (a_this_now, .inr (0, rf_o0 a_this_now_kinds a_this_now_thicks g_this_now)), (a_this_now_kinds, .inl (cA, 6, .inl f_this_now_kinds)), (a_this_now_thicks, .inl (cA, 6, .inl f_this_now_thicks)), (a_this_trial, .inr (0, rf_o0 a_this_trial_kinds a_this_trial_thicks (upd yg_this_trial 4 x5))), (a_this_trial_kinds, .inl (cA, 6, .inl yf_this_trial_kinds)), (a_this_trial_thicks, .inl (cA, 6, .inl yf_this_trial_thicks)), (a_this_refusals, .inl (cA, 7, .inl yf_this_refusals))]) (wn := [(a_this, .inr (2, rf_o2 a_this_now a_this_then a_this_trial a_this_search a_this_letters a_this_numbers a_this_thickest a_this_refusals g_this)), (a_this_now, .inr (0, rf_o0 a_this_now_kinds a_this_now_thicks g_this_now)), (a_this_now_kinds, .inl (cA, 6, .inl f_this_now_kinds)), (a_this_now_thicks, .inl (cA, 6, .inl f_this_now_thicks)), (a_this_trial, .inr (0, rf_o0 a_this_trial_kinds a_this_trial_thicks (upd yg_this_trial 4 x5))), (a_this_trial_kinds, .inl (cA, 6, .inl yf_this_trial_kinds)), (a_this_trial_thicks, .inl (cA, 6, .inl yf_this_trial_thicks)), (a_this_refusals, .inl (cA, 7, .inl yf_this_refusals))]) ⟨hx, hb, hml, hown, hts⟩ hK hP hD hS hA hE (c_X2_allowance l D cA ad H.size p1 (yg_this_trial 2) q3 hq3) (va_cwS 2 hts gX2_went_X2_allowance rfl rfl rfl hs_X2_allowance ⟨Nat.le_of_ble_eq_true rfl, Nat.le_of_ble_eq_true rfl⟩) [] [0, 1, 2, 3, 4, 5, 6, 7] [0, 1, 2, 3, 4, 5, 6, 7] rfl rfl rfl rfl (by decide) rfl rfl rfl rfl hl.1 (Nat.le_of_ble_eq_true rfl) dX2_went_79 ⟨Nat.zero_le _, Nat.zero_le _⟩ (fun H locs hP hD hS => ?_)
        refine lv_iadd hx hb dX2_went_82 ?_
        refine lv_icmp_gt (tgt := 93) hx hb dX2_went_83 (by decide) (fun c4 => ?_) (fun c4 => ?_)
        · have hf := rf_ifp hf c4
          obtain ⟨v5, ev5⟩ : ∃ y : Int32, y = x5 + 1 := ⟨_, rfl⟩
          have hf := rf_bindv hf ev5
          refine lv_iinc (v := v5) (lv' := [(5, .int v5), (0, .ref a_this), (1, .int p1), (2, .int p2), (3, .int x3), (4, .int x4)]) hx hb dX2_went_93 hl (k := 5) rfl (by rw [ev5]; rfl) (by decide) rfl (fun ls hl => ?_)
          clear ev5
          refine lv_goto (tgt := 41) hx hb dX2_went_96 (by decide) ?_
          exact ih x3 x4 v5 (upd yg_this_trial 4 x5) ql hf _ _ _ hP hD hS (lv_sub hl [1, 2, 3, 4, 5, 0] rfl) kx
        · have hf := rf_ifn hf c4
          obtain ⟨v6, ev6⟩ : ∃ y : Int32, y = x3 + 1 := ⟨_, rfl⟩
          have hf := rf_bindv hf ev6
          refine lv_iinc (v := v6) (lv' := [(3, .int v6), (0, .ref a_this), (1, .int p1), (2, .int p2), (4, .int x4), (5, .int x5)]) hx hb dX2_went_86 hl (k := 3) rfl (by rw [ev6]; rfl) (by decide) rfl (fun ls hl => ?_)
          clear ev6
          refine lv_iload hx hb dX2_went_89 (lv_at hl 5 rfl) ?_
          refine lv_istore (lv' := [(4, .int x5), (3, .int v6), (0, .ref a_this), (1, .int p1), (2, .int p2), (5, .int x5)]) hx hb dX2_went_91 hl (by decide) rfl (fun ls hl => ?_)
          obtain ⟨v7, ev7⟩ : ∃ y : Int32, y = x5 + 1 := ⟨_, rfl⟩
          have hf := rf_bindv hf ev7
          refine lv_iinc (v := v7) (lv' := [(5, .int v7), (4, .int x5), (3, .int v6), (0, .ref a_this), (1, .int p1), (2, .int p2)]) hx hb dX2_went_93 hl (k := 5) rfl (by rw [ev7]; rfl) (by decide) rfl (fun ls hl => ?_)
          clear ev7
          refine lv_goto (tgt := 41) hx hb dX2_went_96 (by decide) ?_
          exact ih v6 x5 v7 (upd yg_this_trial 4 x5) ql hf _ _ _ hP hD hS (lv_sub hl [3, 4, 5, 2, 1, 0] rfl) kx
  rw [f_X2_went] at hf
  refine lv_iload_n hx hb dX2_went_0 rfl (lv_at hl 1 rfl) ?_
  obtain ⟨q8, hq8, hf⟩ := rf_bindq hf
  refine rf_Si (As := [.int p1]) (rest := []) (wr := [(a_this, .inr (2, rf_o2 a_this_now a_this_then a_this_trial a_this_search a_this_letters a_this_numbers a_this_thickest a_this_refusals g_this)), (a_this_now, .inr (0, rf_o0 a_this_now_kinds a_this_now_thicks g_this_now)), (a_this_now_kinds, .inl (cA, 6, .inl f_this_now_kinds)), (a_this_now_thicks, .inl (cA, 6, .inl f_this_now_thicks)), (a_this_trial, .inr (0, rf_o0 a_this_trial_kinds a_this_trial_thicks g_this_trial)), (a_this_trial_kinds, .inl (cA, 6, .inl f_this_trial_kinds)), (a_this_trial_thicks, .inl (cA, 6, .inl f_this_trial_thicks)), (a_this_refusals, .inl (cA, 7, .inl f_this_refusals))]) (wn := [(a_this, .inr (2, rf_o2 a_this_now a_this_then a_this_trial a_this_search a_this_letters a_this_numbers a_this_thickest a_this_refusals g_this)), (a_this_now, .inr (0, rf_o0 a_this_now_kinds a_this_now_thicks g_this_now)), (a_this_now_kinds, .inl (cA, 6, .inl f_this_now_kinds)), (a_this_now_thicks, .inl (cA, 6, .inl f_this_now_thicks)), (a_this_trial, .inr (0, rf_o0 a_this_trial_kinds a_this_trial_thicks g_this_trial)), (a_this_trial_kinds, .inl (cA, 6, .inl f_this_trial_kinds)), (a_this_trial_thicks, .inl (cA, 6, .inl f_this_trial_thicks)), (a_this_refusals, .inl (cA, 7, .inl f_this_refusals))]) ⟨hx, hb, hml, hown, hts⟩ hK hP hD hS hA hE (c_X2_isTry l D cA ad s.heap.size p1 q8 hq8) (va_cwS 1 hts gX2_went_X2_isTry rfl rfl rfl hs_X2_isTry ⟨Nat.le_of_ble_eq_true rfl, Nat.le_of_ble_eq_true rfl⟩) [] [0, 1, 2, 3, 4, 5, 6, 7] [0, 1, 2, 3, 4, 5, 6, 7] rfl rfl rfl rfl (by decide) rfl rfl rfl rfl hl.1 (Nat.le_of_ble_eq_true rfl) dX2_went_1 ⟨Nat.zero_le _, Nat.zero_le _⟩ (fun H locs hP hD hS => ?_)
  refine lv_if_eq (tgt := 14) hx hb dX2_went_4 (by decide) (fun c9 => ?_) (fun c9 => ?_)
  · have hf := rf_ifp hf c9
    refine lv_aload_n hx hb dX2_went_14 rfl (lv_at hl 0 rfl) ?_
    refine lv_bipush (v := (-2)) hx hb dX2_went_15 (by decide) ?_
    obtain ⟨q10, hq10, hf⟩ := rf_bindq hf
    refine rf_Vi (As := [.int (-2)]) (rest := []) (wr := [(a_this_now, .inr (0, rf_o0 a_this_now_kinds a_this_now_thicks g_this_now)), (a_this_now_kinds, .inl (cA, 6, .inl f_this_now_kinds)), (a_this_now_thicks, .inl (cA, 6, .inl f_this_now_thicks)), (a_this_trial, .inr (0, rf_o0 a_this_trial_kinds a_this_trial_thicks g_this_trial)), (a_this_trial_kinds, .inl (cA, 6, .inl f_this_trial_kinds)), (a_this_trial_thicks, .inl (cA, 6, .inl f_this_trial_thicks))]) (wn := [(a_this, .inr (2, rf_o2 a_this_now a_this_then a_this_trial a_this_search a_this_letters a_this_numbers a_this_thickest a_this_refusals g_this)), (a_this_now, .inr (0, rf_o0 a_this_now_kinds a_this_now_thicks g_this_now)), (a_this_now_kinds, .inl (cA, 6, .inl f_this_now_kinds)), (a_this_now_thicks, .inl (cA, 6, .inl f_this_now_thicks)), (a_this_trial, .inr (0, rf_o0 a_this_trial_kinds a_this_trial_thicks g_this_trial)), (a_this_trial_kinds, .inl (cA, 6, .inl f_this_trial_kinds)), (a_this_trial_thicks, .inl (cA, 6, .inl f_this_trial_thicks)), (a_this_refusals, .inl (cA, 7, .inl q10.2))]) ⟨hx, hb, hml, hown, hts⟩ hK hP hD hS hA hE (c_X2_refuse l D cA ad a_this a_this_now a_this_then a_this_trial a_this_search a_this_letters a_this_numbers a_this_thickest a_this_refusals H.size g_this f_this_refusals (-2) q10 hq10) (cwV 1 hts gX2_went_X2_refuse rfl rfl rfl hv_X2_refuse ⟨Nat.le_of_ble_eq_true rfl, Nat.le_of_ble_eq_true rfl⟩) [0, 7] [1, 2, 3, 4, 5, 6] [6, 0, 1, 2, 3, 4, 5, 7] rfl rfl rfl rfl (by decide) rfl rfl 2 0 rfl rfl rfl rfl rfl hl.1 (Nat.le_of_ble_eq_true rfl) dX2_went_17 ⟨Nat.zero_le _, Nat.zero_le _⟩ (fun H locs hP hD hS => ?_)
    obtain rfl := Option.some.inj hf
    exact W.iret (v := q10.1) hx hb hr (fun t ht hW => ⟨⟨q10.1, (), rfl, rfl, rf_mk ht hP hD⟩, hS.F ht⟩) hS.2.2 dX2_went_20
  · have hf := rf_ifn hf c9
    refine lv_iload_n hx hb dX2_went_7 rfl (lv_at hl 2 rfl) ?_
    obtain ⟨q11, hq11, hf⟩ := rf_bindq hf
    refine rf_Si (As := [.int p2]) (rest := []) (wr := [(a_this, .inr (2, rf_o2 a_this_now a_this_then a_this_trial a_this_search a_this_letters a_this_numbers a_this_thickest a_this_refusals g_this)), (a_this_now, .inr (0, rf_o0 a_this_now_kinds a_this_now_thicks g_this_now)), (a_this_now_kinds, .inl (cA, 6, .inl f_this_now_kinds)), (a_this_now_thicks, .inl (cA, 6, .inl f_this_now_thicks)), (a_this_trial, .inr (0, rf_o0 a_this_trial_kinds a_this_trial_thicks g_this_trial)), (a_this_trial_kinds, .inl (cA, 6, .inl f_this_trial_kinds)), (a_this_trial_thicks, .inl (cA, 6, .inl f_this_trial_thicks)), (a_this_refusals, .inl (cA, 7, .inl f_this_refusals))]) (wn := [(a_this, .inr (2, rf_o2 a_this_now a_this_then a_this_trial a_this_search a_this_letters a_this_numbers a_this_thickest a_this_refusals g_this)), (a_this_now, .inr (0, rf_o0 a_this_now_kinds a_this_now_thicks g_this_now)), (a_this_now_kinds, .inl (cA, 6, .inl f_this_now_kinds)), (a_this_now_thicks, .inl (cA, 6, .inl f_this_now_thicks)), (a_this_trial, .inr (0, rf_o0 a_this_trial_kinds a_this_trial_thicks g_this_trial)), (a_this_trial_kinds, .inl (cA, 6, .inl f_this_trial_kinds)), (a_this_trial_thicks, .inl (cA, 6, .inl f_this_trial_thicks)), (a_this_refusals, .inl (cA, 7, .inl f_this_refusals))]) ⟨hx, hb, hml, hown, hts⟩ hK hP hD hS hA hE (c_X2_isEither l D cA ad H.size p2 q11 hq11) (va_cwS 1 hts gX2_went_X2_isEither rfl rfl rfl hs_X2_isEither ⟨Nat.le_of_ble_eq_true rfl, Nat.le_of_ble_eq_true rfl⟩) [] [0, 1, 2, 3, 4, 5, 6, 7] [0, 1, 2, 3, 4, 5, 6, 7] rfl rfl rfl rfl (by decide) rfl rfl rfl rfl hl.1 (Nat.le_of_ble_eq_true rfl) dX2_went_8 ⟨Nat.zero_le _, Nat.zero_le _⟩ (fun H locs hP hD hS => ?_)
    refine lv_if_ne (tgt := 21) hx hb dX2_went_11 (by decide) (fun c12 => ?_) (fun c12 => ?_)
    · have hf := rf_ifn hf c12
      refine lv_iconst (v := 0) hx hb dX2_went_21 (by decide) ?_
      refine lv_istore_n (lv' := [(3, .int 0), (0, .ref a_this), (1, .int p1), (2, .int p2)]) hx hb dX2_went_22 rfl hl (by decide) rfl (fun ls hl => ?_)
      refine lv_bipush (v := (-9)) hx hb dX2_went_23 (by decide) ?_
      refine lv_istore (lv' := [(4, .int (-9)), (3, .int 0), (0, .ref a_this), (1, .int p1), (2, .int p2)]) hx hb dX2_went_25 hl (by decide) rfl (fun ls hl => ?_)
      refine lv_aload_n hx hb dX2_went_27 rfl (lv_at hl 2 rfl) ?_
      refine va_get (D := D) (ci := 2) (v := .ref a_this_trial) (C := RX2) (T := TX2) (N := 12) hx hb hts jX2_went_X2 hown hK hP 0 rfl rfl 2 (by decide) (hts _ kX2_went_0) (fun _ h9 => h9) rfl dX2_went_28 ?_
      refine lv_aload_n hx hb dX2_went_31 rfl (lv_at hl 2 rfl) ?_
      refine va_get (D := D) (ci := 2) (v := .ref a_this_now) (C := RX2) (T := TX2) (N := 12) hx hb hts jX2_went_X2 hown hK hP 0 rfl rfl 0 (by decide) (hts _ kX2_went_4) (fun _ h9 => h9) rfl dX2_went_32 ?_
      obtain ⟨q13, hq13, hf⟩ := rf_bindq hf
      refine rf_Vv (As := [.ref a_this_now]) (rest := []) (wr := [(a_this, .inr (2, rf_o2 a_this_now a_this_then a_this_trial a_this_search a_this_letters a_this_numbers a_this_thickest a_this_refusals g_this)), (a_this_refusals, .inl (cA, 7, .inl f_this_refusals))]) (wn := [(a_this, .inr (2, rf_o2 a_this_now a_this_then a_this_trial a_this_search a_this_letters a_this_numbers a_this_thickest a_this_refusals g_this)), (a_this_now, .inr (0, rf_o0 a_this_now_kinds a_this_now_thicks g_this_now)), (a_this_now_kinds, .inl (cA, 6, .inl f_this_now_kinds)), (a_this_now_thicks, .inl (cA, 6, .inl f_this_now_thicks)), (a_this_trial, .inr (0, rf_o0 a_this_trial_kinds a_this_trial_thicks q13.1)), (a_this_trial_kinds, .inl (cA, 6, .inl q13.2.1)), (a_this_trial_thicks, .inl (cA, 6, .inl q13.2.2)), (a_this_refusals, .inl (cA, 7, .inl f_this_refusals))]) ⟨hx, hb, hml, hown, hts⟩ hK hP hD hS hA hE (c_X0_copyFrom l D cA ad a_this_trial a_this_trial_kinds a_this_trial_thicks a_this_now a_this_now_kinds a_this_now_thicks H.size g_this_trial f_this_trial_kinds f_this_trial_thicks g_this_now f_this_now_kinds f_this_now_thicks q13 hq13) (cwV 1 hts gX2_went_X0_copyFrom rfl rfl rfl hv_X0_copyFrom ⟨Nat.le_of_ble_eq_true rfl, Nat.le_of_ble_eq_true rfl⟩) [4, 5, 6, 1, 2, 3] [0, 7] [0, 5, 6, 7, 2, 3, 4, 1] rfl rfl rfl rfl (by decide) rfl rfl 0 4 rfl rfl rfl rfl rfl hl.1 (Nat.le_of_ble_eq_true rfl) dX2_went_35 ⟨Nat.zero_le _, Nat.zero_le _⟩ (fun H locs hP hD hS => ?_)
      refine lv_iconst (v := 0) hx hb dX2_went_38 (by decide) ?_
      refine lv_istore (lv' := [(5, .int 0), (4, .int (-9)), (3, .int 0), (0, .ref a_this), (1, .int p1), (2, .int p2)]) hx hb dX2_went_39 hl (by decide) rfl (fun ls hl => ?_)
      obtain ⟨q14, hq14, hf⟩ := rf_bindq hf
      refine key_41 q13.2.1 q13.2.2 f_this_refusals rf_fu 0 (-9) 0 q13.1 q14 hq14 _ _ _ hP hD hS (lv_sub hl [3, 4, 5, 2, 1, 0] rfl) (fun H locs ls hP hD hS hl => ?_)
      refine lv_iload_n hx hb dX2_went_99 rfl (lv_at hl 2 rfl) ?_
      refine lv_if_ne (tgt := 107) hx hb dX2_went_100 (by decide) (fun c15 => ?_) (fun c15 => ?_)
      · have hf := rf_ifn hf c15
        refine lv_iload hx hb dX2_went_107 (lv_at hl 4 rfl) ?_
        obtain rfl := Option.some.inj hf
        exact W.iret (v := q14.2.1) hx hb hr (fun t ht hW => ⟨⟨q14.2.1, (), rfl, rfl, rf_mk ht hP hD⟩, hS.F ht⟩) hS.2.2 dX2_went_109
      · have hf := rf_ifp hf c15
        refine lv_iload_n hx hb dX2_went_103 rfl (lv_at hl 3 rfl) ?_
        refine lv_goto (tgt := 109) hx hb dX2_went_104 (by decide) ?_
        obtain rfl := Option.some.inj hf
        exact W.iret (v := q14.1) hx hb hr (fun t ht hW => ⟨⟨q14.1, (), rfl, rfl, rf_mk ht hP hD⟩, hS.F ht⟩) hS.2.2 dX2_went_109
    · have hf := rf_ifp hf c12
      refine lv_aload_n hx hb dX2_went_14 rfl (lv_at hl 0 rfl) ?_
      refine lv_bipush (v := (-2)) hx hb dX2_went_15 (by decide) ?_
      obtain ⟨q16, hq16, hf⟩ := rf_bindq hf
      refine rf_Vi (As := [.int (-2)]) (rest := []) (wr := [(a_this_now, .inr (0, rf_o0 a_this_now_kinds a_this_now_thicks g_this_now)), (a_this_now_kinds, .inl (cA, 6, .inl f_this_now_kinds)), (a_this_now_thicks, .inl (cA, 6, .inl f_this_now_thicks)), (a_this_trial, .inr (0, rf_o0 a_this_trial_kinds a_this_trial_thicks g_this_trial)), (a_this_trial_kinds, .inl (cA, 6, .inl f_this_trial_kinds)), (a_this_trial_thicks, .inl (cA, 6, .inl f_this_trial_thicks))]) (wn := [(a_this, .inr (2, rf_o2 a_this_now a_this_then a_this_trial a_this_search a_this_letters a_this_numbers a_this_thickest a_this_refusals g_this)), (a_this_now, .inr (0, rf_o0 a_this_now_kinds a_this_now_thicks g_this_now)), (a_this_now_kinds, .inl (cA, 6, .inl f_this_now_kinds)), (a_this_now_thicks, .inl (cA, 6, .inl f_this_now_thicks)), (a_this_trial, .inr (0, rf_o0 a_this_trial_kinds a_this_trial_thicks g_this_trial)), (a_this_trial_kinds, .inl (cA, 6, .inl f_this_trial_kinds)), (a_this_trial_thicks, .inl (cA, 6, .inl f_this_trial_thicks)), (a_this_refusals, .inl (cA, 7, .inl q16.2))]) ⟨hx, hb, hml, hown, hts⟩ hK hP hD hS hA hE (c_X2_refuse l D cA ad a_this a_this_now a_this_then a_this_trial a_this_search a_this_letters a_this_numbers a_this_thickest a_this_refusals H.size g_this f_this_refusals (-2) q16 hq16) (cwV 1 hts gX2_went_X2_refuse rfl rfl rfl hv_X2_refuse ⟨Nat.le_of_ble_eq_true rfl, Nat.le_of_ble_eq_true rfl⟩) [0, 7] [1, 2, 3, 4, 5, 6] [6, 0, 1, 2, 3, 4, 5, 7] rfl rfl rfl rfl (by decide) rfl rfl 2 0 rfl rfl rfl rfl rfl hl.1 (Nat.le_of_ble_eq_true rfl) dX2_went_17 ⟨Nat.zero_le _, Nat.zero_le _⟩ (fun H locs hP hD hS => ?_)
      obtain rfl := Option.some.inj hf
      exact W.iret (v := q16.1) hx hb hr (fun t ht hW => ⟨⟨q16.1, (), rfl, rfl, rf_mk ht hP hD⟩, hS.F ht⟩) hS.2.2 dX2_went_20
theorem kX2_numbersTellTries_0 : (.fieldLink RX2 46 "RingAndFinger" "numberCount" "I" : Cond) ∈ wsX2_numbersTellTries := by decide +kernel
theorem kX2_numbersTellTries_1 : (.fieldLink RX2 33 "RingAndFinger" "numbers" "[I" : Cond) ∈ wsX2_numbersTellTries := by decide +kernel
theorem jX2_numbersTellTries_X2 : ∀ w ∈ u_ws RX2 TX2 12, w ∈ wsX2_numbersTellTries := by decide +kernel
set_option maxHeartbeats 8000000 in
set_option maxRecDepth 100000 in
theorem c_X2_numbersTellTries (l : Launch) (D : va_G) (cA : ClassId) (ad : Nat → Nat) (a_this a_this_now a_this_then a_this_trial a_this_search a_this_letters a_this_numbers a_this_thickest a_this_refusals : Nat) (sz : Nat) (g_this f_this_numbers : Nat → Int32) (q : Int32) (hf : f_X2_numbersTellTries g_this f_this_numbers = some q) : Met l yX2_numbersTellTries wsX2_numbersTellTries ({ frames := 1, cells := 0, slots := 0, locals := 21 } : Room) (va_Pc [.ref a_this] (rf_Pre D cA ad [(a_this, .inr (2, rf_o2 a_this_now a_this_then a_this_trial a_this_search a_this_letters a_this_numbers a_this_thickest a_this_refusals g_this)), (a_this_numbers, .inl (cA, 12, .inl f_this_numbers))] sz)) (va_Qi (fun (r : Int32) (_ : Unit) => r = q) (fun _ t => rf_Post D (va_A [(a_this, .inr (2, rf_o2 a_this_now a_this_then a_this_trial a_this_search a_this_letters a_this_numbers a_this_thickest a_this_refusals g_this)), (a_this_numbers, .inl (cA, 12, .inl f_this_numbers))] sz) [(a_this, .inr (2, rf_o2 a_this_now a_this_then a_this_trial a_this_search a_this_letters a_this_numbers a_this_thickest a_this_refusals g_this)), (a_this_numbers, .inl (cA, 12, .inl f_this_numbers))] t) (va_A [(a_this, .inr (2, rf_o2 a_this_now a_this_then a_this_trial a_this_search a_this_letters a_this_numbers a_this_thickest a_this_refusals g_this)), (a_this_numbers, .inl (cA, 12, .inl f_this_numbers))] sz)) 0 0 (va_A [(a_this, .inr (2, rf_o2 a_this_now a_this_then a_this_trial a_this_search a_this_letters a_this_numbers a_this_thickest a_this_refusals g_this)), (a_this_numbers, .inl (cA, 12, .inl f_this_numbers))] sz) := by
  refine Met.ofW (cc := cX2_numbersTellTries) (maxL := 2) (ret := (some .boolean)) (by decide) rfl ?_
  intro p e s m args below meth c s₁ B hml hv
  obtain ⟨rfl, hsz, hP, hK, hD0, hE⟩ := hv
  have hx := B.exec
  have hb := B.bytes
  have hr := B.returns
  have hts := atoms_spec (ws := wsX2_numbersTellTries) B.pre
  have hown : s.vm.findClass RX2 = some m.cls := findClass_of_methodNamed B.named
  have hlocks := B.notSynchronized
  subst hsz
  have hD := hD0.self (sz := s.heap.size)
  generalize hAe : va_A [(a_this, .inr (2, rf_o2 a_this_now a_this_then a_this_trial a_this_search a_this_letters a_this_numbers a_this_thickest a_this_refusals g_this)), (a_this_numbers, .inl (cA, 12, .inl f_this_numbers))] s.heap.size = A at hD hE ⊢
  have hA : ∀ q : Nat, s.heap.size ≤ q → A q := fun q h => by rw [← hAe]; exact Or.inr h
  have hS : va_S A s.heap s.heap [] := va_S.rf
  have hP : va_P D vwCl [(a_this, .inr (2, rf_o2 a_this_now a_this_then a_this_trial a_this_search a_this_letters a_this_numbers a_this_thickest a_this_refusals g_this)), (a_this_numbers, .inl (cA, 12, .inl f_this_numbers))] s.heap := hP
  have hl := lv_entry ([.ref a_this]) (n := 2) (Nat.le_of_ble_eq_true rfl)
  rw [lg_entry_eq]
  generalize (lg_sl ([.ref a_this]) ++ List.replicate (2 - (lg_sl ([.ref a_this])).length) Slot.unset).toArray = ls at hl ⊢
  have hl : lv_has ls 2 [(0, .ref a_this)] := hl
  have key_13 : ∀ (n : Nat) (x1 : Int32) (ql : (Int32) ⊕ (Int32)), f_X2_numbersTellTries_L13 g_this f_this_numbers n x1 = some ql → ∀ (H : Heap) (locs : List Loc) (ls : Array Slot), va_P D vwCl [(a_this, .inr (2, rf_o2 a_this_now a_this_then a_this_trial a_this_search a_this_letters a_this_numbers a_this_thickest a_this_refusals g_this)), (a_this_numbers, .inl (cA, 12, .inl f_this_numbers))] H → va_D A [(a_this, .inr (2, rf_o2 a_this_now a_this_then a_this_trial a_this_search a_this_letters a_this_numbers a_this_thickest a_this_refusals g_this)), (a_this_numbers, .inl (cA, 12, .inl f_this_numbers))] → va_S A s.heap H locs → lv_has ls 2 [(0, .ref a_this), (1, .int x1)] → (∀ r : Int32, ql = .inl r → r = q) → (∀ (x : Int32), ql = .inr x → ∀ (H : Heap) (locs : List Loc) (ls : Array Slot), va_P D vwCl [(a_this, .inr (2, rf_o2 a_this_now a_this_then a_this_trial a_this_search a_this_letters a_this_numbers a_this_thickest a_this_refusals g_this)), (a_this_numbers, .inl (cA, 12, .inl f_this_numbers))] H → va_D A [(a_this, .inr (2, rf_o2 a_this_now a_this_then a_this_trial a_this_search a_this_letters a_this_numbers a_this_thickest a_this_refusals g_this)), (a_this_numbers, .inl (cA, 12, .inl f_this_numbers))] → va_S A s.heap H locs → lv_has ls 2 [(0, .ref a_this), (1, .int x)] → W p l e (headSpec wsX2_numbersTellTries ({ frames := 1, cells := 0, slots := 0, locals := 21 } : Room)).room s m ([.ref a_this] : List Value).toArray below meth c H locs 0 0 (MQ below (va_Qi (fun (r : Int32) (_ : Unit) => r = q) (fun _ t => rf_Post D A [(a_this, .inr (2, rf_o2 a_this_now a_this_then a_this_trial a_this_search a_this_letters a_this_numbers a_this_thickest a_this_refusals g_this)), (a_this_numbers, .inl (cA, 12, .inl f_this_numbers))] t) A) ([.ref a_this] : List Value).toArray s 0 0 A) (F0 m 59 ls [])) → W p l e (headSpec wsX2_numbersTellTries ({ frames := 1, cells := 0, slots := 0, locals := 21 } : Room)).room s m ([.ref a_this] : List Value).toArray below meth c H locs 0 0 (MQ below (va_Qi (fun (r : Int32) (_ : Unit) => r = q) (fun _ t => rf_Post D A [(a_this, .inr (2, rf_o2 a_this_now a_this_then a_this_trial a_this_search a_this_letters a_this_numbers a_this_thickest a_this_refusals g_this)), (a_this_numbers, .inl (cA, 12, .inl f_this_numbers))] t) A) ([.ref a_this] : List Value).toArray s 0 0 A) (F0 m 13 ls []) := by
    intro n
    induction n with
    | zero =>
      intro x1 ql hf H locs ls hP hD hS hl hret kx
      exact absurd (show (none : Option ((Int32) ⊕ (Int32))) = some ql from hf) (fun h9 => by cases h9)
    | succ n ih =>
      intro x1 ql hf H locs ls hP hD hS hl hret kx
      rw [f_X2_numbersTellTries_L13] at hf
      refine lv_iload_n hx hb dX2_numbersTellTries_13 rfl (lv_at hl 1 rfl) ?_
      refine lv_iconst (v := 1) hx hb dX2_numbersTellTries_14 (by decide) ?_
      refine lv_iadd hx hb dX2_numbersTellTries_15 ?_
      refine lv_aload_n hx hb dX2_numbersTellTries_16 rfl (lv_at hl 0 rfl) ?_
      refine va_get (D := D) (ci := 2) (v := .int (g_this 1)) (C := RX2) (T := TX2) (N := 12) hx hb hts jX2_numbersTellTries_X2 hown hK hP 0 rfl rfl 9 (by decide) (hts _ kX2_numbersTellTries_0) (fun _ h9 => h9) rfl dX2_numbersTellTries_17 ?_
      refine lv_icmp_ge (tgt := 59) hx hb dX2_numbersTellTries_20 (by decide) (fun c1 => ?_) (fun c1 => ?_)
      · have hf := rf_ifp hf c1
        exact kx _ (Option.some.inj hf).symm _ _ _ hP hD hS (lv_sub hl [0, 1] rfl)
      · have hf := rf_ifn hf c1
        refine lv_aload_n hx hb dX2_numbersTellTries_23 rfl (lv_at hl 0 rfl) ?_
        refine va_get (D := D) (ci := 2) (v := .ref a_this_numbers) (C := RX2) (T := TX2) (N := 12) hx hb hts jX2_numbersTellTries_X2 hown hK hP 0 rfl rfl 5 (by decide) (hts _ kX2_numbersTellTries_1) (fun _ h9 => h9) rfl dX2_numbersTellTries_24 ?_
        refine lv_iload_n hx hb dX2_numbersTellTries_27 rfl (lv_at hl 1 rfl) ?_
        obtain ⟨q2, hq2, hf⟩ := rf_bindq hf
        refine rf_Si (As := [.ref a_this_numbers, .int x1]) (rest := []) (wr := [(a_this, .inr (2, rf_o2 a_this_now a_this_then a_this_trial a_this_search a_this_letters a_this_numbers a_this_thickest a_this_refusals g_this))]) (wn := [(a_this, .inr (2, rf_o2 a_this_now a_this_then a_this_trial a_this_search a_this_letters a_this_numbers a_this_thickest a_this_refusals g_this)), (a_this_numbers, .inl (cA, 12, .inl f_this_numbers))]) ⟨hx, hb, hml, hown, hts⟩ hK hP hD hS hA hE (c_X2_at l D cA ad a_this_numbers H.size 12 f_this_numbers x1 q2 hq2) (va_cwS 2 hts gX2_numbersTellTries_X2_at rfl rfl rfl hs_X2_at ⟨Nat.le_of_ble_eq_true rfl, Nat.le_of_ble_eq_true rfl⟩) [1] [0] [0, 1] rfl rfl rfl rfl (by decide) rfl rfl rfl rfl hl.1 (Nat.le_of_ble_eq_true rfl) dX2_numbersTellTries_28 ⟨Nat.zero_le _, Nat.zero_le _⟩ (fun H locs hP hD hS => ?_)
        obtain ⟨q3, hq3, hf⟩ := rf_bindq hf
        refine rf_Si (As := [.int q2]) (rest := []) (wr := [(a_this, .inr (2, rf_o2 a_this_now a_this_then a_this_trial a_this_search a_this_letters a_this_numbers a_this_thickest a_this_refusals g_this)), (a_this_numbers, .inl (cA, 12, .inl f_this_numbers))]) (wn := [(a_this, .inr (2, rf_o2 a_this_now a_this_then a_this_trial a_this_search a_this_letters a_this_numbers a_this_thickest a_this_refusals g_this)), (a_this_numbers, .inl (cA, 12, .inl f_this_numbers))]) ⟨hx, hb, hml, hown, hts⟩ hK hP hD hS hA hE (c_X2_isTry l D cA ad H.size q2 q3 hq3) (va_cwS 1 hts gX2_numbersTellTries_X2_isTry rfl rfl rfl hs_X2_isTry ⟨Nat.le_of_ble_eq_true rfl, Nat.le_of_ble_eq_true rfl⟩) [] [0, 1] [0, 1] rfl rfl rfl rfl (by decide) rfl rfl rfl rfl hl.1 (Nat.le_of_ble_eq_true rfl) dX2_numbersTellTries_31 ⟨Nat.zero_le _, Nat.zero_le _⟩ (fun H locs hP hD hS => ?_)
        refine lv_if_eq (tgt := 51) hx hb dX2_numbersTellTries_34 (by decide) (fun c4 => ?_) (fun c4 => ?_)
        · have hf := rf_ifp hf c4
          refine lv_iconst (v := 0) hx hb dX2_numbersTellTries_51 (by decide) ?_
          obtain rfl := hret _ (Option.some.inj hf).symm
          exact W.zret (v := 0) hx hb hr rfl (fun t ht hW => ⟨⟨0, (), rfl, rfl, rf_mk ht hP hD⟩, hS.F ht⟩) hS.2.2 dX2_numbersTellTries_52
        · have hf := rf_ifn hf c4
          refine lv_aload_n hx hb dX2_numbersTellTries_37 rfl (lv_at hl 0 rfl) ?_
          refine va_get (D := D) (ci := 2) (v := .ref a_this_numbers) (C := RX2) (T := TX2) (N := 12) hx hb hts jX2_numbersTellTries_X2 hown hK hP 0 rfl rfl 5 (by decide) (hts _ kX2_numbersTellTries_1) (fun _ h9 => h9) rfl dX2_numbersTellTries_38 ?_
          refine lv_iload_n hx hb dX2_numbersTellTries_41 rfl (lv_at hl 1 rfl) ?_
          refine lv_iconst (v := 1) hx hb dX2_numbersTellTries_42 (by decide) ?_
          refine lv_iadd hx hb dX2_numbersTellTries_43 ?_
          obtain ⟨q5, hq5, hf⟩ := rf_bindq hf
          refine rf_Si (As := [.ref a_this_numbers, .int (x1 + 1)]) (rest := []) (wr := [(a_this, .inr (2, rf_o2 a_this_now a_this_then a_this_trial a_this_search a_this_letters a_this_numbers a_this_thickest a_this_refusals g_this))]) (wn := [(a_this, .inr (2, rf_o2 a_this_now a_this_then a_this_trial a_this_search a_this_letters a_this_numbers a_this_thickest a_this_refusals g_this)), (a_this_numbers, .inl (cA, 12, .inl f_this_numbers))]) ⟨hx, hb, hml, hown, hts⟩ hK hP hD hS hA hE (c_X2_at l D cA ad a_this_numbers H.size 12 f_this_numbers (x1 + 1) q5 hq5) (va_cwS 2 hts gX2_numbersTellTries_X2_at rfl rfl rfl hs_X2_at ⟨Nat.le_of_ble_eq_true rfl, Nat.le_of_ble_eq_true rfl⟩) [1] [0] [0, 1] rfl rfl rfl rfl (by decide) rfl rfl rfl rfl hl.1 (Nat.le_of_ble_eq_true rfl) dX2_numbersTellTries_44 ⟨Nat.zero_le _, Nat.zero_le _⟩ (fun H locs hP hD hS => ?_)
          refine lv_iconst (v := 1) hx hb dX2_numbersTellTries_47 (by decide) ?_
          refine lv_icmp_le (tgt := 53) hx hb dX2_numbersTellTries_48 (by decide) (fun c6 => ?_) (fun c6 => ?_)
          · have hf := rf_ifp hf c6
            obtain ⟨v7, ev7⟩ : ∃ y : Int32, y = x1 + 2 := ⟨_, rfl⟩
            have hf := rf_bindv hf ev7
            refine lv_iinc (v := v7) (lv' := [(1, .int v7), (0, .ref a_this)]) hx hb dX2_numbersTellTries_53 hl (k := 1) rfl (by rw [ev7]; rfl) (by decide) rfl (fun ls hl => ?_)
            clear ev7
            refine lv_goto (tgt := 13) hx hb dX2_numbersTellTries_56 (by decide) ?_
            exact ih v7 ql hf _ _ _ hP hD hS (lv_sub hl [1, 0] rfl) hret kx
          · have hf := rf_ifn hf c6
            refine lv_iconst (v := 0) hx hb dX2_numbersTellTries_51 (by decide) ?_
            obtain rfl := hret _ (Option.some.inj hf).symm
            exact W.zret (v := 0) hx hb hr rfl (fun t ht hW => ⟨⟨0, (), rfl, rfl, rf_mk ht hP hD⟩, hS.F ht⟩) hS.2.2 dX2_numbersTellTries_52
  rw [f_X2_numbersTellTries] at hf
  refine lv_aload_n hx hb dX2_numbersTellTries_0 rfl (lv_at hl 0 rfl) ?_
  refine va_get (D := D) (ci := 2) (v := .int (g_this 1)) (C := RX2) (T := TX2) (N := 12) hx hb hts jX2_numbersTellTries_X2 hown hK hP 0 rfl rfl 9 (by decide) (hts _ kX2_numbersTellTries_0) (fun _ h9 => h9) rfl dX2_numbersTellTries_1 ?_
  refine lv_iconst (v := 2) hx hb dX2_numbersTellTries_4 (by decide) ?_
  refine lv_irem hx hb dX2_numbersTellTries_5 (by decide) ?_
  refine lv_topi (fun v8 ev8 => ?_)
  have hf := rf_bindv hf ev8
  clear ev8
  refine lv_if_eq (tgt := 11) hx hb dX2_numbersTellTries_6 (by decide) (fun c9 => ?_) (fun c9 => ?_)
  · have hf := rf_ifp hf c9
    refine lv_iconst (v := 0) hx hb dX2_numbersTellTries_11 (by decide) ?_
    refine lv_istore_n (lv' := [(1, .int 0), (0, .ref a_this)]) hx hb dX2_numbersTellTries_12 rfl hl (by decide) rfl (fun ls hl => ?_)
    obtain ⟨q10, hq10, hf⟩ := rf_bindq hf
    refine key_13 rf_fu 0 q10 hq10 _ _ _ hP hD hS (lv_sub hl [1, 0] rfl) (fun r h9 => ?_) (fun x11 h9 H locs ls hP hD hS hl => ?_)
    · subst h9
      exact Option.some.inj hf
    · subst h9
      have hf := rf_sumr hf
      refine lv_iconst (v := 1) hx hb dX2_numbersTellTries_59 (by decide) ?_
      obtain rfl := Option.some.inj hf
      exact W.zret (v := 1) hx hb hr rfl (fun t ht hW => ⟨⟨1, (), rfl, rfl, rf_mk ht hP hD⟩, hS.F ht⟩) hS.2.2 dX2_numbersTellTries_60
  · have hf := rf_ifn hf c9
    refine lv_iconst (v := 0) hx hb dX2_numbersTellTries_9 (by decide) ?_
    obtain rfl := Option.some.inj hf
    exact W.zret (v := 0) hx hb hr rfl (fun t ht hW => ⟨⟨0, (), rfl, rfl, rf_mk ht hP hD⟩, hS.F ht⟩) hS.2.2 dX2_numbersTellTries_10
theorem kX2_feel_0 : (.fieldLink RX2 46 "RingAndFinger" "numberCount" "I" : Cond) ∈ wsX2_feel := by decide +kernel
theorem kX2_feel_1 : (.fieldLink RX2 33 "RingAndFinger" "numbers" "[I" : Cond) ∈ wsX2_feel := by decide +kernel
theorem kX2_feel_2 : (.fieldLink RX2 19 "RingAndFinger" "trial" "LRingAndFinger$Finger;" : Cond) ∈ wsX2_feel := by decide +kernel
theorem kX2_feel_3 : (.methodLink RX2 175 Lib.Math.max.name : Cond) ∈ wsX2_feel := by decide +kernel
theorem kX2_feel_4 : (.static Lib.Math.max.name : Cond) ∈ wsX2_feel := by decide +kernel
theorem kX2_feel_5 : (.initialized "java/lang/Math" : Cond) ∈ wsX2_feel := by decide +kernel
theorem kX2_feel_6 : (.code Lib.Math.max.name Lib.Math.max.code 2 (some .int) : Cond) ∈ wsX2_feel := by decide +kernel
theorem kX2_feel_7 : (.methodLink RX2 170 Lib.Math.min.name : Cond) ∈ wsX2_feel := by decide +kernel
theorem kX2_feel_8 : (.static Lib.Math.min.name : Cond) ∈ wsX2_feel := by decide +kernel
theorem kX2_feel_9 : (.code Lib.Math.min.name Lib.Math.min.code 2 (some .int) : Cond) ∈ wsX2_feel := by decide +kernel
theorem kX2_feel_10 : (.fieldLink RX2 10 "RingAndFinger" "now" "LRingAndFinger$Finger;" : Cond) ∈ wsX2_feel := by decide +kernel
theorem jX2_feel_X2 : ∀ w ∈ u_ws RX2 TX2 12, w ∈ wsX2_feel := by decide +kernel
set_option maxHeartbeats 8000000 in
set_option maxRecDepth 100000 in
theorem c_X2_feel (l : Launch) (D : va_G) (cA : ClassId) (ad : Nat → Nat) (a_this a_this_now a_this_then a_this_trial a_this_search a_this_letters a_this_numbers a_this_thickest a_this_refusals a_this_now_kinds a_this_now_thicks a_this_trial_kinds a_this_trial_thicks : Nat) (sz : Nat) (g_this g_this_now f_this_now_kinds f_this_now_thicks g_this_trial f_this_trial_kinds f_this_trial_thicks f_this_numbers f_this_refusals : Nat → Int32) (p1 : Int32) (q : Int32 × (Nat → Int32) × (Nat → Int32) × (Nat → Int32) × (Nat → Int32)) (hf : f_X2_feel g_this g_this_now f_this_now_kinds f_this_now_thicks g_this_trial f_this_trial_kinds f_this_trial_thicks f_this_numbers f_this_refusals p1 = some q) : Met l yX2_feel wsX2_feel ({ frames := 4, cells := 0, slots := 0, locals := 91 } : Room) (va_Pc [.ref a_this, .int p1] (rf_Pre D cA ad [(a_this, .inr (2, rf_o2 a_this_now a_this_then a_this_trial a_this_search a_this_letters a_this_numbers a_this_thickest a_this_refusals g_this)), (a_this_now, .inr (0, rf_o0 a_this_now_kinds a_this_now_thicks g_this_now)), (a_this_now_kinds, .inl (cA, 6, .inl f_this_now_kinds)), (a_this_now_thicks, .inl (cA, 6, .inl f_this_now_thicks)), (a_this_trial, .inr (0, rf_o0 a_this_trial_kinds a_this_trial_thicks g_this_trial)), (a_this_trial_kinds, .inl (cA, 6, .inl f_this_trial_kinds)), (a_this_trial_thicks, .inl (cA, 6, .inl f_this_trial_thicks)), (a_this_numbers, .inl (cA, 12, .inl f_this_numbers)), (a_this_refusals, .inl (cA, 7, .inl f_this_refusals))] sz)) (va_Qi (fun (r : Int32) (_ : Unit) => r = q.1) (fun _ t => rf_Post D (va_A [(a_this, .inr (2, rf_o2 a_this_now a_this_then a_this_trial a_this_search a_this_letters a_this_numbers a_this_thickest a_this_refusals g_this)), (a_this_now, .inr (0, rf_o0 a_this_now_kinds a_this_now_thicks g_this_now)), (a_this_now_kinds, .inl (cA, 6, .inl f_this_now_kinds)), (a_this_now_thicks, .inl (cA, 6, .inl f_this_now_thicks)), (a_this_trial, .inr (0, rf_o0 a_this_trial_kinds a_this_trial_thicks g_this_trial)), (a_this_trial_kinds, .inl (cA, 6, .inl f_this_trial_kinds)), (a_this_trial_thicks, .inl (cA, 6, .inl f_this_trial_thicks)), (a_this_numbers, .inl (cA, 12, .inl f_this_numbers)), (a_this_refusals, .inl (cA, 7, .inl f_this_refusals))] sz) [(a_this, .inr (2, rf_o2 a_this_now a_this_then a_this_trial a_this_search a_this_letters a_this_numbers a_this_thickest a_this_refusals g_this)), (a_this_now, .inr (0, rf_o0 a_this_now_kinds a_this_now_thicks g_this_now)), (a_this_now_kinds, .inl (cA, 6, .inl f_this_now_kinds)), (a_this_now_thicks, .inl (cA, 6, .inl f_this_now_thicks)), (a_this_trial, .inr (0, rf_o0 a_this_trial_kinds a_this_trial_thicks q.2.1)), (a_this_trial_kinds, .inl (cA, 6, .inl q.2.2.1)), (a_this_trial_thicks, .inl (cA, 6, .inl q.2.2.2.1)), (a_this_numbers, .inl (cA, 12, .inl f_this_numbers)), (a_this_refusals, .inl (cA, 7, .inl q.2.2.2.2))] t) (va_A [(a_this, .inr (2, rf_o2 a_this_now a_this_then a_this_trial a_this_search a_this_letters a_this_numbers a_this_thickest a_this_refusals g_this)), (a_this_now, .inr (0, rf_o0 a_this_now_kinds a_this_now_thicks g_this_now)), (a_this_now_kinds, .inl (cA, 6, .inl f_this_now_kinds)), (a_this_now_thicks, .inl (cA, 6, .inl f_this_now_thicks)), (a_this_trial, .inr (0, rf_o0 a_this_trial_kinds a_this_trial_thicks g_this_trial)), (a_this_trial_kinds, .inl (cA, 6, .inl f_this_trial_kinds)), (a_this_trial_thicks, .inl (cA, 6, .inl f_this_trial_thicks)), (a_this_numbers, .inl (cA, 12, .inl f_this_numbers)), (a_this_refusals, .inl (cA, 7, .inl f_this_refusals))] sz)) 0 0 (va_A [(a_this, .inr (2, rf_o2 a_this_now a_this_then a_this_trial a_this_search a_this_letters a_this_numbers a_this_thickest a_this_refusals g_this)), (a_this_now, .inr (0, rf_o0 a_this_now_kinds a_this_now_thicks g_this_now)), (a_this_now_kinds, .inl (cA, 6, .inl f_this_now_kinds)), (a_this_now_thicks, .inl (cA, 6, .inl f_this_now_thicks)), (a_this_trial, .inr (0, rf_o0 a_this_trial_kinds a_this_trial_thicks g_this_trial)), (a_this_trial_kinds, .inl (cA, 6, .inl f_this_trial_kinds)), (a_this_trial_thicks, .inl (cA, 6, .inl f_this_trial_thicks)), (a_this_numbers, .inl (cA, 12, .inl f_this_numbers)), (a_this_refusals, .inl (cA, 7, .inl f_this_refusals))] sz) := by
  refine Met.ofW (cc := cX2_feel) (maxL := 7) (ret := (some .int)) (by decide) rfl ?_
  intro p e s m args below meth c s₁ B hml hv
  obtain ⟨rfl, hsz, hP, hK, hD0, hE⟩ := hv
  have hx := B.exec
  have hb := B.bytes
  have hr := B.returns
  have hts := atoms_spec (ws := wsX2_feel) B.pre
  have hown : s.vm.findClass RX2 = some m.cls := findClass_of_methodNamed B.named
  have hlocks := B.notSynchronized
  subst hsz
  have hD := hD0.self (sz := s.heap.size)
  generalize hAe : va_A [(a_this, .inr (2, rf_o2 a_this_now a_this_then a_this_trial a_this_search a_this_letters a_this_numbers a_this_thickest a_this_refusals g_this)), (a_this_now, .inr (0, rf_o0 a_this_now_kinds a_this_now_thicks g_this_now)), (a_this_now_kinds, .inl (cA, 6, .inl f_this_now_kinds)), (a_this_now_thicks, .inl (cA, 6, .inl f_this_now_thicks)), (a_this_trial, .inr (0, rf_o0 a_this_trial_kinds a_this_trial_thicks g_this_trial)), (a_this_trial_kinds, .inl (cA, 6, .inl f_this_trial_kinds)), (a_this_trial_thicks, .inl (cA, 6, .inl f_this_trial_thicks)), (a_this_numbers, .inl (cA, 12, .inl f_this_numbers)), (a_this_refusals, .inl (cA, 7, .inl f_this_refusals))] s.heap.size = A at hD hE ⊢
  have hA : ∀ q : Nat, s.heap.size ≤ q → A q := fun q h => by rw [← hAe]; exact Or.inr h
  have hS : va_S A s.heap s.heap [] := va_S.rf
  have hP : va_P D vwCl [(a_this, .inr (2, rf_o2 a_this_now a_this_then a_this_trial a_this_search a_this_letters a_this_numbers a_this_thickest a_this_refusals g_this)), (a_this_now, .inr (0, rf_o0 a_this_now_kinds a_this_now_thicks g_this_now)), (a_this_now_kinds, .inl (cA, 6, .inl f_this_now_kinds)), (a_this_now_thicks, .inl (cA, 6, .inl f_this_now_thicks)), (a_this_trial, .inr (0, rf_o0 a_this_trial_kinds a_this_trial_thicks g_this_trial)), (a_this_trial_kinds, .inl (cA, 6, .inl f_this_trial_kinds)), (a_this_trial_thicks, .inl (cA, 6, .inl f_this_trial_thicks)), (a_this_numbers, .inl (cA, 12, .inl f_this_numbers)), (a_this_refusals, .inl (cA, 7, .inl f_this_refusals))] s.heap := hP
  have hl := lv_entry ([.ref a_this, .int p1]) (n := 7) (Nat.le_of_ble_eq_true rfl)
  rw [lg_entry_eq]
  generalize (lg_sl ([.ref a_this, .int p1]) ++ List.replicate (7 - (lg_sl ([.ref a_this, .int p1])).length) Slot.unset).toArray = ls at hl ⊢
  have hl : lv_has ls 7 [(0, .ref a_this), (1, .int p1)] := hl
  have key_58 : ∀ (yf_this_trial_kinds yf_this_refusals : Nat → Int32) (n : Nat) (x2 x3 x4 : Int32) (yg_this_trial yf_this_trial_thicks : Nat → Int32) (ql : Int32 × Int32 × Int32 × (Nat → Int32) × (Nat → Int32)), f_X2_feel_L58 g_this g_this_now f_this_now_kinds f_this_now_thicks f_this_numbers p1 yf_this_trial_kinds yf_this_refusals n x2 x3 x4 yg_this_trial yf_this_trial_thicks = some ql → ∀ (H : Heap) (locs : List Loc) (ls : Array Slot), va_P D vwCl [(a_this, .inr (2, rf_o2 a_this_now a_this_then a_this_trial a_this_search a_this_letters a_this_numbers a_this_thickest a_this_refusals g_this)), (a_this_now, .inr (0, rf_o0 a_this_now_kinds a_this_now_thicks g_this_now)), (a_this_now_kinds, .inl (cA, 6, .inl f_this_now_kinds)), (a_this_now_thicks, .inl (cA, 6, .inl f_this_now_thicks)), (a_this_trial, .inr (0, rf_o0 a_this_trial_kinds a_this_trial_thicks yg_this_trial)), (a_this_trial_kinds, .inl (cA, 6, .inl yf_this_trial_kinds)), (a_this_trial_thicks, .inl (cA, 6, .inl yf_this_trial_thicks)), (a_this_numbers, .inl (cA, 12, .inl f_this_numbers)), (a_this_refusals, .inl (cA, 7, .inl yf_this_refusals))] H → va_D A [(a_this, .inr (2, rf_o2 a_this_now a_this_then a_this_trial a_this_search a_this_letters a_this_numbers a_this_thickest a_this_refusals g_this)), (a_this_now, .inr (0, rf_o0 a_this_now_kinds a_this_now_thicks g_this_now)), (a_this_now_kinds, .inl (cA, 6, .inl f_this_now_kinds)), (a_this_now_thicks, .inl (cA, 6, .inl f_this_now_thicks)), (a_this_trial, .inr (0, rf_o0 a_this_trial_kinds a_this_trial_thicks yg_this_trial)), (a_this_trial_kinds, .inl (cA, 6, .inl yf_this_trial_kinds)), (a_this_trial_thicks, .inl (cA, 6, .inl yf_this_trial_thicks)), (a_this_numbers, .inl (cA, 12, .inl f_this_numbers)), (a_this_refusals, .inl (cA, 7, .inl yf_this_refusals))] → va_S A s.heap H locs → lv_has ls 7 [(0, .ref a_this), (1, .int p1), (2, .int x2), (3, .int x3), (4, .int x4)] → (∀ (H : Heap) (locs : List Loc) (ls : Array Slot), va_P D vwCl [(a_this, .inr (2, rf_o2 a_this_now a_this_then a_this_trial a_this_search a_this_letters a_this_numbers a_this_thickest a_this_refusals g_this)), (a_this_now, .inr (0, rf_o0 a_this_now_kinds a_this_now_thicks g_this_now)), (a_this_now_kinds, .inl (cA, 6, .inl f_this_now_kinds)), (a_this_now_thicks, .inl (cA, 6, .inl f_this_now_thicks)), (a_this_trial, .inr (0, rf_o0 a_this_trial_kinds a_this_trial_thicks ql.2.2.2.1)), (a_this_trial_kinds, .inl (cA, 6, .inl yf_this_trial_kinds)), (a_this_trial_thicks, .inl (cA, 6, .inl ql.2.2.2.2)), (a_this_numbers, .inl (cA, 12, .inl f_this_numbers)), (a_this_refusals, .inl (cA, 7, .inl yf_this_refusals))] H → va_D A [(a_this, .inr (2, rf_o2 a_this_now a_this_then a_this_trial a_this_search a_this_letters a_this_numbers a_this_thickest a_this_refusals g_this)), (a_this_now, .inr (0, rf_o0 a_this_now_kinds a_this_now_thicks g_this_now)), (a_this_now_kinds, .inl (cA, 6, .inl f_this_now_kinds)), (a_this_now_thicks, .inl (cA, 6, .inl f_this_now_thicks)), (a_this_trial, .inr (0, rf_o0 a_this_trial_kinds a_this_trial_thicks ql.2.2.2.1)), (a_this_trial_kinds, .inl (cA, 6, .inl yf_this_trial_kinds)), (a_this_trial_thicks, .inl (cA, 6, .inl ql.2.2.2.2)), (a_this_numbers, .inl (cA, 12, .inl f_this_numbers)), (a_this_refusals, .inl (cA, 7, .inl yf_this_refusals))] → va_S A s.heap H locs → lv_has ls 7 [(0, .ref a_this), (1, .int p1), (2, .int ql.1), (3, .int ql.2.1), (4, .int ql.2.2.1)] → W p l e (headSpec wsX2_feel ({ frames := 4, cells := 0, slots := 0, locals := 91 } : Room)).room s m ([.ref a_this, .int p1] : List Value).toArray below meth c H locs 0 0 (MQ below (va_Qi (fun (r : Int32) (_ : Unit) => r = q.1) (fun _ t => rf_Post D A [(a_this, .inr (2, rf_o2 a_this_now a_this_then a_this_trial a_this_search a_this_letters a_this_numbers a_this_thickest a_this_refusals g_this)), (a_this_now, .inr (0, rf_o0 a_this_now_kinds a_this_now_thicks g_this_now)), (a_this_now_kinds, .inl (cA, 6, .inl f_this_now_kinds)), (a_this_now_thicks, .inl (cA, 6, .inl f_this_now_thicks)), (a_this_trial, .inr (0, rf_o0 a_this_trial_kinds a_this_trial_thicks q.2.1)), (a_this_trial_kinds, .inl (cA, 6, .inl q.2.2.1)), (a_this_trial_thicks, .inl (cA, 6, .inl q.2.2.2.1)), (a_this_numbers, .inl (cA, 12, .inl f_this_numbers)), (a_this_refusals, .inl (cA, 7, .inl q.2.2.2.2))] t) A) ([.ref a_this, .int p1] : List Value).toArray s 0 0 A) (F0 m 140 ls [])) → W p l e (headSpec wsX2_feel ({ frames := 4, cells := 0, slots := 0, locals := 91 } : Room)).room s m ([.ref a_this, .int p1] : List Value).toArray below meth c H locs 0 0 (MQ below (va_Qi (fun (r : Int32) (_ : Unit) => r = q.1) (fun _ t => rf_Post D A [(a_this, .inr (2, rf_o2 a_this_now a_this_then a_this_trial a_this_search a_this_letters a_this_numbers a_this_thickest a_this_refusals g_this)), (a_this_now, .inr (0, rf_o0 a_this_now_kinds a_this_now_thicks g_this_now)), (a_this_now_kinds, .inl (cA, 6, .inl f_this_now_kinds)), (a_this_now_thicks, .inl (cA, 6, .inl f_this_now_thicks)), (a_this_trial, .inr (0, rf_o0 a_this_trial_kinds a_this_trial_thicks q.2.1)), (a_this_trial_kinds, .inl (cA, 6, .inl q.2.2.1)), (a_this_trial_thicks, .inl (cA, 6, .inl q.2.2.2.1)), (a_this_numbers, .inl (cA, 12, .inl f_this_numbers)), (a_this_refusals, .inl (cA, 7, .inl q.2.2.2.2))] t) A) ([.ref a_this, .int p1] : List Value).toArray s 0 0 A) (F0 m 58 ls []) := by
    intro yf_this_trial_kinds yf_this_refusals n
    induction n with
    | zero =>
      intro x2 x3 x4 yg_this_trial yf_this_trial_thicks ql hf H locs ls hP hD hS hl kx
      exact absurd (show (none : Option (Int32 × Int32 × Int32 × (Nat → Int32) × (Nat → Int32))) = some ql from hf) (fun h9 => by cases h9)
    | succ n ih =>
      intro x2 x3 x4 yg_this_trial yf_this_trial_thicks ql hf H locs ls hP hD hS hl kx
      rw [f_X2_feel_L58] at hf
      refine lv_iload hx hb dX2_feel_58 (lv_at hl 4 rfl) ?_
      refine lv_iconst (v := 1) hx hb dX2_feel_60 (by decide) ?_
      refine lv_iadd hx hb dX2_feel_61 ?_
      refine lv_aload_n hx hb dX2_feel_62 rfl (lv_at hl 0 rfl) ?_
      refine va_get (D := D) (ci := 2) (v := .int (g_this 1)) (C := RX2) (T := TX2) (N := 12) hx hb hts jX2_feel_X2 hown hK hP 0 rfl rfl 9 (by decide) (hts _ kX2_feel_0) (fun _ h9 => h9) rfl dX2_feel_63 ?_
      refine lv_icmp_ge (tgt := 140) hx hb dX2_feel_66 (by decide) (fun c1 => ?_) (fun c1 => ?_)
      · have hf := rf_ifp hf c1
        obtain rfl := Option.some.inj hf
        exact kx _ _ _ hP hD hS (lv_sub hl [0, 1, 2, 3, 4] rfl)
      · have hf := rf_ifn hf c1
        refine lv_aload_n hx hb dX2_feel_69 rfl (lv_at hl 0 rfl) ?_
        refine va_get (D := D) (ci := 2) (v := .ref a_this_numbers) (C := RX2) (T := TX2) (N := 12) hx hb hts jX2_feel_X2 hown hK hP 0 rfl rfl 5 (by decide) (hts _ kX2_feel_1) (fun _ h9 => h9) rfl dX2_feel_70 ?_
        refine lv_iload hx hb dX2_feel_73 (lv_at hl 4 rfl) ?_
        obtain ⟨q2, hq2, hf⟩ := rf_bindq hf
        refine rf_Si (As := [.ref a_this_numbers, .int x4]) (rest := []) (wr := [(a_this, .inr (2, rf_o2 a_this_now a_this_then a_this_trial a_this_search a_this_letters a_this_numbers a_this_thickest a_this_refusals g_this)), (a_this_now, .inr (0, rf_o0 a_this_now_kinds a_this_now_thicks g_this_now)), (a_this_now_kinds, .inl (cA, 6, .inl f_this_now_kinds)), (a_this_now_thicks, .inl (cA, 6, .inl f_this_now_thicks)), (a_this_trial, .inr (0, rf_o0 a_this_trial_kinds a_this_trial_thicks yg_this_trial)), (a_this_trial_kinds, .inl (cA, 6, .inl yf_this_trial_kinds)), (a_this_trial_thicks, .inl (cA, 6, .inl yf_this_trial_thicks)), (a_this_refusals, .inl (cA, 7, .inl yf_this_refusals))]) (wn := [(a_this, .inr (2, rf_o2 a_this_now a_this_then a_this_trial a_this_search a_this_letters a_this_numbers a_this_thickest a_this_refusals g_this)), (a_this_now, .inr (0, rf_o0 a_this_now_kinds a_this_now_thicks g_this_now)), (a_this_now_kinds, .inl (cA, 6, .inl f_this_now_kinds)), (a_this_now_thicks, .inl (cA, 6, .inl f_this_now_thicks)), (a_this_trial, .inr (0, rf_o0 a_this_trial_kinds a_this_trial_thicks yg_this_trial)), (a_this_trial_kinds, .inl (cA, 6, .inl yf_this_trial_kinds)), (a_this_trial_thicks, .inl (cA, 6, .inl yf_this_trial_thicks)), (a_this_numbers, .inl (cA, 12, .inl f_this_numbers)), (a_this_refusals, .inl (cA, 7, .inl yf_this_refusals))]) ⟨hx, hb, hml, hown, hts⟩ hK hP hD hS hA hE (c_X2_at l D cA ad a_this_numbers H.size 12 f_this_numbers x4 q2 hq2) (va_cwS 2 hts gX2_feel_X2_at rfl rfl rfl hs_X2_at ⟨Nat.le_of_ble_eq_true rfl, Nat.le_of_ble_eq_true rfl⟩) [7] [0, 1, 2, 3, 4, 5, 6, 8] [0, 1, 2, 3, 4, 5, 6, 8, 7] rfl rfl rfl rfl (by decide) rfl rfl rfl rfl hl.1 (Nat.le_of_ble_eq_true rfl) dX2_feel_75 ⟨Nat.zero_le _, Nat.zero_le _⟩ (fun H locs hP hD hS => ?_)
        refine lv_istore (lv' := [(5, .int q2), (0, .ref a_this), (1, .int p1), (2, .int x2), (3, .int x3), (4, .int x4)]) hx hb dX2_feel_78 hl (by decide) rfl (fun ls hl => ?_)
        refine lv_aload_n hx hb dX2_feel_80 rfl (lv_at hl 1 rfl) ?_
        refine va_get (D := D) (ci := 2) (v := .ref a_this_trial) (C := RX2) (T := TX2) (N := 12) hx hb hts jX2_feel_X2 hown hK hP 0 rfl rfl 2 (by decide) (hts _ kX2_feel_2) (fun _ h9 => h9) rfl dX2_feel_81 ?_
        refine lv_iload hx hb dX2_feel_84 (lv_at hl 0 rfl) ?_
        obtain ⟨q3, hq3, hf⟩ := rf_bindq hf
        refine rf_Vi (As := [.int q2]) (rest := []) (wr := [(a_this, .inr (2, rf_o2 a_this_now a_this_then a_this_trial a_this_search a_this_letters a_this_numbers a_this_thickest a_this_refusals g_this)), (a_this_now, .inr (0, rf_o0 a_this_now_kinds a_this_now_thicks g_this_now)), (a_this_now_kinds, .inl (cA, 6, .inl f_this_now_kinds)), (a_this_now_thicks, .inl (cA, 6, .inl f_this_now_thicks)), (a_this_numbers, .inl (cA, 12, .inl f_this_numbers)), (a_this_refusals, .inl (cA, 7, .inl yf_this_refusals))]) (wn := [(a_this, .inr (2, rf_o2 a_this_now a_this_then a_this_trial a_this_search a_this_letters a_this_numbers a_this_thickest a_this_refusals g_this)), (a_this_now, .inr (0, rf_o0 a_this_now_kinds a_this_now_thicks g_this_now)), (a_this_now_kinds, .inl (cA, 6, .inl f_this_now_kinds)), (a_this_now_thicks, .inl (cA, 6, .inl f_this_now_thicks)), (a_this_trial, .inr (0, rf_o0 a_this_trial_kinds a_this_trial_thicks yg_this_trial)), (a_this_trial_kinds, .inl (cA, 6, .inl yf_this_trial_kinds)), (a_this_trial_thicks, .inl (cA, 6, .inl q3.2)), (a_this_numbers, .inl (cA, 12, .inl f_this_numbers)), (a_this_refusals, .inl (cA, 7, .inl yf_this_refusals))]) ⟨hx, hb, hml, hown, hts⟩ hK hP hD hS hA hE (c_X0_thickestThatGoes l D cA ad a_this_trial a_this_trial_kinds a_this_trial_thicks H.size yg_this_trial yf_this_trial_kinds yf_this_trial_thicks q2 q3 hq3) (cwV 1 hts gX2_feel_X0_thickestThatGoes rfl rfl rfl hv_X0_thickestThatGoes ⟨Nat.le_of_ble_eq_true rfl, Nat.le_of_ble_eq_true rfl⟩) [4, 5, 6] [0, 1, 2, 3, 7, 8] [0, 1, 2, 3, 6, 7, 8, 4, 5] rfl rfl rfl rfl (by decide) rfl rfl 0 4 rfl rfl rfl rfl rfl hl.1 (Nat.le_of_ble_eq_true rfl) dX2_feel_86 ⟨Nat.zero_le _, Nat.zero_le _⟩ (fun H locs hP hD hS => ?_)
        refine lv_istore (lv' := [(6, .int q3.1), (5, .int q2), (0, .ref a_this), (1, .int p1), (2, .int x2), (3, .int x3), (4, .int x4)]) hx hb dX2_feel_89 hl (by decide) rfl (fun ls hl => ?_)
        refine lv_aload_n hx hb dX2_feel_91 rfl (lv_at hl 2 rfl) ?_
        refine va_get (D := D) (ci := 2) (v := .ref a_this_numbers) (C := RX2) (T := TX2) (N := 12) hx hb hts jX2_feel_X2 hown hK hP 0 rfl rfl 5 (by decide) (hts _ kX2_feel_1) (fun _ h9 => h9) rfl dX2_feel_92 ?_
        refine lv_iload hx hb dX2_feel_95 (lv_at hl 6 rfl) ?_
        refine lv_iconst (v := 1) hx hb dX2_feel_97 (by decide) ?_
        refine lv_iadd hx hb dX2_feel_98 ?_
        obtain ⟨q4, hq4, hf⟩ := rf_bindq hf
        refine rf_Si (As := [.ref a_this_numbers, .int (x4 + 1)]) (rest := []) (wr := [(a_this, .inr (2, rf_o2 a_this_now a_this_then a_this_trial a_this_search a_this_letters a_this_numbers a_this_thickest a_this_refusals g_this)), (a_this_now, .inr (0, rf_o0 a_this_now_kinds a_this_now_thicks g_this_now)), (a_this_now_kinds, .inl (cA, 6, .inl f_this_now_kinds)), (a_this_now_thicks, .inl (cA, 6, .inl f_this_now_thicks)), (a_this_trial, .inr (0, rf_o0 a_this_trial_kinds a_this_trial_thicks yg_this_trial)), (a_this_trial_kinds, .inl (cA, 6, .inl yf_this_trial_kinds)), (a_this_trial_thicks, .inl (cA, 6, .inl q3.2)), (a_this_refusals, .inl (cA, 7, .inl yf_this_refusals))]) (wn := [(a_this, .inr (2, rf_o2 a_this_now a_this_then a_this_trial a_this_search a_this_letters a_this_numbers a_this_thickest a_this_refusals g_this)), (a_this_now, .inr (0, rf_o0 a_this_now_kinds a_this_now_thicks g_this_now)), (a_this_now_kinds, .inl (cA, 6, .inl f_this_now_kinds)), (a_this_now_thicks, .inl (cA, 6, .inl f_this_now_thicks)), (a_this_trial, .inr (0, rf_o0 a_this_trial_kinds a_this_trial_thicks yg_this_trial)), (a_this_trial_kinds, .inl (cA, 6, .inl yf_this_trial_kinds)), (a_this_trial_thicks, .inl (cA, 6, .inl q3.2)), (a_this_numbers, .inl (cA, 12, .inl f_this_numbers)), (a_this_refusals, .inl (cA, 7, .inl yf_this_refusals))]) ⟨hx, hb, hml, hown, hts⟩ hK hP hD hS hA hE (c_X2_at l D cA ad a_this_numbers H.size 12 f_this_numbers (x4 + 1) q4 hq4) (va_cwS 2 hts gX2_feel_X2_at rfl rfl rfl hs_X2_at ⟨Nat.le_of_ble_eq_true rfl, Nat.le_of_ble_eq_true rfl⟩) [7] [0, 1, 2, 3, 4, 5, 6, 8] [0, 1, 2, 3, 4, 5, 6, 8, 7] rfl rfl rfl rfl (by decide) rfl rfl rfl rfl hl.1 (Nat.le_of_ble_eq_true rfl) dX2_feel_99 ⟨Nat.zero_le _, Nat.zero_le _⟩ (fun H locs hP hD hS => ?_)
        refine lv_iconst (v := 1) hx hb dX2_feel_102 (by decide) ?_
        refine lv_icmp_ne (tgt := 116) hx hb dX2_feel_103 (by decide) (fun c5 => ?_) (fun c5 => ?_)
        · have hf := rf_ifn hf c5
          refine lv_iload_n hx hb dX2_feel_116 rfl (lv_at hl 4 rfl) ?_
          refine lv_iload hx hb dX2_feel_117 (lv_at hl 0 rfl) ?_
          refine lv_iconst (v := 1) hx hb dX2_feel_119 (by decide) ?_
          refine lv_iadd hx hb dX2_feel_120 ?_
          refine va_mmax hx hb (hml.trans hl.1.symm) hown (hts _ kX2_feel_3) (hts _ kX2_feel_4) (hts _ kX2_feel_5) (hts _ kX2_feel_6) (Nat.le_of_ble_eq_true rfl) (Nat.le_of_ble_eq_true rfl) (Nat.zero_le _) (Nat.zero_le _) dX2_feel_121 ?_
          refine lv_topi (fun v6 ev6 => ?_)
          have hf := rf_bindv hf ev6
          clear ev6
          refine lv_istore_n (lv' := [(2, .int v6), (6, .int q3.1), (5, .int q2), (0, .ref a_this), (1, .int p1), (3, .int x3), (4, .int x4)]) hx hb dX2_feel_124 rfl hl (by decide) rfl (fun ls hl => ?_)
          refine lv_aload_n hx hb dX2_feel_125 rfl (lv_at hl 3 rfl) ?_
          refine va_get (D := D) (ci := 2) (v := .ref a_this_trial) (C := RX2) (T := TX2) (N := 12) hx hb hts jX2_feel_X2 hown hK hP 0 rfl rfl 2 (by decide) (hts _ kX2_feel_2) (fun _ h9 => h9) rfl dX2_feel_126 ?_
          refine lv_iload hx hb dX2_feel_129 (lv_at hl 2 rfl) ?_
          obtain ⟨q7, hq7, hf⟩ := rf_bindq hf
          refine rf_Vv (As := [.int q2]) (rest := []) (wr := [(a_this, .inr (2, rf_o2 a_this_now a_this_then a_this_trial a_this_search a_this_letters a_this_numbers a_this_thickest a_this_refusals g_this)), (a_this_now, .inr (0, rf_o0 a_this_now_kinds a_this_now_thicks g_this_now)), (a_this_now_kinds, .inl (cA, 6, .inl f_this_now_kinds)), (a_this_now_thicks, .inl (cA, 6, .inl f_this_now_thicks)), (a_this_trial_kinds, .inl (cA, 6, .inl yf_this_trial_kinds)), (a_this_trial_thicks, .inl (cA, 6, .inl q3.2)), (a_this_numbers, .inl (cA, 12, .inl f_this_numbers)), (a_this_refusals, .inl (cA, 7, .inl yf_this_refusals))]) (wn := [(a_this, .inr (2, rf_o2 a_this_now a_this_then a_this_trial a_this_search a_this_letters a_this_numbers a_this_thickest a_this_refusals g_this)), (a_this_now, .inr (0, rf_o0 a_this_now_kinds a_this_now_thicks g_this_now)), (a_this_now_kinds, .inl (cA, 6, .inl f_this_now_kinds)), (a_this_now_thicks, .inl (cA, 6, .inl f_this_now_thicks)), (a_this_trial, .inr (0, rf_o0 a_this_trial_kinds a_this_trial_thicks q7)), (a_this_trial_kinds, .inl (cA, 6, .inl yf_this_trial_kinds)), (a_this_trial_thicks, .inl (cA, 6, .inl q3.2)), (a_this_numbers, .inl (cA, 12, .inl f_this_numbers)), (a_this_refusals, .inl (cA, 7, .inl yf_this_refusals))]) ⟨hx, hb, hml, hown, hts⟩ hK hP hD hS hA hE (c_X0_strain l D cA ad a_this_trial a_this_trial_kinds a_this_trial_thicks H.size yg_this_trial q2 q7 hq7) (cwV 1 hts gX2_feel_X0_strain rfl rfl rfl hv_X0_strain ⟨Nat.le_of_ble_eq_true rfl, Nat.le_of_ble_eq_true rfl⟩) [4] [0, 1, 2, 3, 5, 6, 7, 8] [0, 1, 2, 3, 8, 4, 5, 6, 7] rfl rfl rfl rfl (by decide) rfl rfl 0 4 rfl rfl rfl rfl rfl hl.1 (Nat.le_of_ble_eq_true rfl) dX2_feel_131 ⟨Nat.zero_le _, Nat.zero_le _⟩ (fun H locs hP hD hS => ?_)
          obtain ⟨v8, ev8⟩ : ∃ y : Int32, y = x4 + 2 := ⟨_, rfl⟩
          have hf := rf_bindv hf ev8
          refine lv_iinc (v := v8) (lv' := [(4, .int v8), (2, .int v6), (6, .int q3.1), (5, .int q2), (0, .ref a_this), (1, .int p1), (3, .int x3)]) hx hb dX2_feel_134 hl (k := 6) rfl (by rw [ev8]; rfl) (by decide) rfl (fun ls hl => ?_)
          clear ev8
          refine lv_goto (tgt := 58) hx hb dX2_feel_137 (by decide) ?_
          exact ih v6 x3 v8 q7 q3.2 ql hf _ _ _ hP hD hS (lv_sub hl [4, 5, 1, 6, 0] rfl) kx
        · have hf := rf_ifp hf c5
          refine lv_iload_n hx hb dX2_feel_106 rfl (lv_at hl 5 rfl) ?_
          refine lv_iload hx hb dX2_feel_107 (lv_at hl 0 rfl) ?_
          refine va_mmin hx hb (hml.trans hl.1.symm) hown (hts _ kX2_feel_7) (hts _ kX2_feel_8) (hts _ kX2_feel_5) (hts _ kX2_feel_9) (Nat.le_of_ble_eq_true rfl) (Nat.le_of_ble_eq_true rfl) (Nat.zero_le _) (Nat.zero_le _) dX2_feel_109 ?_
          refine lv_topi (fun v9 ev9 => ?_)
          have hf := rf_bindv hf ev9
          clear ev9
          refine lv_istore_n (lv' := [(3, .int v9), (6, .int q3.1), (5, .int q2), (0, .ref a_this), (1, .int p1), (2, .int x2), (4, .int x4)]) hx hb dX2_feel_112 rfl hl (by decide) rfl (fun ls hl => ?_)
          refine lv_goto (tgt := 125) hx hb dX2_feel_113 (by decide) ?_
          refine lv_aload_n hx hb dX2_feel_125 rfl (lv_at hl 3 rfl) ?_
          refine va_get (D := D) (ci := 2) (v := .ref a_this_trial) (C := RX2) (T := TX2) (N := 12) hx hb hts jX2_feel_X2 hown hK hP 0 rfl rfl 2 (by decide) (hts _ kX2_feel_2) (fun _ h9 => h9) rfl dX2_feel_126 ?_
          refine lv_iload hx hb dX2_feel_129 (lv_at hl 2 rfl) ?_
          obtain ⟨q10, hq10, hf⟩ := rf_bindq hf
          refine rf_Vv (As := [.int q2]) (rest := []) (wr := [(a_this, .inr (2, rf_o2 a_this_now a_this_then a_this_trial a_this_search a_this_letters a_this_numbers a_this_thickest a_this_refusals g_this)), (a_this_now, .inr (0, rf_o0 a_this_now_kinds a_this_now_thicks g_this_now)), (a_this_now_kinds, .inl (cA, 6, .inl f_this_now_kinds)), (a_this_now_thicks, .inl (cA, 6, .inl f_this_now_thicks)), (a_this_trial_kinds, .inl (cA, 6, .inl yf_this_trial_kinds)), (a_this_trial_thicks, .inl (cA, 6, .inl q3.2)), (a_this_numbers, .inl (cA, 12, .inl f_this_numbers)), (a_this_refusals, .inl (cA, 7, .inl yf_this_refusals))]) (wn := [(a_this, .inr (2, rf_o2 a_this_now a_this_then a_this_trial a_this_search a_this_letters a_this_numbers a_this_thickest a_this_refusals g_this)), (a_this_now, .inr (0, rf_o0 a_this_now_kinds a_this_now_thicks g_this_now)), (a_this_now_kinds, .inl (cA, 6, .inl f_this_now_kinds)), (a_this_now_thicks, .inl (cA, 6, .inl f_this_now_thicks)), (a_this_trial, .inr (0, rf_o0 a_this_trial_kinds a_this_trial_thicks q10)), (a_this_trial_kinds, .inl (cA, 6, .inl yf_this_trial_kinds)), (a_this_trial_thicks, .inl (cA, 6, .inl q3.2)), (a_this_numbers, .inl (cA, 12, .inl f_this_numbers)), (a_this_refusals, .inl (cA, 7, .inl yf_this_refusals))]) ⟨hx, hb, hml, hown, hts⟩ hK hP hD hS hA hE (c_X0_strain l D cA ad a_this_trial a_this_trial_kinds a_this_trial_thicks H.size yg_this_trial q2 q10 hq10) (cwV 1 hts gX2_feel_X0_strain rfl rfl rfl hv_X0_strain ⟨Nat.le_of_ble_eq_true rfl, Nat.le_of_ble_eq_true rfl⟩) [4] [0, 1, 2, 3, 5, 6, 7, 8] [0, 1, 2, 3, 8, 4, 5, 6, 7] rfl rfl rfl rfl (by decide) rfl rfl 0 4 rfl rfl rfl rfl rfl hl.1 (Nat.le_of_ble_eq_true rfl) dX2_feel_131 ⟨Nat.zero_le _, Nat.zero_le _⟩ (fun H locs hP hD hS => ?_)
          obtain ⟨v11, ev11⟩ : ∃ y : Int32, y = x4 + 2 := ⟨_, rfl⟩
          have hf := rf_bindv hf ev11
          refine lv_iinc (v := v11) (lv' := [(4, .int v11), (3, .int v9), (6, .int q3.1), (5, .int q2), (0, .ref a_this), (1, .int p1), (2, .int x2)]) hx hb dX2_feel_134 hl (k := 6) rfl (by rw [ev11]; rfl) (by decide) rfl (fun ls hl => ?_)
          clear ev11
          refine lv_goto (tgt := 58) hx hb dX2_feel_137 (by decide) ?_
          exact ih x2 v9 v11 q10 q3.2 ql hf _ _ _ hP hD hS (lv_sub hl [4, 5, 6, 1, 0] rfl) kx
  rw [f_X2_feel] at hf
  refine lv_iload_n hx hb dX2_feel_0 rfl (lv_at hl 1 rfl) ?_
  obtain ⟨q12, hq12, hf⟩ := rf_bindq hf
  refine rf_Si (As := [.int p1]) (rest := []) (wr := [(a_this, .inr (2, rf_o2 a_this_now a_this_then a_this_trial a_this_search a_this_letters a_this_numbers a_this_thickest a_this_refusals g_this)), (a_this_now, .inr (0, rf_o0 a_this_now_kinds a_this_now_thicks g_this_now)), (a_this_now_kinds, .inl (cA, 6, .inl f_this_now_kinds)), (a_this_now_thicks, .inl (cA, 6, .inl f_this_now_thicks)), (a_this_trial, .inr (0, rf_o0 a_this_trial_kinds a_this_trial_thicks g_this_trial)), (a_this_trial_kinds, .inl (cA, 6, .inl f_this_trial_kinds)), (a_this_trial_thicks, .inl (cA, 6, .inl f_this_trial_thicks)), (a_this_numbers, .inl (cA, 12, .inl f_this_numbers)), (a_this_refusals, .inl (cA, 7, .inl f_this_refusals))]) (wn := [(a_this, .inr (2, rf_o2 a_this_now a_this_then a_this_trial a_this_search a_this_letters a_this_numbers a_this_thickest a_this_refusals g_this)), (a_this_now, .inr (0, rf_o0 a_this_now_kinds a_this_now_thicks g_this_now)), (a_this_now_kinds, .inl (cA, 6, .inl f_this_now_kinds)), (a_this_now_thicks, .inl (cA, 6, .inl f_this_now_thicks)), (a_this_trial, .inr (0, rf_o0 a_this_trial_kinds a_this_trial_thicks g_this_trial)), (a_this_trial_kinds, .inl (cA, 6, .inl f_this_trial_kinds)), (a_this_trial_thicks, .inl (cA, 6, .inl f_this_trial_thicks)), (a_this_numbers, .inl (cA, 12, .inl f_this_numbers)), (a_this_refusals, .inl (cA, 7, .inl f_this_refusals))]) ⟨hx, hb, hml, hown, hts⟩ hK hP hD hS hA hE (c_X2_isEither l D cA ad s.heap.size p1 q12 hq12) (va_cwS 1 hts gX2_feel_X2_isEither rfl rfl rfl hs_X2_isEither ⟨Nat.le_of_ble_eq_true rfl, Nat.le_of_ble_eq_true rfl⟩) [] [0, 1, 2, 3, 4, 5, 6, 7, 8] [0, 1, 2, 3, 4, 5, 6, 7, 8] rfl rfl rfl rfl (by decide) rfl rfl rfl rfl hl.1 (Nat.le_of_ble_eq_true rfl) dX2_feel_1 ⟨Nat.zero_le _, Nat.zero_le _⟩ (fun H locs hP hD hS => ?_)
  refine lv_if_ne (tgt := 14) hx hb dX2_feel_4 (by decide) (fun c13 => ?_) (fun c13 => ?_)
  · have hf := rf_ifn hf c13
    refine lv_aload_n hx hb dX2_feel_14 rfl (lv_at hl 0 rfl) ?_
    refine va_get (D := D) (ci := 2) (v := .ref a_this_now) (C := RX2) (T := TX2) (N := 12) hx hb hts jX2_feel_X2 hown hK hP 0 rfl rfl 0 (by decide) (hts _ kX2_feel_10) (fun _ h9 => h9) rfl dX2_feel_15 ?_
    obtain ⟨q14, hq14, hf⟩ := rf_bindq hf
    refine rf_Vi (As := []) (rest := []) (wr := [(a_this, .inr (2, rf_o2 a_this_now a_this_then a_this_trial a_this_search a_this_letters a_this_numbers a_this_thickest a_this_refusals g_this)), (a_this_now_kinds, .inl (cA, 6, .inl f_this_now_kinds)), (a_this_now_thicks, .inl (cA, 6, .inl f_this_now_thicks)), (a_this_trial, .inr (0, rf_o0 a_this_trial_kinds a_this_trial_thicks g_this_trial)), (a_this_trial_kinds, .inl (cA, 6, .inl f_this_trial_kinds)), (a_this_trial_thicks, .inl (cA, 6, .inl f_this_trial_thicks)), (a_this_numbers, .inl (cA, 12, .inl f_this_numbers)), (a_this_refusals, .inl (cA, 7, .inl f_this_refusals))]) (wn := [(a_this, .inr (2, rf_o2 a_this_now a_this_then a_this_trial a_this_search a_this_letters a_this_numbers a_this_thickest a_this_refusals g_this)), (a_this_now, .inr (0, rf_o0 a_this_now_kinds a_this_now_thicks g_this_now)), (a_this_now_kinds, .inl (cA, 6, .inl f_this_now_kinds)), (a_this_now_thicks, .inl (cA, 6, .inl f_this_now_thicks)), (a_this_trial, .inr (0, rf_o0 a_this_trial_kinds a_this_trial_thicks g_this_trial)), (a_this_trial_kinds, .inl (cA, 6, .inl f_this_trial_kinds)), (a_this_trial_thicks, .inl (cA, 6, .inl f_this_trial_thicks)), (a_this_numbers, .inl (cA, 12, .inl f_this_numbers)), (a_this_refusals, .inl (cA, 7, .inl f_this_refusals))]) ⟨hx, hb, hml, hown, hts⟩ hK hP hD hS hA hE (c_X0_isOff l D cA ad a_this_now a_this_now_kinds a_this_now_thicks H.size g_this_now q14 hq14) (cwV 0 hts gX2_feel_X0_isOff rfl rfl rfl hv_X0_isOff ⟨Nat.le_of_ble_eq_true rfl, Nat.le_of_ble_eq_true rfl⟩) [1] [0, 2, 3, 4, 5, 6, 7, 8] [0, 8, 1, 2, 3, 4, 5, 6, 7] rfl rfl rfl rfl (by decide) rfl rfl 0 1 rfl rfl rfl rfl rfl hl.1 (Nat.le_of_ble_eq_true rfl) dX2_feel_18 ⟨Nat.zero_le _, Nat.zero_le _⟩ (fun H locs hP hD hS => ?_)
    refine lv_if_ne (tgt := 31) hx hb dX2_feel_21 (by decide) (fun c15 => ?_) (fun c15 => ?_)
    · have hf := rf_ifn hf c15
      refine lv_aload_n hx hb dX2_feel_31 rfl (lv_at hl 0 rfl) ?_
      refine lv_bipush (v := (-3)) hx hb dX2_feel_32 (by decide) ?_
      obtain ⟨q16, hq16, hf⟩ := rf_bindq hf
      refine rf_Vi (As := [.int (-3)]) (rest := []) (wr := [(a_this_now, .inr (0, rf_o0 a_this_now_kinds a_this_now_thicks g_this_now)), (a_this_now_kinds, .inl (cA, 6, .inl f_this_now_kinds)), (a_this_now_thicks, .inl (cA, 6, .inl f_this_now_thicks)), (a_this_trial, .inr (0, rf_o0 a_this_trial_kinds a_this_trial_thicks g_this_trial)), (a_this_trial_kinds, .inl (cA, 6, .inl f_this_trial_kinds)), (a_this_trial_thicks, .inl (cA, 6, .inl f_this_trial_thicks)), (a_this_numbers, .inl (cA, 12, .inl f_this_numbers))]) (wn := [(a_this, .inr (2, rf_o2 a_this_now a_this_then a_this_trial a_this_search a_this_letters a_this_numbers a_this_thickest a_this_refusals g_this)), (a_this_now, .inr (0, rf_o0 a_this_now_kinds a_this_now_thicks g_this_now)), (a_this_now_kinds, .inl (cA, 6, .inl f_this_now_kinds)), (a_this_now_thicks, .inl (cA, 6, .inl f_this_now_thicks)), (a_this_trial, .inr (0, rf_o0 a_this_trial_kinds a_this_trial_thicks g_this_trial)), (a_this_trial_kinds, .inl (cA, 6, .inl f_this_trial_kinds)), (a_this_trial_thicks, .inl (cA, 6, .inl f_this_trial_thicks)), (a_this_numbers, .inl (cA, 12, .inl f_this_numbers)), (a_this_refusals, .inl (cA, 7, .inl q16.2))]) ⟨hx, hb, hml, hown, hts⟩ hK hP hD hS hA hE (c_X2_refuse l D cA ad a_this a_this_now a_this_then a_this_trial a_this_search a_this_letters a_this_numbers a_this_thickest a_this_refusals H.size g_this f_this_refusals (-3) q16 hq16) (cwV 1 hts gX2_feel_X2_refuse rfl rfl rfl hv_X2_refuse ⟨Nat.le_of_ble_eq_true rfl, Nat.le_of_ble_eq_true rfl⟩) [0, 8] [1, 2, 3, 4, 5, 6, 7] [7, 0, 1, 2, 3, 4, 5, 6, 8] rfl rfl rfl rfl (by decide) rfl rfl 2 0 rfl rfl rfl rfl rfl hl.1 (Nat.le_of_ble_eq_true rfl) dX2_feel_34 ⟨Nat.zero_le _, Nat.zero_le _⟩ (fun H locs hP hD hS => ?_)
      obtain rfl := Option.some.inj hf
      exact W.iret (v := q16.1) hx hb hr (fun t ht hW => ⟨⟨q16.1, (), rfl, rfl, rf_mk ht hP hD⟩, hS.F ht⟩) hS.2.2 dX2_feel_37
    · have hf := rf_ifp hf c15
      refine lv_aload_n hx hb dX2_feel_24 rfl (lv_at hl 0 rfl) ?_
      obtain ⟨q17, hq17, hf⟩ := rf_bindq hf
      refine rf_Vi (As := []) (rest := []) (wr := [(a_this_now, .inr (0, rf_o0 a_this_now_kinds a_this_now_thicks g_this_now)), (a_this_now_kinds, .inl (cA, 6, .inl f_this_now_kinds)), (a_this_now_thicks, .inl (cA, 6, .inl f_this_now_thicks)), (a_this_trial, .inr (0, rf_o0 a_this_trial_kinds a_this_trial_thicks g_this_trial)), (a_this_trial_kinds, .inl (cA, 6, .inl f_this_trial_kinds)), (a_this_trial_thicks, .inl (cA, 6, .inl f_this_trial_thicks)), (a_this_refusals, .inl (cA, 7, .inl f_this_refusals))]) (wn := [(a_this, .inr (2, rf_o2 a_this_now a_this_then a_this_trial a_this_search a_this_letters a_this_numbers a_this_thickest a_this_refusals g_this)), (a_this_now, .inr (0, rf_o0 a_this_now_kinds a_this_now_thicks g_this_now)), (a_this_now_kinds, .inl (cA, 6, .inl f_this_now_kinds)), (a_this_now_thicks, .inl (cA, 6, .inl f_this_now_thicks)), (a_this_trial, .inr (0, rf_o0 a_this_trial_kinds a_this_trial_thicks g_this_trial)), (a_this_trial_kinds, .inl (cA, 6, .inl f_this_trial_kinds)), (a_this_trial_thicks, .inl (cA, 6, .inl f_this_trial_thicks)), (a_this_numbers, .inl (cA, 12, .inl f_this_numbers)), (a_this_refusals, .inl (cA, 7, .inl f_this_refusals))]) ⟨hx, hb, hml, hown, hts⟩ hK hP hD hS hA hE (c_X2_numbersTellTries l D cA ad a_this a_this_now a_this_then a_this_trial a_this_search a_this_letters a_this_numbers a_this_thickest a_this_refusals H.size g_this f_this_numbers q17 hq17) (cwV 0 hts gX2_feel_X2_numbersTellTries rfl rfl rfl hv_X2_numbersTellTries ⟨Nat.le_of_ble_eq_true rfl, Nat.le_of_ble_eq_true rfl⟩) [0, 7] [1, 2, 3, 4, 5, 6, 8] [7, 0, 1, 2, 3, 4, 5, 8, 6] rfl rfl rfl rfl (by decide) rfl rfl 2 0 rfl rfl rfl rfl rfl hl.1 (Nat.le_of_ble_eq_true rfl) dX2_feel_25 ⟨Nat.zero_le _, Nat.zero_le _⟩ (fun H locs hP hD hS => ?_)
      refine lv_if_ne (tgt := 38) hx hb dX2_feel_28 (by decide) (fun c18 => ?_) (fun c18 => ?_)
      · have hf := rf_ifn hf c18
        refine lv_iconst (v := 0) hx hb dX2_feel_38 (by decide) ?_
        refine lv_istore_n (lv' := [(2, .int 0), (0, .ref a_this), (1, .int p1)]) hx hb dX2_feel_39 rfl hl (by decide) rfl (fun ls hl => ?_)
        refine lv_sipush (v := 240) hx hb dX2_feel_40 (by decide) ?_
        refine lv_istore_n (lv' := [(3, .int 240), (2, .int 0), (0, .ref a_this), (1, .int p1)]) hx hb dX2_feel_43 rfl hl (by decide) rfl (fun ls hl => ?_)
        refine lv_aload_n hx hb dX2_feel_44 rfl (lv_at hl 2 rfl) ?_
        refine va_get (D := D) (ci := 2) (v := .ref a_this_trial) (C := RX2) (T := TX2) (N := 12) hx hb hts jX2_feel_X2 hown hK hP 0 rfl rfl 2 (by decide) (hts _ kX2_feel_2) (fun _ h9 => h9) rfl dX2_feel_45 ?_
        refine lv_aload_n hx hb dX2_feel_48 rfl (lv_at hl 2 rfl) ?_
        refine va_get (D := D) (ci := 2) (v := .ref a_this_now) (C := RX2) (T := TX2) (N := 12) hx hb hts jX2_feel_X2 hown hK hP 0 rfl rfl 0 (by decide) (hts _ kX2_feel_10) (fun _ h9 => h9) rfl dX2_feel_49 ?_
        obtain ⟨q19, hq19, hf⟩ := rf_bindq hf
        refine rf_Vv (As := [.ref a_this_now]) (rest := []) (wr := [(a_this, .inr (2, rf_o2 a_this_now a_this_then a_this_trial a_this_search a_this_letters a_this_numbers a_this_thickest a_this_refusals g_this)), (a_this_numbers, .inl (cA, 12, .inl f_this_numbers)), (a_this_refusals, .inl (cA, 7, .inl f_this_refusals))]) (wn := [(a_this, .inr (2, rf_o2 a_this_now a_this_then a_this_trial a_this_search a_this_letters a_this_numbers a_this_thickest a_this_refusals g_this)), (a_this_now, .inr (0, rf_o0 a_this_now_kinds a_this_now_thicks g_this_now)), (a_this_now_kinds, .inl (cA, 6, .inl f_this_now_kinds)), (a_this_now_thicks, .inl (cA, 6, .inl f_this_now_thicks)), (a_this_trial, .inr (0, rf_o0 a_this_trial_kinds a_this_trial_thicks q19.1)), (a_this_trial_kinds, .inl (cA, 6, .inl q19.2.1)), (a_this_trial_thicks, .inl (cA, 6, .inl q19.2.2)), (a_this_numbers, .inl (cA, 12, .inl f_this_numbers)), (a_this_refusals, .inl (cA, 7, .inl f_this_refusals))]) ⟨hx, hb, hml, hown, hts⟩ hK hP hD hS hA hE (c_X0_copyFrom l D cA ad a_this_trial a_this_trial_kinds a_this_trial_thicks a_this_now a_this_now_kinds a_this_now_thicks H.size g_this_trial f_this_trial_kinds f_this_trial_thicks g_this_now f_this_now_kinds f_this_now_thicks q19 hq19) (cwV 1 hts gX2_feel_X0_copyFrom rfl rfl rfl hv_X0_copyFrom ⟨Nat.le_of_ble_eq_true rfl, Nat.le_of_ble_eq_true rfl⟩) [4, 5, 6, 1, 2, 3] [0, 7, 8] [0, 6, 7, 8, 3, 4, 5, 1, 2] rfl rfl rfl rfl (by decide) rfl rfl 0 4 rfl rfl rfl rfl rfl hl.1 (Nat.le_of_ble_eq_true rfl) dX2_feel_52 ⟨Nat.zero_le _, Nat.zero_le _⟩ (fun H locs hP hD hS => ?_)
        refine lv_iconst (v := 0) hx hb dX2_feel_55 (by decide) ?_
        refine lv_istore (lv' := [(4, .int 0), (3, .int 240), (2, .int 0), (0, .ref a_this), (1, .int p1)]) hx hb dX2_feel_56 hl (by decide) rfl (fun ls hl => ?_)
        obtain ⟨q20, hq20, hf⟩ := rf_bindq hf
        refine key_58 q19.2.1 f_this_refusals rf_fu 0 240 0 q19.1 q19.2.2 q20 hq20 _ _ _ hP hD hS (lv_sub hl [3, 4, 2, 1, 0] rfl) (fun H locs ls hP hD hS hl => ?_)
        refine lv_iload_n hx hb dX2_feel_140 rfl (lv_at hl 2 rfl) ?_
        refine lv_iload_n hx hb dX2_feel_141 rfl (lv_at hl 3 rfl) ?_
        refine lv_icmp_le (tgt := 148) hx hb dX2_feel_142 (by decide) (fun c21 => ?_) (fun c21 => ?_)
        · have hf := rf_ifp hf c21
          refine lv_iload_n hx hb dX2_feel_148 rfl (lv_at hl 1 rfl) ?_
          refine lv_if_ne (tgt := 156) hx hb dX2_feel_149 (by decide) (fun c22 => ?_) (fun c22 => ?_)
          · have hf := rf_ifn hf c22
            refine lv_iload_n hx hb dX2_feel_156 rfl (lv_at hl 3 rfl) ?_
            obtain rfl := Option.some.inj hf
            exact W.iret (v := q20.2.1) hx hb hr (fun t ht hW => ⟨⟨q20.2.1, (), rfl, rfl, rf_mk ht hP hD⟩, hS.F ht⟩) hS.2.2 dX2_feel_157
          · have hf := rf_ifp hf c22
            refine lv_iload_n hx hb dX2_feel_152 rfl (lv_at hl 2 rfl) ?_
            refine lv_goto (tgt := 157) hx hb dX2_feel_153 (by decide) ?_
            obtain rfl := Option.some.inj hf
            exact W.iret (v := q20.1) hx hb hr (fun t ht hW => ⟨⟨q20.1, (), rfl, rfl, rf_mk ht hP hD⟩, hS.F ht⟩) hS.2.2 dX2_feel_157
        · have hf := rf_ifn hf c21
          refine lv_bipush (v := (-9)) hx hb dX2_feel_145 (by decide) ?_
          obtain rfl := Option.some.inj hf
          exact W.iret (v := (-9)) hx hb hr (fun t ht hW => ⟨⟨(-9), (), rfl, rfl, rf_mk ht hP hD⟩, hS.F ht⟩) hS.2.2 dX2_feel_147
      · have hf := rf_ifp hf c18
        refine lv_aload_n hx hb dX2_feel_31 rfl (lv_at hl 0 rfl) ?_
        refine lv_bipush (v := (-3)) hx hb dX2_feel_32 (by decide) ?_
        obtain ⟨q23, hq23, hf⟩ := rf_bindq hf
        refine rf_Vi (As := [.int (-3)]) (rest := []) (wr := [(a_this_now, .inr (0, rf_o0 a_this_now_kinds a_this_now_thicks g_this_now)), (a_this_now_kinds, .inl (cA, 6, .inl f_this_now_kinds)), (a_this_now_thicks, .inl (cA, 6, .inl f_this_now_thicks)), (a_this_trial, .inr (0, rf_o0 a_this_trial_kinds a_this_trial_thicks g_this_trial)), (a_this_trial_kinds, .inl (cA, 6, .inl f_this_trial_kinds)), (a_this_trial_thicks, .inl (cA, 6, .inl f_this_trial_thicks)), (a_this_numbers, .inl (cA, 12, .inl f_this_numbers))]) (wn := [(a_this, .inr (2, rf_o2 a_this_now a_this_then a_this_trial a_this_search a_this_letters a_this_numbers a_this_thickest a_this_refusals g_this)), (a_this_now, .inr (0, rf_o0 a_this_now_kinds a_this_now_thicks g_this_now)), (a_this_now_kinds, .inl (cA, 6, .inl f_this_now_kinds)), (a_this_now_thicks, .inl (cA, 6, .inl f_this_now_thicks)), (a_this_trial, .inr (0, rf_o0 a_this_trial_kinds a_this_trial_thicks g_this_trial)), (a_this_trial_kinds, .inl (cA, 6, .inl f_this_trial_kinds)), (a_this_trial_thicks, .inl (cA, 6, .inl f_this_trial_thicks)), (a_this_numbers, .inl (cA, 12, .inl f_this_numbers)), (a_this_refusals, .inl (cA, 7, .inl q23.2))]) ⟨hx, hb, hml, hown, hts⟩ hK hP hD hS hA hE (c_X2_refuse l D cA ad a_this a_this_now a_this_then a_this_trial a_this_search a_this_letters a_this_numbers a_this_thickest a_this_refusals H.size g_this f_this_refusals (-3) q23 hq23) (cwV 1 hts gX2_feel_X2_refuse rfl rfl rfl hv_X2_refuse ⟨Nat.le_of_ble_eq_true rfl, Nat.le_of_ble_eq_true rfl⟩) [0, 8] [1, 2, 3, 4, 5, 6, 7] [7, 0, 1, 2, 3, 4, 5, 6, 8] rfl rfl rfl rfl (by decide) rfl rfl 2 0 rfl rfl rfl rfl rfl hl.1 (Nat.le_of_ble_eq_true rfl) dX2_feel_34 ⟨Nat.zero_le _, Nat.zero_le _⟩ (fun H locs hP hD hS => ?_)
        obtain rfl := Option.some.inj hf
        exact W.iret (v := q23.1) hx hb hr (fun t ht hW => ⟨⟨q23.1, (), rfl, rfl, rf_mk ht hP hD⟩, hS.F ht⟩) hS.2.2 dX2_feel_37
  · have hf := rf_ifp hf c13
    refine lv_aload_n hx hb dX2_feel_7 rfl (lv_at hl 0 rfl) ?_
    refine lv_bipush (v := (-2)) hx hb dX2_feel_8 (by decide) ?_
    obtain ⟨q24, hq24, hf⟩ := rf_bindq hf
    refine rf_Vi (As := [.int (-2)]) (rest := []) (wr := [(a_this_now, .inr (0, rf_o0 a_this_now_kinds a_this_now_thicks g_this_now)), (a_this_now_kinds, .inl (cA, 6, .inl f_this_now_kinds)), (a_this_now_thicks, .inl (cA, 6, .inl f_this_now_thicks)), (a_this_trial, .inr (0, rf_o0 a_this_trial_kinds a_this_trial_thicks g_this_trial)), (a_this_trial_kinds, .inl (cA, 6, .inl f_this_trial_kinds)), (a_this_trial_thicks, .inl (cA, 6, .inl f_this_trial_thicks)), (a_this_numbers, .inl (cA, 12, .inl f_this_numbers))]) (wn := [(a_this, .inr (2, rf_o2 a_this_now a_this_then a_this_trial a_this_search a_this_letters a_this_numbers a_this_thickest a_this_refusals g_this)), (a_this_now, .inr (0, rf_o0 a_this_now_kinds a_this_now_thicks g_this_now)), (a_this_now_kinds, .inl (cA, 6, .inl f_this_now_kinds)), (a_this_now_thicks, .inl (cA, 6, .inl f_this_now_thicks)), (a_this_trial, .inr (0, rf_o0 a_this_trial_kinds a_this_trial_thicks g_this_trial)), (a_this_trial_kinds, .inl (cA, 6, .inl f_this_trial_kinds)), (a_this_trial_thicks, .inl (cA, 6, .inl f_this_trial_thicks)), (a_this_numbers, .inl (cA, 12, .inl f_this_numbers)), (a_this_refusals, .inl (cA, 7, .inl q24.2))]) ⟨hx, hb, hml, hown, hts⟩ hK hP hD hS hA hE (c_X2_refuse l D cA ad a_this a_this_now a_this_then a_this_trial a_this_search a_this_letters a_this_numbers a_this_thickest a_this_refusals H.size g_this f_this_refusals (-2) q24 hq24) (cwV 1 hts gX2_feel_X2_refuse rfl rfl rfl hv_X2_refuse ⟨Nat.le_of_ble_eq_true rfl, Nat.le_of_ble_eq_true rfl⟩) [0, 8] [1, 2, 3, 4, 5, 6, 7] [7, 0, 1, 2, 3, 4, 5, 6, 8] rfl rfl rfl rfl (by decide) rfl rfl 2 0 rfl rfl rfl rfl rfl hl.1 (Nat.le_of_ble_eq_true rfl) dX2_feel_10 ⟨Nat.zero_le _, Nat.zero_le _⟩ (fun H locs hP hD hS => ?_)
    obtain rfl := Option.some.inj hf
    exact W.iret (v := q24.1) hx hb hr (fun t ht hW => ⟨⟨q24.1, (), rfl, rfl, rf_mk ht hP hD⟩, hS.F ht⟩) hS.2.2 dX2_feel_13
theorem kX2_row_0 : (.fieldLink RX2 46 "RingAndFinger" "numberCount" "I" : Cond) ∈ wsX2_row := by decide +kernel
theorem kX2_row_1 : (.fieldLink RX2 33 "RingAndFinger" "numbers" "[I" : Cond) ∈ wsX2_row := by decide +kernel
theorem jX2_row_X2 : ∀ w ∈ u_ws RX2 TX2 12, w ∈ wsX2_row := by decide +kernel
set_option maxHeartbeats 8000000 in
set_option maxRecDepth 100000 in
theorem c_X2_row (l : Launch) (D : va_G) (cA : ClassId) (ad : Nat → Nat) (a_this a_this_now a_this_then a_this_trial a_this_search a_this_letters a_this_numbers a_this_thickest a_this_refusals : Nat) (sz : Nat) (g_this f_this_numbers f_this_refusals : Nat → Int32) (p1 : Int32) (q : Int32 × (Nat → Int32) × (Nat → Int32) × (Nat → Int32)) (hf : f_X2_row g_this f_this_numbers f_this_refusals p1 = some q) : Met l yX2_row wsX2_row ({ frames := 2, cells := 0, slots := 0, locals := 43 } : Room) (va_Pc [.ref a_this, .int p1] (rf_Pre D cA ad [(a_this, .inr (2, rf_o2 a_this_now a_this_then a_this_trial a_this_search a_this_letters a_this_numbers a_this_thickest a_this_refusals g_this)), (a_this_numbers, .inl (cA, 12, .inl f_this_numbers)), (a_this_refusals, .inl (cA, 7, .inl f_this_refusals))] sz)) (va_Qi (fun (r : Int32) (_ : Unit) => r = q.1) (fun _ t => rf_Post D (va_A [(a_this, .inr (2, rf_o2 a_this_now a_this_then a_this_trial a_this_search a_this_letters a_this_numbers a_this_thickest a_this_refusals g_this)), (a_this_numbers, .inl (cA, 12, .inl f_this_numbers)), (a_this_refusals, .inl (cA, 7, .inl f_this_refusals))] sz) [(a_this, .inr (2, rf_o2 a_this_now a_this_then a_this_trial a_this_search a_this_letters a_this_numbers a_this_thickest a_this_refusals q.2.1)), (a_this_numbers, .inl (cA, 12, .inl q.2.2.1)), (a_this_refusals, .inl (cA, 7, .inl q.2.2.2))] t) (va_A [(a_this, .inr (2, rf_o2 a_this_now a_this_then a_this_trial a_this_search a_this_letters a_this_numbers a_this_thickest a_this_refusals g_this)), (a_this_numbers, .inl (cA, 12, .inl f_this_numbers)), (a_this_refusals, .inl (cA, 7, .inl f_this_refusals))] sz)) 0 0 (va_A [(a_this, .inr (2, rf_o2 a_this_now a_this_then a_this_trial a_this_search a_this_letters a_this_numbers a_this_thickest a_this_refusals g_this)), (a_this_numbers, .inl (cA, 12, .inl f_this_numbers)), (a_this_refusals, .inl (cA, 7, .inl f_this_refusals))] sz) := by
  refine Met.ofW (cc := cX2_row) (maxL := 2) (ret := (some .int)) (by decide) rfl ?_
  intro p e s m args below meth c s₁ B hml hv
  obtain ⟨rfl, hsz, hP, hK, hD0, hE⟩ := hv
  have hx := B.exec
  have hb := B.bytes
  have hr := B.returns
  have hts := atoms_spec (ws := wsX2_row) B.pre
  have hown : s.vm.findClass RX2 = some m.cls := findClass_of_methodNamed B.named
  have hlocks := B.notSynchronized
  subst hsz
  have hD := hD0.self (sz := s.heap.size)
  generalize hAe : va_A [(a_this, .inr (2, rf_o2 a_this_now a_this_then a_this_trial a_this_search a_this_letters a_this_numbers a_this_thickest a_this_refusals g_this)), (a_this_numbers, .inl (cA, 12, .inl f_this_numbers)), (a_this_refusals, .inl (cA, 7, .inl f_this_refusals))] s.heap.size = A at hD hE ⊢
  have hA : ∀ q : Nat, s.heap.size ≤ q → A q := fun q h => by rw [← hAe]; exact Or.inr h
  have hS : va_S A s.heap s.heap [] := va_S.rf
  have hP : va_P D vwCl [(a_this, .inr (2, rf_o2 a_this_now a_this_then a_this_trial a_this_search a_this_letters a_this_numbers a_this_thickest a_this_refusals g_this)), (a_this_numbers, .inl (cA, 12, .inl f_this_numbers)), (a_this_refusals, .inl (cA, 7, .inl f_this_refusals))] s.heap := hP
  have hl := lv_entry ([.ref a_this, .int p1]) (n := 2) (Nat.le_of_ble_eq_true rfl)
  rw [lg_entry_eq]
  generalize (lg_sl ([.ref a_this, .int p1]) ++ List.replicate (2 - (lg_sl ([.ref a_this, .int p1])).length) Slot.unset).toArray = ls at hl ⊢
  have hl : lv_has ls 2 [(0, .ref a_this), (1, .int p1)] := hl
  rw [f_X2_row] at hf
  refine lv_iload_n hx hb dX2_row_0 rfl (lv_at hl 1 rfl) ?_
  refine lv_if_ge (tgt := 11) hx hb dX2_row_1 (by decide) (fun c1 => ?_) (fun c1 => ?_)
  · have hf := rf_ifp hf c1
    refine lv_iload_n hx hb dX2_row_11 rfl (lv_at hl 1 rfl) ?_
    refine lv_bipush (v := 9) hx hb dX2_row_12 (by decide) ?_
    refine lv_icmp_gt (tgt := 26) hx hb dX2_row_14 (by decide) (fun c2 => ?_) (fun c2 => ?_)
    · have hf := rf_ifp hf c2
      refine lv_aload_n hx hb dX2_row_26 rfl (lv_at hl 0 rfl) ?_
      refine lv_bipush (v := (-6)) hx hb dX2_row_27 (by decide) ?_
      obtain ⟨q3, hq3, hf⟩ := rf_bindq hf
      refine rf_Vi (As := [.int (-6)]) (rest := []) (wr := [(a_this_numbers, .inl (cA, 12, .inl f_this_numbers))]) (wn := [(a_this, .inr (2, rf_o2 a_this_now a_this_then a_this_trial a_this_search a_this_letters a_this_numbers a_this_thickest a_this_refusals g_this)), (a_this_numbers, .inl (cA, 12, .inl f_this_numbers)), (a_this_refusals, .inl (cA, 7, .inl q3.2))]) ⟨hx, hb, hml, hown, hts⟩ hK hP hD hS hA hE (c_X2_refuse l D cA ad a_this a_this_now a_this_then a_this_trial a_this_search a_this_letters a_this_numbers a_this_thickest a_this_refusals s.heap.size g_this f_this_refusals (-6) q3 hq3) (cwV 1 hts gX2_row_X2_refuse rfl rfl rfl hv_X2_refuse ⟨Nat.le_of_ble_eq_true rfl, Nat.le_of_ble_eq_true rfl⟩) [0, 2] [1] [1, 0, 2] rfl rfl rfl rfl (by decide) rfl rfl 2 0 rfl rfl rfl rfl rfl hl.1 (Nat.le_of_ble_eq_true rfl) dX2_row_29 ⟨Nat.zero_le _, Nat.zero_le _⟩ (fun H locs hP hD hS => ?_)
      obtain rfl := Option.some.inj hf
      exact W.iret (v := q3.1) hx hb hr (fun t ht hW => ⟨⟨q3.1, (), rfl, rfl, rf_mk ht hP hD⟩, hS.F ht⟩) hS.2.2 dX2_row_32
    · have hf := rf_ifn hf c2
      refine lv_aload_n hx hb dX2_row_17 rfl (lv_at hl 0 rfl) ?_
      refine va_get (D := D) (ci := 2) (v := .int (g_this 1)) (C := RX2) (T := TX2) (N := 12) hx hb hts jX2_row_X2 hown hK hP 0 rfl rfl 9 (by decide) (hts _ kX2_row_0) (fun _ h9 => h9) rfl dX2_row_18 ?_
      refine lv_bipush (v := 12) hx hb dX2_row_21 (by decide) ?_
      refine lv_icmp_lt (tgt := 33) hx hb dX2_row_23 (by decide) (fun c4 => ?_) (fun c4 => ?_)
      · have hf := rf_ifp hf c4
        refine lv_aload_n hx hb dX2_row_33 rfl (lv_at hl 0 rfl) ?_
        refine va_get (D := D) (ci := 2) (v := .ref a_this_numbers) (C := RX2) (T := TX2) (N := 12) hx hb hts jX2_row_X2 hown hK hP 0 rfl rfl 5 (by decide) (hts _ kX2_row_1) (fun _ h9 => h9) rfl dX2_row_34 ?_
        refine lv_aload_n hx hb dX2_row_37 rfl (lv_at hl 0 rfl) ?_
        refine va_get (D := D) (ci := 2) (v := .int (g_this 1)) (C := RX2) (T := TX2) (N := 12) hx hb hts jX2_row_X2 hown hK hP 0 rfl rfl 9 (by decide) (hts _ kX2_row_0) (fun _ h9 => h9) rfl dX2_row_38 ?_
        refine lv_iload_n hx hb dX2_row_41 rfl (lv_at hl 1 rfl) ?_
        obtain ⟨q5, hq5, hf⟩ := rf_bindq hf
        refine rf_Sv (As := [.ref a_this_numbers, .int (g_this 1), .int p1]) (rest := []) (wr := [(a_this, .inr (2, rf_o2 a_this_now a_this_then a_this_trial a_this_search a_this_letters a_this_numbers a_this_thickest a_this_refusals g_this)), (a_this_refusals, .inl (cA, 7, .inl f_this_refusals))]) (wn := [(a_this, .inr (2, rf_o2 a_this_now a_this_then a_this_trial a_this_search a_this_letters a_this_numbers a_this_thickest a_this_refusals g_this)), (a_this_numbers, .inl (cA, 12, .inl q5)), (a_this_refusals, .inl (cA, 7, .inl f_this_refusals))]) ⟨hx, hb, hml, hown, hts⟩ hK hP hD hS hA hE (c_X2_put l D cA ad a_this_numbers s.heap.size 12 f_this_numbers (g_this 1) p1 q5 hq5) (va_cwS 3 hts gX2_row_X2_put rfl rfl rfl hs_X2_put ⟨Nat.le_of_ble_eq_true rfl, Nat.le_of_ble_eq_true rfl⟩) [1] [0, 2] [0, 2, 1] rfl rfl rfl rfl (by decide) rfl rfl rfl rfl hl.1 (Nat.le_of_ble_eq_true rfl) dX2_row_42 ⟨Nat.zero_le _, Nat.zero_le _⟩ (fun H locs hP hD hS => ?_)
        refine lv_aload_n hx hb dX2_row_45 rfl (lv_at hl 0 rfl) ?_
        refine lv_dup hx hb dX2_row_46 rfl ?_
        refine va_get (D := D) (ci := 2) (v := .int (g_this 1)) (C := RX2) (T := TX2) (N := 12) hx hb hts jX2_row_X2 hown hK hP 0 rfl rfl 9 (by decide) (hts _ kX2_row_0) (fun _ h9 => h9) rfl dX2_row_47 ?_
        refine lv_iconst (v := 1) hx hb dX2_row_50 (by decide) ?_
        refine lv_iadd hx hb dX2_row_51 ?_
        refine lv_topi (fun v6 ev6 => ?_)
        have hf := rf_bindv hf ev6
        clear ev6
        refine va_put (D := D) (ci := 2) (v := .int v6) (ty := .int) (C := RX2) (T := TX2) (N := 12) hx hb hts jX2_row_X2 tyX2 tyX2_ok nmX2 hown hK hP hD hS 0 rfl rfl 9 (by decide) (hts _ kX2_row_0) (fun _ h9 => h9) rfl (by decide +kernel) rfl rfl (Nat.le_of_ble_eq_true rfl) dX2_row_52 (fun H locs hP hD hS => ?_)
        have hP : va_P D vwCl [(a_this, .inr (2, rf_o2 a_this_now a_this_then a_this_trial a_this_search a_this_letters a_this_numbers a_this_thickest a_this_refusals (upd g_this 1 v6))), (a_this_numbers, .inl (cA, 12, .inl q5)), (a_this_refusals, .inl (cA, 7, .inl f_this_refusals))] H := hP
        have hD : va_D A [(a_this, .inr (2, rf_o2 a_this_now a_this_then a_this_trial a_this_search a_this_letters a_this_numbers a_this_thickest a_this_refusals (upd g_this 1 v6))), (a_this_numbers, .inl (cA, 12, .inl q5)), (a_this_refusals, .inl (cA, 7, .inl f_this_refusals))] := hD
        refine lv_aload_n hx hb dX2_row_55 rfl (lv_at hl 0 rfl) ?_
        refine va_get (D := D) (ci := 2) (v := .int v6) (C := RX2) (T := TX2) (N := 12) hx hb hts jX2_row_X2 hown hK hP 0 rfl rfl 9 (by decide) (hts _ kX2_row_0) (fun _ h9 => h9) rfl dX2_row_56 ?_
        obtain rfl := Option.some.inj hf
        exact W.iret (v := v6) hx hb hr (fun t ht hW => ⟨⟨v6, (), rfl, rfl, rf_mk ht hP hD⟩, hS.F ht⟩) hS.2.2 dX2_row_59
      · have hf := rf_ifn hf c4
        refine lv_aload_n hx hb dX2_row_26 rfl (lv_at hl 0 rfl) ?_
        refine lv_bipush (v := (-6)) hx hb dX2_row_27 (by decide) ?_
        obtain ⟨q7, hq7, hf⟩ := rf_bindq hf
        refine rf_Vi (As := [.int (-6)]) (rest := []) (wr := [(a_this_numbers, .inl (cA, 12, .inl f_this_numbers))]) (wn := [(a_this, .inr (2, rf_o2 a_this_now a_this_then a_this_trial a_this_search a_this_letters a_this_numbers a_this_thickest a_this_refusals g_this)), (a_this_numbers, .inl (cA, 12, .inl f_this_numbers)), (a_this_refusals, .inl (cA, 7, .inl q7.2))]) ⟨hx, hb, hml, hown, hts⟩ hK hP hD hS hA hE (c_X2_refuse l D cA ad a_this a_this_now a_this_then a_this_trial a_this_search a_this_letters a_this_numbers a_this_thickest a_this_refusals s.heap.size g_this f_this_refusals (-6) q7 hq7) (cwV 1 hts gX2_row_X2_refuse rfl rfl rfl hv_X2_refuse ⟨Nat.le_of_ble_eq_true rfl, Nat.le_of_ble_eq_true rfl⟩) [0, 2] [1] [1, 0, 2] rfl rfl rfl rfl (by decide) rfl rfl 2 0 rfl rfl rfl rfl rfl hl.1 (Nat.le_of_ble_eq_true rfl) dX2_row_29 ⟨Nat.zero_le _, Nat.zero_le _⟩ (fun H locs hP hD hS => ?_)
        obtain rfl := Option.some.inj hf
        exact W.iret (v := q7.1) hx hb hr (fun t ht hW => ⟨⟨q7.1, (), rfl, rfl, rf_mk ht hP hD⟩, hS.F ht⟩) hS.2.2 dX2_row_32
  · have hf := rf_ifn hf c1
    refine lv_aload_n hx hb dX2_row_4 rfl (lv_at hl 0 rfl) ?_
    refine lv_bipush (v := (-4)) hx hb dX2_row_5 (by decide) ?_
    obtain ⟨q8, hq8, hf⟩ := rf_bindq hf
    refine rf_Vi (As := [.int (-4)]) (rest := []) (wr := [(a_this_numbers, .inl (cA, 12, .inl f_this_numbers))]) (wn := [(a_this, .inr (2, rf_o2 a_this_now a_this_then a_this_trial a_this_search a_this_letters a_this_numbers a_this_thickest a_this_refusals g_this)), (a_this_numbers, .inl (cA, 12, .inl f_this_numbers)), (a_this_refusals, .inl (cA, 7, .inl q8.2))]) ⟨hx, hb, hml, hown, hts⟩ hK hP hD hS hA hE (c_X2_refuse l D cA ad a_this a_this_now a_this_then a_this_trial a_this_search a_this_letters a_this_numbers a_this_thickest a_this_refusals s.heap.size g_this f_this_refusals (-4) q8 hq8) (cwV 1 hts gX2_row_X2_refuse rfl rfl rfl hv_X2_refuse ⟨Nat.le_of_ble_eq_true rfl, Nat.le_of_ble_eq_true rfl⟩) [0, 2] [1] [1, 0, 2] rfl rfl rfl rfl (by decide) rfl rfl 2 0 rfl rfl rfl rfl rfl hl.1 (Nat.le_of_ble_eq_true rfl) dX2_row_7 ⟨Nat.zero_le _, Nat.zero_le _⟩ (fun H locs hP hD hS => ?_)
    obtain rfl := Option.some.inj hf
    exact W.iret (v := q8.1) hx hb hr (fun t ht hW => ⟨⟨q8.1, (), rfl, rfl, rf_mk ht hP hD⟩, hS.F ht⟩) hS.2.2 dX2_row_10
