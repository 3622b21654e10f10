theorem hs_X3_isIn : yX3_isIn.cls ≠ "java/lang/invoke/MethodHandle" ∧ yX3_isIn.cls ≠ "java/lang/invoke/VarHandle" ∧ (parseMethodDescriptor yX3_isIn.desc).map (fun d => d.parameters.length) = some 3 := by decide +kernel
theorem hs_X3_kindOf : yX3_kindOf.cls ≠ "java/lang/invoke/MethodHandle" ∧ yX3_kindOf.cls ≠ "java/lang/invoke/VarHandle" ∧ (parseMethodDescriptor yX3_kindOf.desc).map (fun d => d.parameters.length) = some 1 := by decide +kernel
theorem hv_X3_here : yX3_here.cls = RX3 ∧ yX3_here.cls ≠ "java/lang/invoke/MethodHandle" ∧ yX3_here.cls ≠ "java/lang/invoke/VarHandle" ∧ (parseMethodDescriptor yX3_here.desc).map (fun d => d.parameters.length) = some 0 := by decide +kernel
theorem hv_X3_readsNumber : yX3_readsNumber.cls = RX3 ∧ yX3_readsNumber.cls ≠ "java/lang/invoke/MethodHandle" ∧ yX3_readsNumber.cls ≠ "java/lang/invoke/VarHandle" ∧ (parseMethodDescriptor yX3_readsNumber.desc).map (fun d => d.parameters.length) = some 2 := by decide +kernel
theorem kX3_waits_0 : (.fieldLink RX3 9 "RingAndFingerModel" "s" "[I" : Cond) ∈ wsX3_waits := by decide +kernel
theorem jX3_waits_X3 : ∀ w ∈ u_ws RX3 TX3 16, w ∈ wsX3_waits := by decide +kernel
set_option maxHeartbeats 8000000 in
set_option maxRecDepth 100000 in
theorem c_X3_waits (l : Launch) (D : va_G) (cA : ClassId) (ad : Nat → Nat) (a_this a_this_s a_this_image a_this_read a_this_mind a_this_letters a_this_row a_this_refused a_this_numbers a_this_cost : Nat) (sz : Nat) (g_this f_this_s : Nat → Int32) (p1 : Int32) (q : (Nat → Int32)) (hf : f_X3_waits g_this f_this_s p1 = some q) : Met l yX3_waits wsX3_waits ({ frames := 1, cells := 0, slots := 0, locals := 21 } : Room) (va_Pc [.ref a_this, .int p1] (rf_Pre D cA ad [(a_this, .inr (3, rf_o3 a_this_s a_this_image a_this_read a_this_mind a_this_letters a_this_row a_this_refused a_this_numbers a_this_cost g_this)), (a_this_s, .inl (cA, 22, .inl f_this_s))] sz)) (va_Qv (fun (_ : Unit) => True) (fun _ t => rf_Post D (va_A [(a_this, .inr (3, rf_o3 a_this_s a_this_image a_this_read a_this_mind a_this_letters a_this_row a_this_refused a_this_numbers a_this_cost g_this)), (a_this_s, .inl (cA, 22, .inl f_this_s))] sz) [(a_this, .inr (3, rf_o3 a_this_s a_this_image a_this_read a_this_mind a_this_letters a_this_row a_this_refused a_this_numbers a_this_cost g_this)), (a_this_s, .inl (cA, 22, .inl q))] t) (va_A [(a_this, .inr (3, rf_o3 a_this_s a_this_image a_this_read a_this_mind a_this_letters a_this_row a_this_refused a_this_numbers a_this_cost g_this)), (a_this_s, .inl (cA, 22, .inl f_this_s))] sz)) 0 0 (va_A [(a_this, .inr (3, rf_o3 a_this_s a_this_image a_this_read a_this_mind a_this_letters a_this_row a_this_refused a_this_numbers a_this_cost g_this)), (a_this_s, .inl (cA, 22, .inl f_this_s))] sz) := by
  refine Met.ofW (cc := cX3_waits) (maxL := 2) (ret := none) (by decide) rfl ?_
  intro p e s m args below meth c s₁ B hml hv
  obtain ⟨rfl, hsz, hP, hK, hD0, hE⟩ := hv
  have hx := B.exec
  have hb := B.bytes
  have hr := B.returns
  have hts := atoms_spec (ws := wsX3_waits) B.pre
  have hown : s.vm.findClass RX3 = some m.cls := findClass_of_methodNamed B.named
  have hlocks := B.notSynchronized
  subst hsz
  have hD := hD0.self (sz := s.heap.size)
  generalize hAe : va_A [(a_this, .inr (3, rf_o3 a_this_s a_this_image a_this_read a_this_mind a_this_letters a_this_row a_this_refused a_this_numbers a_this_cost g_this)), (a_this_s, .inl (cA, 22, .inl f_this_s))] s.heap.size = A at hD hE ⊢
  have hA : ∀ q : Nat, s.heap.size ≤ q → A q := fun q h => by rw [← hAe]; exact Or.inr h
  have hS : va_S A s.heap s.heap [] := va_S.rf
  have hP : va_P D vwCl [(a_this, .inr (3, rf_o3 a_this_s a_this_image a_this_read a_this_mind a_this_letters a_this_row a_this_refused a_this_numbers a_this_cost g_this)), (a_this_s, .inl (cA, 22, .inl f_this_s))] s.heap := hP
  have hl := lv_entry ([.ref a_this, .int p1]) (n := 2) (Nat.le_of_ble_eq_true rfl)
  rw [lg_entry_eq]
  generalize (lg_sl ([.ref a_this, .int p1]) ++ List.replicate (2 - (lg_sl ([.ref a_this, .int p1])).length) Slot.unset).toArray = ls at hl ⊢
  have hl : lv_has ls 2 [(0, .ref a_this), (1, .int p1)] := hl
  rw [f_X3_waits] at hf
  refine lv_aload_n hx hb dX3_waits_0 rfl (lv_at hl 0 rfl) ?_
  refine va_get (D := D) (ci := 3) (v := .ref a_this_s) (C := RX3) (T := TX3) (N := 16) hx hb hts jX3_waits_X3 hown hK hP 0 rfl rfl 0 (by decide) (hts _ kX3_waits_0) (fun _ h9 => h9) rfl dX3_waits_1 ?_
  refine lv_iconst (v := 4) hx hb dX3_waits_4 (by decide) ?_
  refine lv_iconst (v := 0) hx hb dX3_waits_5 (by decide) ?_
  refine lv_aload_n hx hb dX3_waits_6 rfl (lv_at hl 0 rfl) ?_
  refine va_get (D := D) (ci := 3) (v := .ref a_this_s) (C := RX3) (T := TX3) (N := 16) hx hb hts jX3_waits_X3 hown hK hP 0 rfl rfl 0 (by decide) (hts _ kX3_waits_0) (fun _ h9 => h9) rfl dX3_waits_7 ?_
  refine lv_iconst (v := 4) hx hb dX3_waits_10 (by decide) ?_
  refine rf_ialoadk hx hb hK hP 1 0 rfl rfl (k := 4) (by decide) (by decide) (by decide) dX3_waits_11 ?_
  refine lv_iload_n hx hb dX3_waits_12 rfl (lv_at hl 1 rfl) ?_
  refine lv_iconst (v := 2) hx hb dX3_waits_13 (by decide) ?_
  refine lv_idiv hx hb dX3_waits_14 (by decide) ?_
  refine lv_isub hx hb dX3_waits_15 ?_
  obtain ⟨q1, hq1, hf⟩ := rf_bindq hf
  refine rf_Si (As := [.int 0, .int ((f_this_s 4) - (p1 / 2))]) (rest := [.int 4, .ref a_this_s]) (wr := [(a_this, .inr (3, rf_o3 a_this_s a_this_image a_this_read a_this_mind a_this_letters a_this_row a_this_refused a_this_numbers a_this_cost g_this)), (a_this_s, .inl (cA, 22, .inl f_this_s))]) (wn := [(a_this, .inr (3, rf_o3 a_this_s a_this_image a_this_read a_this_mind a_this_letters a_this_row a_this_refused a_this_numbers a_this_cost g_this)), (a_this_s, .inl (cA, 22, .inl f_this_s))]) ⟨hx, hb, hml, hown, hts⟩ hK hP hD hS hA hE (c_X3_most l D cA ad s.heap.size 0 ((f_this_s 4) - (p1 / 2)) q1 hq1) (va_cwS 2 hts gX3_waits_X3_most rfl rfl rfl hs_X3_most ⟨Nat.le_of_ble_eq_true rfl, Nat.le_of_ble_eq_true rfl⟩) [] [0, 1] [0, 1] rfl rfl rfl rfl (by decide) rfl rfl rfl rfl hl.1 (Nat.le_of_ble_eq_true rfl) dX3_waits_16 ⟨Nat.zero_le _, Nat.zero_le _⟩ (fun H locs hP hD hS => ?_)
  refine rf_iastorek hx hb hK hP hD hS 1 0 rfl rfl (k := 4) (by decide) (by decide) (by decide) dX3_waits_19 (fun H locs hP hD hS => ?_)
  have hP : va_P D vwCl [(a_this, .inr (3, rf_o3 a_this_s a_this_image a_this_read a_this_mind a_this_letters a_this_row a_this_refused a_this_numbers a_this_cost g_this)), (a_this_s, .inl (cA, 22, .inl (upd f_this_s 4 q1)))] H := hP
  have hD : va_D A [(a_this, .inr (3, rf_o3 a_this_s a_this_image a_this_read a_this_mind a_this_letters a_this_row a_this_refused a_this_numbers a_this_cost g_this)), (a_this_s, .inl (cA, 22, .inl (upd f_this_s 4 q1)))] := hD
  refine lv_aload_n hx hb dX3_waits_20 rfl (lv_at hl 0 rfl) ?_
  refine va_get (D := D) (ci := 3) (v := .ref a_this_s) (C := RX3) (T := TX3) (N := 16) hx hb hts jX3_waits_X3 hown hK hP 0 rfl rfl 0 (by decide) (hts _ kX3_waits_0) (fun _ h9 => h9) rfl dX3_waits_21 ?_
  refine lv_iconst (v := 5) hx hb dX3_waits_24 (by decide) ?_
  refine lv_iconst (v := 0) hx hb dX3_waits_25 (by decide) ?_
  refine lv_aload_n hx hb dX3_waits_26 rfl (lv_at hl 0 rfl) ?_
  refine va_get (D := D) (ci := 3) (v := .ref a_this_s) (C := RX3) (T := TX3) (N := 16) hx hb hts jX3_waits_X3 hown hK hP 0 rfl rfl 0 (by decide) (hts _ kX3_waits_0) (fun _ h9 => h9) rfl dX3_waits_27 ?_
  refine lv_iconst (v := 5) hx hb dX3_waits_30 (by decide) ?_
  refine rf_ialoadk hx hb hK hP 1 0 rfl rfl (k := 5) (by decide) (by decide) (by decide) dX3_waits_31 ?_
  refine lv_iload_n hx hb dX3_waits_32 rfl (lv_at hl 1 rfl) ?_
  refine lv_iconst (v := 3) hx hb dX3_waits_33 (by decide) ?_
  refine lv_idiv hx hb dX3_waits_34 (by decide) ?_
  refine lv_isub hx hb dX3_waits_35 ?_
  obtain ⟨q2, hq2, hf⟩ := rf_bindq hf
  refine rf_Si (As := [.int 0, .int ((f_this_s 5) - (p1 / 3))]) (rest := [.int 5, .ref a_this_s]) (wr := [(a_this, .inr (3, rf_o3 a_this_s a_this_image a_this_read a_this_mind a_this_letters a_this_row a_this_refused a_this_numbers a_this_cost g_this)), (a_this_s, .inl (cA, 22, .inl (upd f_this_s 4 q1)))]) (wn := [(a_this, .inr (3, rf_o3 a_this_s a_this_image a_this_read a_this_mind a_this_letters a_this_row a_this_refused a_this_numbers a_this_cost g_this)), (a_this_s, .inl (cA, 22, .inl (upd f_this_s 4 q1)))]) ⟨hx, hb, hml, hown, hts⟩ hK hP hD hS hA hE (c_X3_most l D cA ad H.size 0 ((f_this_s 5) - (p1 / 3)) q2 hq2) (va_cwS 2 hts gX3_waits_X3_most rfl rfl rfl hs_X3_most ⟨Nat.le_of_ble_eq_true rfl, Nat.le_of_ble_eq_true rfl⟩) [] [0, 1] [0, 1] rfl rfl rfl rfl (by decide) rfl rfl rfl rfl hl.1 (Nat.le_of_ble_eq_true rfl) dX3_waits_36 ⟨Nat.zero_le _, Nat.zero_le _⟩ (fun H locs hP hD hS => ?_)
  refine rf_iastorek hx hb hK hP hD hS 1 0 rfl rfl (k := 5) (by decide) (by decide) (by decide) dX3_waits_39 (fun H locs hP hD hS => ?_)
  have hP : va_P D vwCl [(a_this, .inr (3, rf_o3 a_this_s a_this_image a_this_read a_this_mind a_this_letters a_this_row a_this_refused a_this_numbers a_this_cost g_this)), (a_this_s, .inl (cA, 22, .inl (upd (upd f_this_s 4 q1) 5 q2)))] H := hP
  have hD : va_D A [(a_this, .inr (3, rf_o3 a_this_s a_this_image a_this_read a_this_mind a_this_letters a_this_row a_this_refused a_this_numbers a_this_cost g_this)), (a_this_s, .inl (cA, 22, .inl (upd (upd f_this_s 4 q1) 5 q2)))] := hD
  refine lv_aload_n hx hb dX3_waits_40 rfl (lv_at hl 0 rfl) ?_
  refine va_get (D := D) (ci := 3) (v := .ref a_this_s) (C := RX3) (T := TX3) (N := 16) hx hb hts jX3_waits_X3 hown hK hP 0 rfl rfl 0 (by decide) (hts _ kX3_waits_0) (fun _ h9 => h9) rfl dX3_waits_41 ?_
  refine lv_bipush (v := 6) hx hb dX3_waits_44 (by decide) ?_
  refine lv_iconst (v := 0) hx hb dX3_waits_46 (by decide) ?_
  refine lv_aload_n hx hb dX3_waits_47 rfl (lv_at hl 0 rfl) ?_
  refine va_get (D := D) (ci := 3) (v := .ref a_this_s) (C := RX3) (T := TX3) (N := 16) hx hb hts jX3_waits_X3 hown hK hP 0 rfl rfl 0 (by decide) (hts _ kX3_waits_0) (fun _ h9 => h9) rfl dX3_waits_48 ?_
  refine lv_bipush (v := 6) hx hb dX3_waits_51 (by decide) ?_
  refine rf_ialoadk hx hb hK hP 1 0 rfl rfl (k := 6) (by decide) (by decide) (by decide) dX3_waits_53 ?_
  refine lv_iload_n hx hb dX3_waits_54 rfl (lv_at hl 1 rfl) ?_
  refine lv_isub hx hb dX3_waits_55 ?_
  obtain ⟨q3, hq3, hf⟩ := rf_bindq hf
  refine rf_Si (As := [.int 0, .int ((f_this_s 6) - p1)]) (rest := [.int 6, .ref a_this_s]) (wr := [(a_this, .inr (3, rf_o3 a_this_s a_this_image a_this_read a_this_mind a_this_letters a_this_row a_this_refused a_this_numbers a_this_cost g_this)), (a_this_s, .inl (cA, 22, .inl (upd (upd f_this_s 4 q1) 5 q2)))]) (wn := [(a_this, .inr (3, rf_o3 a_this_s a_this_image a_this_read a_this_mind a_this_letters a_this_row a_this_refused a_this_numbers a_this_cost g_this)), (a_this_s, .inl (cA, 22, .inl (upd (upd f_this_s 4 q1) 5 q2)))]) ⟨hx, hb, hml, hown, hts⟩ hK hP hD hS hA hE (c_X3_most l D cA ad H.size 0 ((f_this_s 6) - p1) q3 hq3) (va_cwS 2 hts gX3_waits_X3_most rfl rfl rfl hs_X3_most ⟨Nat.le_of_ble_eq_true rfl, Nat.le_of_ble_eq_true rfl⟩) [] [0, 1] [0, 1] rfl rfl rfl rfl (by decide) rfl rfl rfl rfl hl.1 (Nat.le_of_ble_eq_true rfl) dX3_waits_56 ⟨Nat.zero_le _, Nat.zero_le _⟩ (fun H locs hP hD hS => ?_)
  refine rf_iastorek hx hb hK hP hD hS 1 0 rfl rfl (k := 6) (by decide) (by decide) (by decide) dX3_waits_59 (fun H locs hP hD hS => ?_)
  have hP : va_P D vwCl [(a_this, .inr (3, rf_o3 a_this_s a_this_image a_this_read a_this_mind a_this_letters a_this_row a_this_refused a_this_numbers a_this_cost g_this)), (a_this_s, .inl (cA, 22, .inl (upd (upd (upd f_this_s 4 q1) 5 q2) 6 q3)))] H := hP
  have hD : va_D A [(a_this, .inr (3, rf_o3 a_this_s a_this_image a_this_read a_this_mind a_this_letters a_this_row a_this_refused a_this_numbers a_this_cost g_this)), (a_this_s, .inl (cA, 22, .inl (upd (upd (upd f_this_s 4 q1) 5 q2) 6 q3)))] := hD
  refine lv_aload_n hx hb dX3_waits_60 rfl (lv_at hl 0 rfl) ?_
  refine va_get (D := D) (ci := 3) (v := .ref a_this_s) (C := RX3) (T := TX3) (N := 16) hx hb hts jX3_waits_X3 hown hK hP 0 rfl rfl 0 (by decide) (hts _ kX3_waits_0) (fun _ h9 => h9) rfl dX3_waits_61 ?_
  refine lv_bipush (v := 8) hx hb dX3_waits_64 (by decide) ?_
  refine lv_dup2_11 hx hb dX3_waits_66 rfl rfl ?_
  refine rf_ialoadk hx hb hK hP 1 0 rfl rfl (k := 8) (by decide) (by decide) (by decide) dX3_waits_67 ?_
  refine lv_iload_n hx hb dX3_waits_68 rfl (lv_at hl 1 rfl) ?_
  refine lv_iadd hx hb dX3_waits_69 ?_
  refine lv_topi (fun v4 ev4 => ?_)
  have hf := rf_bindv hf ev4
  clear ev4
  refine rf_iastorek hx hb hK hP hD hS 1 0 rfl rfl (k := 8) (by decide) (by decide) (by decide) dX3_waits_70 (fun H locs hP hD hS => ?_)
  have hP : va_P D vwCl [(a_this, .inr (3, rf_o3 a_this_s a_this_image a_this_read a_this_mind a_this_letters a_this_row a_this_refused a_this_numbers a_this_cost g_this)), (a_this_s, .inl (cA, 22, .inl (upd (upd (upd (upd f_this_s 4 q1) 5 q2) 6 q3) 8 v4)))] H := hP
  have hD : va_D A [(a_this, .inr (3, rf_o3 a_this_s a_this_image a_this_read a_this_mind a_this_letters a_this_row a_this_refused a_this_numbers a_this_cost g_this)), (a_this_s, .inl (cA, 22, .inl (upd (upd (upd (upd f_this_s 4 q1) 5 q2) 6 q3) 8 v4)))] := hD
  obtain rfl := Option.some.inj hf
  exact W.vret hx hb hr (fun t ht hW => ⟨⟨(), rfl, trivial, rf_mk ht hP hD⟩, hS.F ht⟩) hS.2.2 dX3_waits_71
theorem kX3_letter_0 : (.fieldLink RX3 88 "RingAndFingerModel" "letterMany" "I" : Cond) ∈ wsX3_letter := by decide +kernel
theorem kX3_letter_1 : (.fieldLink RX3 22 "RingAndFingerModel" "letters" "[I" : Cond) ∈ wsX3_letter := by decide +kernel
theorem jX3_letter_X3 : ∀ w ∈ u_ws RX3 TX3 16, w ∈ wsX3_letter := by decide +kernel
set_option maxHeartbeats 8000000 in
set_option maxRecDepth 100000 in
theorem c_X3_letter (l : Launch) (D : va_G) (cA : ClassId) (ad : Nat → Nat) (a_this a_this_s a_this_image a_this_read a_this_mind a_this_letters a_this_row a_this_refused a_this_numbers a_this_cost : Nat) (sz : Nat) (g_this f_this_letters f_this_refused : Nat → Int32) (p1 : Int32) (q : Int32 × (Nat → Int32) × (Nat → Int32) × (Nat → Int32)) (hf : f_X3_letter g_this f_this_letters f_this_refused p1 = some q) : Met l yX3_letter wsX3_letter ({ frames := 1, cells := 0, slots := 0, locals := 21 } : Room) (va_Pc [.ref a_this, .int p1] (rf_Pre D cA ad [(a_this, .inr (3, rf_o3 a_this_s a_this_image a_this_read a_this_mind a_this_letters a_this_row a_this_refused a_this_numbers a_this_cost g_this)), (a_this_letters, .inl (cA, 96, .inl f_this_letters)), (a_this_refused, .inl (cA, 7, .inl f_this_refused))] sz)) (va_Qi (fun (r : Int32) (_ : Unit) => r = q.1) (fun _ t => rf_Post D (va_A [(a_this, .inr (3, rf_o3 a_this_s a_this_image a_this_read a_this_mind a_this_letters a_this_row a_this_refused a_this_numbers a_this_cost g_this)), (a_this_letters, .inl (cA, 96, .inl f_this_letters)), (a_this_refused, .inl (cA, 7, .inl f_this_refused))] sz) [(a_this, .inr (3, rf_o3 a_this_s a_this_image a_this_read a_this_mind a_this_letters a_this_row a_this_refused a_this_numbers a_this_cost q.2.1)), (a_this_letters, .inl (cA, 96, .inl q.2.2.1)), (a_this_refused, .inl (cA, 7, .inl q.2.2.2))] t) (va_A [(a_this, .inr (3, rf_o3 a_this_s a_this_image a_this_read a_this_mind a_this_letters a_this_row a_this_refused a_this_numbers a_this_cost g_this)), (a_this_letters, .inl (cA, 96, .inl f_this_letters)), (a_this_refused, .inl (cA, 7, .inl f_this_refused))] sz)) 0 0 (va_A [(a_this, .inr (3, rf_o3 a_this_s a_this_image a_this_read a_this_mind a_this_letters a_this_row a_this_refused a_this_numbers a_this_cost g_this)), (a_this_letters, .inl (cA, 96, .inl f_this_letters)), (a_this_refused, .inl (cA, 7, .inl f_this_refused))] sz) := by
  refine Met.ofW (cc := cX3_letter) (maxL := 2) (ret := (some .int)) (by decide) rfl ?_
  intro p e s m args below meth c s₁ B hml hv
  obtain ⟨rfl, hsz, hP, hK, hD0, hE⟩ := hv
  have hx := B.exec
  have hb := B.bytes
  have hr := B.returns
  have hts := atoms_spec (ws := wsX3_letter) B.pre
  have hown : s.vm.findClass RX3 = some m.cls := findClass_of_methodNamed B.named
  have hlocks := B.notSynchronized
  subst hsz
  have hD := hD0.self (sz := s.heap.size)
  generalize hAe : va_A [(a_this, .inr (3, rf_o3 a_this_s a_this_image a_this_read a_this_mind a_this_letters a_this_row a_this_refused a_this_numbers a_this_cost g_this)), (a_this_letters, .inl (cA, 96, .inl f_this_letters)), (a_this_refused, .inl (cA, 7, .inl f_this_refused))] s.heap.size = A at hD hE ⊢
  have hA : ∀ q : Nat, s.heap.size ≤ q → A q := fun q h => by rw [← hAe]; exact Or.inr h
  have hS : va_S A s.heap s.heap [] := va_S.rf
  have hP : va_P D vwCl [(a_this, .inr (3, rf_o3 a_this_s a_this_image a_this_read a_this_mind a_this_letters a_this_row a_this_refused a_this_numbers a_this_cost g_this)), (a_this_letters, .inl (cA, 96, .inl f_this_letters)), (a_this_refused, .inl (cA, 7, .inl f_this_refused))] s.heap := hP
  have hl := lv_entry ([.ref a_this, .int p1]) (n := 2) (Nat.le_of_ble_eq_true rfl)
  rw [lg_entry_eq]
  generalize (lg_sl ([.ref a_this, .int p1]) ++ List.replicate (2 - (lg_sl ([.ref a_this, .int p1])).length) Slot.unset).toArray = ls at hl ⊢
  have hl : lv_has ls 2 [(0, .ref a_this), (1, .int p1)] := hl
  rw [f_X3_letter] at hf
  refine lv_iload_n hx hb dX3_letter_0 rfl (lv_at hl 1 rfl) ?_
  refine lv_if_ge (tgt := 11) hx hb dX3_letter_1 (by decide) (fun c1 => ?_) (fun c1 => ?_)
  · have hf := rf_ifp hf c1
    refine lv_iload_n hx hb dX3_letter_11 rfl (lv_at hl 1 rfl) ?_
    refine lv_sipush (v := 255) hx hb dX3_letter_12 (by decide) ?_
    refine lv_icmp_gt (tgt := 27) hx hb dX3_letter_15 (by decide) (fun c2 => ?_) (fun c2 => ?_)
    · have hf := rf_ifp hf c2
      refine lv_aload_n hx hb dX3_letter_27 rfl (lv_at hl 0 rfl) ?_
      refine lv_bipush (v := (-6)) hx hb dX3_letter_28 (by decide) ?_
      obtain ⟨q3, hq3, hf⟩ := rf_bindq hf
      refine rf_Vi (As := [.int (-6)]) (rest := []) (wr := [(a_this_letters, .inl (cA, 96, .inl f_this_letters))]) (wn := [(a_this, .inr (3, rf_o3 a_this_s a_this_image a_this_read a_this_mind a_this_letters a_this_row a_this_refused a_this_numbers a_this_cost g_this)), (a_this_letters, .inl (cA, 96, .inl f_this_letters)), (a_this_refused, .inl (cA, 7, .inl q3.2))]) ⟨hx, hb, hml, hown, hts⟩ hK hP hD hS hA hE (c_X3_no l D cA ad a_this a_this_s a_this_image a_this_read a_this_mind a_this_letters a_this_row a_this_refused a_this_numbers a_this_cost s.heap.size g_this f_this_refused (-6) q3 hq3) (cwV 1 hts gX3_letter_X3_no rfl rfl rfl hv_X3_no ⟨Nat.le_of_ble_eq_true rfl, Nat.le_of_ble_eq_true rfl⟩) [0, 2] [1] [1, 0, 2] rfl rfl rfl rfl (by decide) rfl rfl 3 0 rfl rfl rfl rfl rfl hl.1 (Nat.le_of_ble_eq_true rfl) dX3_letter_30 ⟨Nat.zero_le _, Nat.zero_le _⟩ (fun H locs hP hD hS => ?_)
      obtain rfl := Option.some.inj hf
      exact W.iret (v := q3.1) hx hb hr (fun t ht hW => ⟨⟨q3.1, (), rfl, rfl, rf_mk ht hP hD⟩, hS.F ht⟩) hS.2.2 dX3_letter_33
    · have hf := rf_ifn hf c2
      refine lv_aload_n hx hb dX3_letter_18 rfl (lv_at hl 0 rfl) ?_
      refine va_get (D := D) (ci := 3) (v := .int (g_this 1)) (C := RX3) (T := TX3) (N := 16) hx hb hts jX3_letter_X3 hown hK hP 0 rfl rfl 8 (by decide) (hts _ kX3_letter_0) (fun _ h9 => h9) rfl dX3_letter_19 ?_
      refine lv_bipush (v := 96) hx hb dX3_letter_22 (by decide) ?_
      refine lv_icmp_ne (tgt := 34) hx hb dX3_letter_24 (by decide) (fun c4 => ?_) (fun c4 => ?_)
      · have hf := rf_ifn hf c4
        refine lv_aload_n hx hb dX3_letter_34 rfl (lv_at hl 0 rfl) ?_
        refine va_get (D := D) (ci := 3) (v := .ref a_this_letters) (C := RX3) (T := TX3) (N := 16) hx hb hts jX3_letter_X3 hown hK hP 0 rfl rfl 5 (by decide) (hts _ kX3_letter_1) (fun _ h9 => h9) rfl dX3_letter_35 ?_
        refine lv_aload_n hx hb dX3_letter_38 rfl (lv_at hl 0 rfl) ?_
        refine va_get (D := D) (ci := 3) (v := .int (g_this 1)) (C := RX3) (T := TX3) (N := 16) hx hb hts jX3_letter_X3 hown hK hP 0 rfl rfl 8 (by decide) (hts _ kX3_letter_0) (fun _ h9 => h9) rfl dX3_letter_39 ?_
        refine lv_iload_n hx hb dX3_letter_42 rfl (lv_at hl 1 rfl) ?_
        obtain ⟨c5, hf⟩ := rf_chk hf
        refine va_iast hx hb hK hP hD hS 1 0 rfl rfl c5 dX3_letter_43 (fun H locs hP hD hS => ?_)
        have hP : va_P D vwCl [(a_this, .inr (3, rf_o3 a_this_s a_this_image a_this_read a_this_mind a_this_letters a_this_row a_this_refused a_this_numbers a_this_cost g_this)), (a_this_letters, .inl (cA, 96, .inl (upd f_this_letters ((g_this 1).toNatClampNeg) p1))), (a_this_refused, .inl (cA, 7, .inl f_this_refused))] H := hP
        have hD : va_D A [(a_this, .inr (3, rf_o3 a_this_s a_this_image a_this_read a_this_mind a_this_letters a_this_row a_this_refused a_this_numbers a_this_cost g_this)), (a_this_letters, .inl (cA, 96, .inl (upd f_this_letters ((g_this 1).toNatClampNeg) p1))), (a_this_refused, .inl (cA, 7, .inl f_this_refused))] := hD
        refine lv_aload_n hx hb dX3_letter_44 rfl (lv_at hl 0 rfl) ?_
        refine lv_dup hx hb dX3_letter_45 rfl ?_
        refine va_get (D := D) (ci := 3) (v := .int (g_this 1)) (C := RX3) (T := TX3) (N := 16) hx hb hts jX3_letter_X3 hown hK hP 0 rfl rfl 8 (by decide) (hts _ kX3_letter_0) (fun _ h9 => h9) rfl dX3_letter_46 ?_
        refine lv_iconst (v := 1) hx hb dX3_letter_49 (by decide) ?_
        refine lv_iadd hx hb dX3_letter_50 ?_
        refine lv_topi (fun v6 ev6 => ?_)
        have hf := rf_bindv hf ev6
        clear ev6
        refine va_put (D := D) (ci := 3) (v := .int v6) (ty := .int) (C := RX3) (T := TX3) (N := 16) hx hb hts jX3_letter_X3 tyX3 tyX3_ok nmX3 hown hK hP hD hS 0 rfl rfl 8 (by decide) (hts _ kX3_letter_0) (fun _ h9 => h9) rfl (by decide +kernel) rfl rfl (Nat.le_of_ble_eq_true rfl) dX3_letter_51 (fun H locs hP hD hS => ?_)
        have hP : va_P D vwCl [(a_this, .inr (3, rf_o3 a_this_s a_this_image a_this_read a_this_mind a_this_letters a_this_row a_this_refused a_this_numbers a_this_cost (upd g_this 1 v6))), (a_this_letters, .inl (cA, 96, .inl (upd f_this_letters ((g_this 1).toNatClampNeg) p1))), (a_this_refused, .inl (cA, 7, .inl f_this_refused))] H := hP
        have hD : va_D A [(a_this, .inr (3, rf_o3 a_this_s a_this_image a_this_read a_this_mind a_this_letters a_this_row a_this_refused a_this_numbers a_this_cost (upd g_this 1 v6))), (a_this_letters, .inl (cA, 96, .inl (upd f_this_letters ((g_this 1).toNatClampNeg) p1))), (a_this_refused, .inl (cA, 7, .inl f_this_refused))] := hD
        refine lv_aload_n hx hb dX3_letter_54 rfl (lv_at hl 0 rfl) ?_
        refine va_get (D := D) (ci := 3) (v := .int v6) (C := RX3) (T := TX3) (N := 16) hx hb hts jX3_letter_X3 hown hK hP 0 rfl rfl 8 (by decide) (hts _ kX3_letter_0) (fun _ h9 => h9) rfl dX3_letter_55 ?_
        obtain rfl := Option.some.inj hf
        exact W.iret (v := v6) hx hb hr (fun t ht hW => ⟨⟨v6, (), rfl, rfl, rf_mk ht hP hD⟩, hS.F ht⟩) hS.2.2 dX3_letter_58
      · have hf := rf_ifp hf c4
        refine lv_aload_n hx hb dX3_letter_27 rfl (lv_at hl 0 rfl) ?_
        refine lv_bipush (v := (-6)) hx hb dX3_letter_28 (by decide) ?_
        obtain ⟨q7, hq7, hf⟩ := rf_bindq hf
        refine rf_Vi (As := [.int (-6)]) (rest := []) (wr := [(a_this_letters, .inl (cA, 96, .inl f_this_letters))]) (wn := [(a_this, .inr (3, rf_o3 a_this_s a_this_image a_this_read a_this_mind a_this_letters a_this_row a_this_refused a_this_numbers a_this_cost g_this)), (a_this_letters, .inl (cA, 96, .inl f_this_letters)), (a_this_refused, .inl (cA, 7, .inl q7.2))]) ⟨hx, hb, hml, hown, hts⟩ hK hP hD hS hA hE (c_X3_no l D cA ad a_this a_this_s a_this_image a_this_read a_this_mind a_this_letters a_this_row a_this_refused a_this_numbers a_this_cost s.heap.size g_this f_this_refused (-6) q7 hq7) (cwV 1 hts gX3_letter_X3_no rfl rfl rfl hv_X3_no ⟨Nat.le_of_ble_eq_true rfl, Nat.le_of_ble_eq_true rfl⟩) [0, 2] [1] [1, 0, 2] rfl rfl rfl rfl (by decide) rfl rfl 3 0 rfl rfl rfl rfl rfl hl.1 (Nat.le_of_ble_eq_true rfl) dX3_letter_30 ⟨Nat.zero_le _, Nat.zero_le _⟩ (fun H locs hP hD hS => ?_)
        obtain rfl := Option.some.inj hf
        exact W.iret (v := q7.1) hx hb hr (fun t ht hW => ⟨⟨q7.1, (), rfl, rfl, rf_mk ht hP hD⟩, hS.F ht⟩) hS.2.2 dX3_letter_33
  · have hf := rf_ifn hf c1
    refine lv_aload_n hx hb dX3_letter_4 rfl (lv_at hl 0 rfl) ?_
    refine lv_bipush (v := (-4)) hx hb dX3_letter_5 (by decide) ?_
    obtain ⟨q8, hq8, hf⟩ := rf_bindq hf
    refine rf_Vi (As := [.int (-4)]) (rest := []) (wr := [(a_this_letters, .inl (cA, 96, .inl f_this_letters))]) (wn := [(a_this, .inr (3, rf_o3 a_this_s a_this_image a_this_read a_this_mind a_this_letters a_this_row a_this_refused a_this_numbers a_this_cost g_this)), (a_this_letters, .inl (cA, 96, .inl f_this_letters)), (a_this_refused, .inl (cA, 7, .inl q8.2))]) ⟨hx, hb, hml, hown, hts⟩ hK hP hD hS hA hE (c_X3_no l D cA ad a_this a_this_s a_this_image a_this_read a_this_mind a_this_letters a_this_row a_this_refused a_this_numbers a_this_cost s.heap.size g_this f_this_refused (-4) q8 hq8) (cwV 1 hts gX3_letter_X3_no rfl rfl rfl hv_X3_no ⟨Nat.le_of_ble_eq_true rfl, Nat.le_of_ble_eq_true rfl⟩) [0, 2] [1] [1, 0, 2] rfl rfl rfl rfl (by decide) rfl rfl 3 0 rfl rfl rfl rfl rfl hl.1 (Nat.le_of_ble_eq_true rfl) dX3_letter_7 ⟨Nat.zero_le _, Nat.zero_le _⟩ (fun H locs hP hD hS => ?_)
    obtain rfl := Option.some.inj hf
    exact W.iret (v := q8.1) hx hb hr (fun t ht hW => ⟨⟨q8.1, (), rfl, rfl, rf_mk ht hP hD⟩, hS.F ht⟩) hS.2.2 dX3_letter_10
theorem kX3_here_0 : (.fieldLink RX3 92 "RingAndFingerModel" "at" "I" : Cond) ∈ wsX3_here := by decide +kernel
theorem kX3_here_1 : (.fieldLink RX3 88 "RingAndFingerModel" "letterMany" "I" : Cond) ∈ wsX3_here := by decide +kernel
theorem kX3_here_2 : (.fieldLink RX3 22 "RingAndFingerModel" "letters" "[I" : Cond) ∈ wsX3_here := by decide +kernel
theorem jX3_here_X3 : ∀ w ∈ u_ws RX3 TX3 16, w ∈ wsX3_here := by decide +kernel
set_option maxHeartbeats 8000000 in
set_option maxRecDepth 100000 in
theorem c_X3_here (l : Launch) (D : va_G) (cA : ClassId) (ad : Nat → Nat) (a_this a_this_s a_this_image a_this_read a_this_mind a_this_letters a_this_row a_this_refused a_this_numbers a_this_cost : Nat) (sz : Nat) (g_this f_this_letters : Nat → Int32) (q : Int32) (hf : f_X3_here g_this f_this_letters = some q) : Met l yX3_here wsX3_here ({ frames := 0, cells := 0, slots := 0, locals := 0 } : Room) (va_Pc [.ref a_this] (rf_Pre D cA ad [(a_this, .inr (3, rf_o3 a_this_s a_this_image a_this_read a_this_mind a_this_letters a_this_row a_this_refused a_this_numbers a_this_cost g_this)), (a_this_letters, .inl (cA, 96, .inl f_this_letters))] sz)) (va_Qi (fun (r : Int32) (_ : Unit) => r = q) (fun _ t => rf_Post D (va_A [(a_this, .inr (3, rf_o3 a_this_s a_this_image a_this_read a_this_mind a_this_letters a_this_row a_this_refused a_this_numbers a_this_cost g_this)), (a_this_letters, .inl (cA, 96, .inl f_this_letters))] sz) [(a_this, .inr (3, rf_o3 a_this_s a_this_image a_this_read a_this_mind a_this_letters a_this_row a_this_refused a_this_numbers a_this_cost g_this)), (a_this_letters, .inl (cA, 96, .inl f_this_letters))] t) (va_A [(a_this, .inr (3, rf_o3 a_this_s a_this_image a_this_read a_this_mind a_this_letters a_this_row a_this_refused a_this_numbers a_this_cost g_this)), (a_this_letters, .inl (cA, 96, .inl f_this_letters))] sz)) 0 0 (va_A [(a_this, .inr (3, rf_o3 a_this_s a_this_image a_this_read a_this_mind a_this_letters a_this_row a_this_refused a_this_numbers a_this_cost g_this)), (a_this_letters, .inl (cA, 96, .inl f_this_letters))] sz) := by
  refine Met.ofW (cc := cX3_here) (maxL := 1) (ret := (some .int)) (by decide) rfl ?_
  intro p e s m args below meth c s₁ B hml hv
  obtain ⟨rfl, hsz, hP, hK, hD0, hE⟩ := hv
  have hx := B.exec
  have hb := B.bytes
  have hr := B.returns
  have hts := atoms_spec (ws := wsX3_here) B.pre
  have hown : s.vm.findClass RX3 = some m.cls := findClass_of_methodNamed B.named
  have hlocks := B.notSynchronized
  subst hsz
  have hD := hD0.self (sz := s.heap.size)
  generalize hAe : va_A [(a_this, .inr (3, rf_o3 a_this_s a_this_image a_this_read a_this_mind a_this_letters a_this_row a_this_refused a_this_numbers a_this_cost g_this)), (a_this_letters, .inl (cA, 96, .inl f_this_letters))] s.heap.size = A at hD hE ⊢
  have hA : ∀ q : Nat, s.heap.size ≤ q → A q := fun q h => by rw [← hAe]; exact Or.inr h
  have hS : va_S A s.heap s.heap [] := va_S.rf
  have hP : va_P D vwCl [(a_this, .inr (3, rf_o3 a_this_s a_this_image a_this_read a_this_mind a_this_letters a_this_row a_this_refused a_this_numbers a_this_cost g_this)), (a_this_letters, .inl (cA, 96, .inl f_this_letters))] s.heap := hP
  have hl := lv_entry ([.ref a_this]) (n := 1) (Nat.le_of_ble_eq_true rfl)
  rw [lg_entry_eq]
  generalize (lg_sl ([.ref a_this]) ++ List.replicate (1 - (lg_sl ([.ref a_this])).length) Slot.unset).toArray = ls at hl ⊢
  have hl : lv_has ls 1 [(0, .ref a_this)] := hl
  rw [f_X3_here] at hf
  refine lv_aload_n hx hb dX3_here_0 rfl (lv_at hl 0 rfl) ?_
  refine va_get (D := D) (ci := 3) (v := .int (g_this 3)) (C := RX3) (T := TX3) (N := 16) hx hb hts jX3_here_X3 hown hK hP 0 rfl rfl 10 (by decide) (hts _ kX3_here_0) (fun _ h9 => h9) rfl dX3_here_1 ?_
  refine lv_aload_n hx hb dX3_here_4 rfl (lv_at hl 0 rfl) ?_
  refine va_get (D := D) (ci := 3) (v := .int (g_this 1)) (C := RX3) (T := TX3) (N := 16) hx hb hts jX3_here_X3 hown hK hP 0 rfl rfl 8 (by decide) (hts _ kX3_here_1) (fun _ h9 => h9) rfl dX3_here_5 ?_
  refine lv_icmp_ge (tgt := 23) hx hb dX3_here_8 (by decide) (fun c1 => ?_) (fun c1 => ?_)
  · have hf := rf_ifp hf c1
    refine lv_iconst (v := (-1)) hx hb dX3_here_23 (by decide) ?_
    obtain rfl := Option.some.inj hf
    exact W.iret (v := (-1)) hx hb hr (fun t ht hW => ⟨⟨(-1), (), rfl, rfl, rf_mk ht hP hD⟩, hS.F ht⟩) hS.2.2 dX3_here_24
  · have hf := rf_ifn hf c1
    refine lv_aload_n hx hb dX3_here_11 rfl (lv_at hl 0 rfl) ?_
    refine va_get (D := D) (ci := 3) (v := .ref a_this_letters) (C := RX3) (T := TX3) (N := 16) hx hb hts jX3_here_X3 hown hK hP 0 rfl rfl 5 (by decide) (hts _ kX3_here_2) (fun _ h9 => h9) rfl dX3_here_12 ?_
    refine lv_aload_n hx hb dX3_here_15 rfl (lv_at hl 0 rfl) ?_
    refine va_get (D := D) (ci := 3) (v := .int (g_this 3)) (C := RX3) (T := TX3) (N := 16) hx hb hts jX3_here_X3 hown hK hP 0 rfl rfl 10 (by decide) (hts _ kX3_here_0) (fun _ h9 => h9) rfl dX3_here_16 ?_
    obtain ⟨c2, hf⟩ := rf_chk hf
    refine va_iald hx hb hK hP 1 0 rfl rfl c2 dX3_here_19 ?_
    refine lv_goto (tgt := 24) hx hb dX3_here_20 (by decide) ?_
    obtain rfl := Option.some.inj hf
    exact W.iret (v := (f_this_letters ((g_this 3).toNatClampNeg))) hx hb hr (fun t ht hW => ⟨⟨(f_this_letters ((g_this 3).toNatClampNeg)), (), rfl, rfl, rf_mk ht hP hD⟩, hS.F ht⟩) hS.2.2 dX3_here_24

set_option maxHeartbeats 8000000 in
set_option maxRecDepth 100000 in
theorem c_X3_kindOf (l : Launch) (D : va_G) (cA : ClassId) (ad : Nat → Nat) (sz : Nat) (p0 : Int32) (q : Int32) (hf : f_X3_kindOf p0 = some q) : Met l yX3_kindOf wsX3_kindOf ({ frames := 0, cells := 0, slots := 0, locals := 0 } : Room) (va_Pc [.int p0] (rf_Pre D cA ad [] sz)) (va_Qi (fun (r : Int32) (_ : Unit) => r = q) (fun _ t => rf_Post D (va_A [] sz) [] t) (va_A [] sz)) 0 0 (va_A [] sz) := by
  refine Met.ofW (cc := cX3_kindOf) (maxL := 1) (ret := (some .int)) (by decide) rfl ?_
  intro p e s m args below meth c s₁ B hml hv
  obtain ⟨rfl, hsz, hP, hK, hD0, hE⟩ := hv
  have hx := B.exec
  have hb := B.bytes
  have hr := B.returns
  have hts := atoms_spec (ws := wsX3_kindOf) B.pre
  have hown : s.vm.findClass RX3 = some m.cls := findClass_of_methodNamed B.named
  have hlocks := B.notSynchronized
  subst hsz
  have hD := hD0.self (sz := s.heap.size)
  generalize hAe : va_A [] s.heap.size = A at hD hE ⊢
  have hA : ∀ q : Nat, s.heap.size ≤ q → A q := fun q h => by rw [← hAe]; exact Or.inr h
  have hS : va_S A s.heap s.heap [] := va_S.rf
  have hP : va_P D vwCl [] s.heap := hP
  have hl := lv_entry ([.int p0]) (n := 1) (Nat.le_of_ble_eq_true rfl)
  rw [lg_entry_eq]
  generalize (lg_sl ([.int p0]) ++ List.replicate (1 - (lg_sl ([.int p0])).length) Slot.unset).toArray = ls at hl ⊢
  have hl : lv_has ls 1 [(0, .int p0)] := hl
  rw [f_X3_kindOf] at hf
  refine lv_iload_n hx hb dX3_kindOf_0 rfl (lv_at hl 0 rfl) ?_
  by_cases c1 : p0 = 106
  · have hf := rf_ifp hf c1
    refine rf_tabC (off := 67) (tgt := 68) hx hb dX3_kindOf_1 c1 (by decide) (by decide) (by decide) (by decide) ?_
    refine lv_iconst (v := 4) hx hb dX3_kindOf_68 (by decide) ?_
    obtain rfl := Option.some.inj hf
    exact W.iret (v := 4) hx hb hr (fun t ht hW => ⟨⟨4, (), rfl, rfl, rf_mk ht hP hD⟩, hS.F ht⟩) hS.2.2 dX3_kindOf_69
  · have hf := rf_ifn hf c1
    by_cases c2 : p0 = 107
    · have hf := rf_ifp hf c2
      refine rf_tabC (off := 61) (tgt := 62) hx hb dX3_kindOf_1 c2 (by decide) (by decide) (by decide) (by decide) ?_
      refine lv_iconst (v := 1) hx hb dX3_kindOf_62 (by decide) ?_
      obtain rfl := Option.some.inj hf
      exact W.iret (v := 1) hx hb hr (fun t ht hW => ⟨⟨1, (), rfl, rfl, rf_mk ht hP hD⟩, hS.F ht⟩) hS.2.2 dX3_kindOf_63
    · have hf := rf_ifn hf c2
      by_cases c3 : p0 = 112
      · have hf := rf_ifp hf c3
        refine rf_tabC (off := 59) (tgt := 60) hx hb dX3_kindOf_1 c3 (by decide) (by decide) (by decide) (by decide) ?_
        refine lv_iconst (v := 0) hx hb dX3_kindOf_60 (by decide) ?_
        obtain rfl := Option.some.inj hf
        exact W.iret (v := 0) hx hb hr (fun t ht hW => ⟨⟨0, (), rfl, rfl, rf_mk ht hP hD⟩, hS.F ht⟩) hS.2.2 dX3_kindOf_61
      · have hf := rf_ifn hf c3
        by_cases c4 : p0 = 114
        · have hf := rf_ifp hf c4
          refine rf_tabC (off := 65) (tgt := 66) hx hb dX3_kindOf_1 c4 (by decide) (by decide) (by decide) (by decide) ?_
          refine lv_iconst (v := 3) hx hb dX3_kindOf_66 (by decide) ?_
          obtain rfl := Option.some.inj hf
          exact W.iret (v := 3) hx hb hr (fun t ht hW => ⟨⟨3, (), rfl, rfl, rf_mk ht hP hD⟩, hS.F ht⟩) hS.2.2 dX3_kindOf_67
        · have hf := rf_ifn hf c4
          by_cases c5 : p0 = 115
          · have hf := rf_ifp hf c5
            refine rf_tabC (off := 63) (tgt := 64) hx hb dX3_kindOf_1 c5 (by decide) (by decide) (by decide) (by decide) ?_
            refine lv_iconst (v := 2) hx hb dX3_kindOf_64 (by decide) ?_
            obtain rfl := Option.some.inj hf
            exact W.iret (v := 2) hx hb hr (fun t ht hW => ⟨⟨2, (), rfl, rfl, rf_mk ht hP hD⟩, hS.F ht⟩) hS.2.2 dX3_kindOf_65
          · have hf := rf_ifn hf c5
            by_cases c6 : p0 = 116
            · have hf := rf_ifp hf c6
              refine rf_tabC (off := 69) (tgt := 70) hx hb dX3_kindOf_1 c6 (by decide) (by decide) (by decide) (by decide) ?_
              refine lv_iconst (v := 5) hx hb dX3_kindOf_70 (by decide) ?_
              obtain rfl := Option.some.inj hf
              exact W.iret (v := 5) hx hb hr (fun t ht hW => ⟨⟨5, (), rfl, rfl, rf_mk ht hP hD⟩, hS.F ht⟩) hS.2.2 dX3_kindOf_71
            · have hf := rf_ifn hf c6
              refine rf_tabD (tgt := 72) (ks := [106, 107, 112, 114, 115, 116]) hx hb dX3_kindOf_1 (by intro z hz; simp only [List.mem_cons, List.not_mem_nil, or_false] at hz; rcases hz with rfl | rfl | rfl | rfl | rfl | rfl <;> assumption) (by decide) (by decide) ?_
              refine lv_bipush (v := (-9)) hx hb dX3_kindOf_72 (by decide) ?_
              obtain rfl := Option.some.inj hf
              exact W.iret (v := (-9)) hx hb hr (fun t ht hW => ⟨⟨(-9), (), rfl, rfl, rf_mk ht hP hD⟩, hS.F ht⟩) hS.2.2 dX3_kindOf_74
theorem kX3_readsNumber_0 : (.fieldLink RX3 31 "RingAndFingerModel" "numbers" "[I" : Cond) ∈ wsX3_readsNumber := by decide +kernel
theorem kX3_readsNumber_1 : (.fieldLink RX3 92 "RingAndFingerModel" "at" "I" : Cond) ∈ wsX3_readsNumber := by decide +kernel
theorem jX3_readsNumber_X3 : ∀ w ∈ u_ws RX3 TX3 16, w ∈ wsX3_readsNumber := by decide +kernel
set_option maxHeartbeats 8000000 in
set_option maxRecDepth 100000 in
theorem c_X3_readsNumber (l : Launch) (D : va_G) (cA : ClassId) (ad : Nat → Nat) (a_this a_this_s a_this_image a_this_read a_this_mind a_this_letters a_this_row a_this_refused a_this_numbers a_this_cost : Nat) (sz : Nat) (g_this f_this_letters f_this_numbers : Nat → Int32) (p1 p2 : Int32) (q : Int32 × (Nat → Int32) × (Nat → Int32)) (hf : f_X3_readsNumber g_this f_this_letters f_this_numbers p1 p2 = some q) : Met l yX3_readsNumber wsX3_readsNumber ({ frames := 1, cells := 0, slots := 0, locals := 22 } : Room) (va_Pc [.ref a_this, .int p1, .int p2] (rf_Pre D cA ad [(a_this, .inr (3, rf_o3 a_this_s a_this_image a_this_read a_this_mind a_this_letters a_this_row a_this_refused a_this_numbers a_this_cost g_this)), (a_this_letters, .inl (cA, 96, .inl f_this_letters)), (a_this_numbers, .inl (cA, 2, .inl f_this_numbers))] sz)) (va_Qi (fun (r : Int32) (_ : Unit) => r = q.1) (fun _ t => rf_Post D (va_A [(a_this, .inr (3, rf_o3 a_this_s a_this_image a_this_read a_this_mind a_this_letters a_this_row a_this_refused a_this_numbers a_this_cost g_this)), (a_this_letters, .inl (cA, 96, .inl f_this_letters)), (a_this_numbers, .inl (cA, 2, .inl f_this_numbers))] sz) [(a_this, .inr (3, rf_o3 a_this_s a_this_image a_this_read a_this_mind a_this_letters a_this_row a_this_refused a_this_numbers a_this_cost q.2.1)), (a_this_letters, .inl (cA, 96, .inl f_this_letters)), (a_this_numbers, .inl (cA, 2, .inl q.2.2))] t) (va_A [(a_this, .inr (3, rf_o3 a_this_s a_this_image a_this_read a_this_mind a_this_letters a_this_row a_this_refused a_this_numbers a_this_cost g_this)), (a_this_letters, .inl (cA, 96, .inl f_this_letters)), (a_this_numbers, .inl (cA, 2, .inl f_this_numbers))] sz)) 0 0 (va_A [(a_this, .inr (3, rf_o3 a_this_s a_this_image a_this_read a_this_mind a_this_letters a_this_row a_this_refused a_this_numbers a_this_cost g_this)), (a_this_letters, .inl (cA, 96, .inl f_this_letters)), (a_this_numbers, .inl (cA, 2, .inl f_this_numbers))] sz) := by
  refine Met.ofW (cc := cX3_readsNumber) (maxL := 4) (ret := (some .boolean)) (by decide) rfl ?_
  intro p e s m args below meth c s₁ B hml hv
  obtain ⟨rfl, hsz, hP, hK, hD0, hE⟩ := hv
  have hx := B.exec
  have hb := B.bytes
  have hr := B.returns
  have hts := atoms_spec (ws := wsX3_readsNumber) B.pre
  have hown : s.vm.findClass RX3 = some m.cls := findClass_of_methodNamed B.named
  have hlocks := B.notSynchronized
  subst hsz
  have hD := hD0.self (sz := s.heap.size)
  generalize hAe : va_A [(a_this, .inr (3, rf_o3 a_this_s a_this_image a_this_read a_this_mind a_this_letters a_this_row a_this_refused a_this_numbers a_this_cost g_this)), (a_this_letters, .inl (cA, 96, .inl f_this_letters)), (a_this_numbers, .inl (cA, 2, .inl f_this_numbers))] s.heap.size = A at hD hE ⊢
  have hA : ∀ q : Nat, s.heap.size ≤ q → A q := fun q h => by rw [← hAe]; exact Or.inr h
  have hS : va_S A s.heap s.heap [] := va_S.rf
  have hP : va_P D vwCl [(a_this, .inr (3, rf_o3 a_this_s a_this_image a_this_read a_this_mind a_this_letters a_this_row a_this_refused a_this_numbers a_this_cost g_this)), (a_this_letters, .inl (cA, 96, .inl f_this_letters)), (a_this_numbers, .inl (cA, 2, .inl f_this_numbers))] s.heap := hP
  have hl := lv_entry ([.ref a_this, .int p1, .int p2]) (n := 4) (Nat.le_of_ble_eq_true rfl)
  rw [lg_entry_eq]
  generalize (lg_sl ([.ref a_this, .int p1, .int p2]) ++ List.replicate (4 - (lg_sl ([.ref a_this, .int p1, .int p2])).length) Slot.unset).toArray = ls at hl ⊢
  have hl : lv_has ls 4 [(0, .ref a_this), (1, .int p1), (2, .int p2)] := hl
  have key_9 : ∀ (n : Nat) (x3 : Int32) (yg_this yf_this_numbers : Nat → Int32) (ql : (Int32 × (Nat → Int32) × (Nat → Int32)) ⊕ (Int32 × (Nat → Int32) × (Nat → Int32))), f_X3_readsNumber_L9 f_this_letters p1 p2 n x3 yg_this yf_this_numbers = some ql → ∀ (H : Heap) (locs : List Loc) (ls : Array Slot), va_P D vwCl [(a_this, .inr (3, rf_o3 a_this_s a_this_image a_this_read a_this_mind a_this_letters a_this_row a_this_refused a_this_numbers a_this_cost yg_this)), (a_this_letters, .inl (cA, 96, .inl f_this_letters)), (a_this_numbers, .inl (cA, 2, .inl yf_this_numbers))] H → va_D A [(a_this, .inr (3, rf_o3 a_this_s a_this_image a_this_read a_this_mind a_this_letters a_this_row a_this_refused a_this_numbers a_this_cost yg_this)), (a_this_letters, .inl (cA, 96, .inl f_this_letters)), (a_this_numbers, .inl (cA, 2, .inl yf_this_numbers))] → va_S A s.heap H locs → lv_has ls 4 [(0, .ref a_this), (1, .int p1), (2, .int p2), (3, .int x3)] → (∀ r : Int32 × (Nat → Int32) × (Nat → Int32), ql = .inl r → r = q) → (∀ (x : Int32 × (Nat → Int32) × (Nat → Int32)), ql = .inr x → ∀ (H : Heap) (locs : List Loc) (ls : Array Slot), va_P D vwCl [(a_this, .inr (3, rf_o3 a_this_s a_this_image a_this_read a_this_mind a_this_letters a_this_row a_this_refused a_this_numbers a_this_cost x.2.1)), (a_this_letters, .inl (cA, 96, .inl f_this_letters)), (a_this_numbers, .inl (cA, 2, .inl x.2.2))] H → va_D A [(a_this, .inr (3, rf_o3 a_this_s a_this_image a_this_read a_this_mind a_this_letters a_this_row a_this_refused a_this_numbers a_this_cost x.2.1)), (a_this_letters, .inl (cA, 96, .inl f_this_letters)), (a_this_numbers, .inl (cA, 2, .inl x.2.2))] → va_S A s.heap H locs → lv_has ls 4 [(0, .ref a_this), (1, .int p1), (2, .int p2), (3, .int x.1)] → W p l e (headSpec wsX3_readsNumber ({ frames := 1, cells := 0, slots := 0, locals := 22 } : Room)).room s m ([.ref a_this, .int p1, .int p2] : List Value).toArray below meth c H locs 0 0 (MQ below (va_Qi (fun (r : Int32) (_ : Unit) => r = q.1) (fun _ t => rf_Post D A [(a_this, .inr (3, rf_o3 a_this_s a_this_image a_this_read a_this_mind a_this_letters a_this_row a_this_refused a_this_numbers a_this_cost q.2.1)), (a_this_letters, .inl (cA, 96, .inl f_this_letters)), (a_this_numbers, .inl (cA, 2, .inl q.2.2))] t) A) ([.ref a_this, .int p1, .int p2] : List Value).toArray s 0 0 A) (F0 m 69 ls [])) → W p l e (headSpec wsX3_readsNumber ({ frames := 1, cells := 0, slots := 0, locals := 22 } : Room)).room s m ([.ref a_this, .int p1, .int p2] : List Value).toArray below meth c H locs 0 0 (MQ below (va_Qi (fun (r : Int32) (_ : Unit) => r = q.1) (fun _ t => rf_Post D A [(a_this, .inr (3, rf_o3 a_this_s a_this_image a_this_read a_this_mind a_this_letters a_this_row a_this_refused a_this_numbers a_this_cost q.2.1)), (a_this_letters, .inl (cA, 96, .inl f_this_letters)), (a_this_numbers, .inl (cA, 2, .inl q.2.2))] t) A) ([.ref a_this, .int p1, .int p2] : List Value).toArray s 0 0 A) (F0 m 9 ls []) := by
    intro n
    induction n with
    | zero =>
      intro x3 yg_this yf_this_numbers ql hf H locs ls hP hD hS hl hret kx
      exact absurd (show (none : Option ((Int32 × (Nat → Int32) × (Nat → Int32)) ⊕ (Int32 × (Nat → Int32) × (Nat → Int32)))) = some ql from hf) (fun h9 => by cases h9)
    | succ n ih =>
      intro x3 yg_this yf_this_numbers ql hf H locs ls hP hD hS hl hret kx
      rw [f_X3_readsNumber_L9] at hf
      refine lv_iload_n hx hb dX3_readsNumber_9 rfl (lv_at hl 3 rfl) ?_
      refine lv_iload_n hx hb dX3_readsNumber_10 rfl (lv_at hl 2 rfl) ?_
      refine lv_icmp_ge (tgt := 69) hx hb dX3_readsNumber_11 (by decide) (fun c1 => ?_) (fun c1 => ?_)
      · have hf := rf_ifp hf c1
        exact kx _ (Option.some.inj hf).symm _ _ _ hP hD hS (lv_sub hl [0, 1, 2, 3] rfl)
      · have hf := rf_ifn hf c1
        refine lv_aload_n hx hb dX3_readsNumber_14 rfl (lv_at hl 0 rfl) ?_
        obtain ⟨q2, hq2, hf⟩ := rf_bindq hf
        refine rf_Vi (As := []) (rest := []) (wr := [(a_this_numbers, .inl (cA, 2, .inl yf_this_numbers))]) (wn := [(a_this, .inr (3, rf_o3 a_this_s a_this_image a_this_read a_this_mind a_this_letters a_this_row a_this_refused a_this_numbers a_this_cost yg_this)), (a_this_letters, .inl (cA, 96, .inl f_this_letters)), (a_this_numbers, .inl (cA, 2, .inl yf_this_numbers))]) ⟨hx, hb, hml, hown, hts⟩ hK hP hD hS hA hE (c_X3_here l D cA ad a_this a_this_s a_this_image a_this_read a_this_mind a_this_letters a_this_row a_this_refused a_this_numbers a_this_cost H.size yg_this f_this_letters q2 hq2) (cwV 0 hts gX3_readsNumber_X3_here rfl rfl rfl hv_X3_here ⟨Nat.le_of_ble_eq_true rfl, Nat.le_of_ble_eq_true rfl⟩) [0, 1] [2] [1, 2, 0] rfl rfl rfl rfl (by decide) rfl rfl 3 0 rfl rfl rfl rfl rfl hl.1 (Nat.le_of_ble_eq_true rfl) dX3_readsNumber_15 ⟨Nat.zero_le _, Nat.zero_le _⟩ (fun H locs hP hD hS => ?_)
        refine lv_bipush (v := 48) hx hb dX3_readsNumber_18 (by decide) ?_
        refine lv_bipush (v := 57) hx hb dX3_readsNumber_20 (by decide) ?_
        obtain ⟨q3, hq3, hf⟩ := rf_bindq hf
        refine rf_Si (As := [.int q2, .int 48, .int 57]) (rest := []) (wr := [(a_this, .inr (3, rf_o3 a_this_s a_this_image a_this_read a_this_mind a_this_letters a_this_row a_this_refused a_this_numbers a_this_cost yg_this)), (a_this_letters, .inl (cA, 96, .inl f_this_letters)), (a_this_numbers, .inl (cA, 2, .inl yf_this_numbers))]) (wn := [(a_this, .inr (3, rf_o3 a_this_s a_this_image a_this_read a_this_mind a_this_letters a_this_row a_this_refused a_this_numbers a_this_cost yg_this)), (a_this_letters, .inl (cA, 96, .inl f_this_letters)), (a_this_numbers, .inl (cA, 2, .inl yf_this_numbers))]) ⟨hx, hb, hml, hown, hts⟩ hK hP hD hS hA hE (c_X3_isIn l D cA ad H.size q2 48 57 q3 hq3) (va_cwS 3 hts gX3_readsNumber_X3_isIn rfl rfl rfl hs_X3_isIn ⟨Nat.le_of_ble_eq_true rfl, Nat.le_of_ble_eq_true rfl⟩) [] [0, 1, 2] [0, 1, 2] rfl rfl rfl rfl (by decide) rfl rfl rfl rfl hl.1 (Nat.le_of_ble_eq_true rfl) dX3_readsNumber_22 ⟨Nat.zero_le _, Nat.zero_le _⟩ (fun H locs hP hD hS => ?_)
        refine lv_if_ne (tgt := 30) hx hb dX3_readsNumber_25 (by decide) (fun c4 => ?_) (fun c4 => ?_)
        · have hf := rf_ifn hf c4
          refine lv_aload_n hx hb dX3_readsNumber_30 rfl (lv_at hl 0 rfl) ?_
          refine va_get (D := D) (ci := 3) (v := .ref a_this_numbers) (C := RX3) (T := TX3) (N := 16) hx hb hts jX3_readsNumber_X3 hown hK hP 0 rfl rfl 11 (by decide) (hts _ kX3_readsNumber_0) (fun _ h9 => h9) rfl dX3_readsNumber_31 ?_
          refine lv_iload_n hx hb dX3_readsNumber_34 rfl (lv_at hl 1 rfl) ?_
          refine lv_bipush (v := 10) hx hb dX3_readsNumber_35 (by decide) ?_
          refine lv_aload_n hx hb dX3_readsNumber_37 rfl (lv_at hl 0 rfl) ?_
          refine va_get (D := D) (ci := 3) (v := .ref a_this_numbers) (C := RX3) (T := TX3) (N := 16) hx hb hts jX3_readsNumber_X3 hown hK hP 0 rfl rfl 11 (by decide) (hts _ kX3_readsNumber_0) (fun _ h9 => h9) rfl dX3_readsNumber_38 ?_
          refine lv_iload_n hx hb dX3_readsNumber_41 rfl (lv_at hl 1 rfl) ?_
          obtain ⟨c5, hf⟩ := rf_chk hf
          refine va_iald hx hb hK hP 2 0 rfl rfl c5 dX3_readsNumber_42 ?_
          refine lv_imul hx hb dX3_readsNumber_43 ?_
          refine lv_aload_n hx hb dX3_readsNumber_44 rfl (lv_at hl 0 rfl) ?_
          obtain ⟨q6, hq6, hf⟩ := rf_bindq hf
          refine rf_Vi (As := []) (rest := [.int (10 * (yf_this_numbers (p1.toNatClampNeg))), .int p1, .ref a_this_numbers]) (wr := [(a_this_numbers, .inl (cA, 2, .inl yf_this_numbers))]) (wn := [(a_this, .inr (3, rf_o3 a_this_s a_this_image a_this_read a_this_mind a_this_letters a_this_row a_this_refused a_this_numbers a_this_cost yg_this)), (a_this_letters, .inl (cA, 96, .inl f_this_letters)), (a_this_numbers, .inl (cA, 2, .inl yf_this_numbers))]) ⟨hx, hb, hml, hown, hts⟩ hK hP hD hS hA hE (c_X3_here l D cA ad a_this a_this_s a_this_image a_this_read a_this_mind a_this_letters a_this_row a_this_refused a_this_numbers a_this_cost H.size yg_this f_this_letters q6 hq6) (cwV 0 hts gX3_readsNumber_X3_here rfl rfl rfl hv_X3_here ⟨Nat.le_of_ble_eq_true rfl, Nat.le_of_ble_eq_true rfl⟩) [0, 1] [2] [1, 2, 0] rfl rfl rfl rfl (by decide) rfl rfl 3 0 rfl rfl rfl rfl rfl hl.1 (Nat.le_of_ble_eq_true rfl) dX3_readsNumber_45 ⟨Nat.zero_le _, Nat.zero_le _⟩ (fun H locs hP hD hS => ?_)
          refine lv_iadd hx hb dX3_readsNumber_48 ?_
          refine lv_bipush (v := 48) hx hb dX3_readsNumber_49 (by decide) ?_
          refine lv_isub hx hb dX3_readsNumber_51 ?_
          refine lv_topi (fun v7 ev7 => ?_)
          have hf := rf_bindv hf ev7
          clear ev7
          obtain ⟨c8, hf⟩ := rf_chk hf
          refine va_iast hx hb hK hP hD hS 2 0 rfl rfl c8 dX3_readsNumber_52 (fun H locs hP hD hS => ?_)
          have hP : va_P D vwCl [(a_this, .inr (3, rf_o3 a_this_s a_this_image a_this_read a_this_mind a_this_letters a_this_row a_this_refused a_this_numbers a_this_cost yg_this)), (a_this_letters, .inl (cA, 96, .inl f_this_letters)), (a_this_numbers, .inl (cA, 2, .inl (upd yf_this_numbers (p1.toNatClampNeg) v7)))] H := hP
          have hD : va_D A [(a_this, .inr (3, rf_o3 a_this_s a_this_image a_this_read a_this_mind a_this_letters a_this_row a_this_refused a_this_numbers a_this_cost yg_this)), (a_this_letters, .inl (cA, 96, .inl f_this_letters)), (a_this_numbers, .inl (cA, 2, .inl (upd yf_this_numbers (p1.toNatClampNeg) v7)))] := hD
          refine lv_aload_n hx hb dX3_readsNumber_53 rfl (lv_at hl 0 rfl) ?_
          refine lv_dup hx hb dX3_readsNumber_54 rfl ?_
          refine va_get (D := D) (ci := 3) (v := .int (yg_this 3)) (C := RX3) (T := TX3) (N := 16) hx hb hts jX3_readsNumber_X3 hown hK hP 0 rfl rfl 10 (by decide) (hts _ kX3_readsNumber_1) (fun _ h9 => h9) rfl dX3_readsNumber_55 ?_
          refine lv_iconst (v := 1) hx hb dX3_readsNumber_58 (by decide) ?_
          refine lv_iadd hx hb dX3_readsNumber_59 ?_
          refine lv_topi (fun v9 ev9 => ?_)
          have hf := rf_bindv hf ev9
          clear ev9
          refine va_put (D := D) (ci := 3) (v := .int v9) (ty := .int) (C := RX3) (T := TX3) (N := 16) hx hb hts jX3_readsNumber_X3 tyX3 tyX3_ok nmX3 hown hK hP hD hS 0 rfl rfl 10 (by decide) (hts _ kX3_readsNumber_1) (fun _ h9 => h9) rfl (by decide +kernel) rfl rfl (Nat.le_of_ble_eq_true rfl) dX3_readsNumber_60 (fun H locs hP hD hS => ?_)
          have hP : va_P D vwCl [(a_this, .inr (3, rf_o3 a_this_s a_this_image a_this_read a_this_mind a_this_letters a_this_row a_this_refused a_this_numbers a_this_cost (upd yg_this 3 v9))), (a_this_letters, .inl (cA, 96, .inl f_this_letters)), (a_this_numbers, .inl (cA, 2, .inl (upd yf_this_numbers (p1.toNatClampNeg) v7)))] H := hP
          have hD : va_D A [(a_this, .inr (3, rf_o3 a_this_s a_this_image a_this_read a_this_mind a_this_letters a_this_row a_this_refused a_this_numbers a_this_cost (upd yg_this 3 v9))), (a_this_letters, .inl (cA, 96, .inl f_this_letters)), (a_this_numbers, .inl (cA, 2, .inl (upd yf_this_numbers (p1.toNatClampNeg) v7)))] := hD
          obtain ⟨v10, ev10⟩ : ∃ y : Int32, y = x3 + 1 := ⟨_, rfl⟩
          have hf := rf_bindv hf ev10
          refine lv_iinc (v := v10) (lv' := [(3, .int v10), (0, .ref a_this), (1, .int p1), (2, .int p2)]) hx hb dX3_readsNumber_63 hl (k := 3) rfl (by rw [ev10]; rfl) (by decide) rfl (fun ls hl => ?_)
          clear ev10
          refine lv_goto (tgt := 9) hx hb dX3_readsNumber_66 (by decide) ?_
          exact ih v10 (upd yg_this 3 v9) (upd yf_this_numbers (p1.toNatClampNeg) v7) ql hf _ _ _ hP hD hS (lv_sub hl [1, 2, 3, 0] rfl) hret kx
        · have hf := rf_ifp hf c4
          refine lv_iconst (v := 0) hx hb dX3_readsNumber_28 (by decide) ?_
          obtain rfl := hret _ (Option.some.inj hf).symm
          exact W.zret (v := 0) hx hb hr rfl (fun t ht hW => ⟨⟨0, (), rfl, rfl, rf_mk ht hP hD⟩, hS.F ht⟩) hS.2.2 dX3_readsNumber_29
  rw [f_X3_readsNumber] at hf
  refine lv_aload_n hx hb dX3_readsNumber_0 rfl (lv_at hl 0 rfl) ?_
  refine va_get (D := D) (ci := 3) (v := .ref a_this_numbers) (C := RX3) (T := TX3) (N := 16) hx hb hts jX3_readsNumber_X3 hown hK hP 0 rfl rfl 11 (by decide) (hts _ kX3_readsNumber_0) (fun _ h9 => h9) rfl dX3_readsNumber_1 ?_
  refine lv_iload_n hx hb dX3_readsNumber_4 rfl (lv_at hl 1 rfl) ?_
  refine lv_iconst (v := 0) hx hb dX3_readsNumber_5 (by decide) ?_
  obtain ⟨c11, hf⟩ := rf_chk hf
  refine va_iast hx hb hK hP hD hS 2 0 rfl rfl c11 dX3_readsNumber_6 (fun H locs hP hD hS => ?_)
  have hP : va_P D vwCl [(a_this, .inr (3, rf_o3 a_this_s a_this_image a_this_read a_this_mind a_this_letters a_this_row a_this_refused a_this_numbers a_this_cost g_this)), (a_this_letters, .inl (cA, 96, .inl f_this_letters)), (a_this_numbers, .inl (cA, 2, .inl (upd f_this_numbers (p1.toNatClampNeg) 0)))] H := hP
  have hD : va_D A [(a_this, .inr (3, rf_o3 a_this_s a_this_image a_this_read a_this_mind a_this_letters a_this_row a_this_refused a_this_numbers a_this_cost g_this)), (a_this_letters, .inl (cA, 96, .inl f_this_letters)), (a_this_numbers, .inl (cA, 2, .inl (upd f_this_numbers (p1.toNatClampNeg) 0)))] := hD
  refine lv_iconst (v := 0) hx hb dX3_readsNumber_7 (by decide) ?_
  refine lv_istore_n (lv' := [(3, .int 0), (0, .ref a_this), (1, .int p1), (2, .int p2)]) hx hb dX3_readsNumber_8 rfl hl (by decide) rfl (fun ls hl => ?_)
  obtain ⟨q12, hq12, hf⟩ := rf_bindq hf
  refine key_9 rf_fu 0 g_this (upd f_this_numbers (p1.toNatClampNeg) 0) q12 hq12 _ _ _ hP hD hS (lv_sub hl [1, 2, 3, 0] rfl) (fun r h9 => ?_) (fun x13 h9 H locs ls hP hD hS hl => ?_)
  · subst h9
    exact Option.some.inj hf
  · subst h9
    have hf := rf_sumr hf
    refine lv_iconst (v := 1) hx hb dX3_readsNumber_69 (by decide) ?_
    obtain rfl := Option.some.inj hf
    exact W.zret (v := 1) hx hb hr rfl (fun t ht hW => ⟨⟨1, (), rfl, rfl, rf_mk ht hP hD⟩, hS.F ht⟩) hS.2.2 dX3_readsNumber_70
theorem kX3_readsStatement_0 : (.fieldLink RX3 92 "RingAndFingerModel" "at" "I" : Cond) ∈ wsX3_readsStatement := by decide +kernel
theorem kX3_readsStatement_1 : (.fieldLink RX3 31 "RingAndFingerModel" "numbers" "[I" : Cond) ∈ wsX3_readsStatement := by decide +kernel
theorem jX3_readsStatement_X3 : ∀ w ∈ u_ws RX3 TX3 16, w ∈ wsX3_readsStatement := by decide +kernel
set_option maxHeartbeats 8000000 in
set_option maxRecDepth 100000 in
theorem c_X3_readsStatement (l : Launch) (D : va_G) (cA : ClassId) (ad : Nat → Nat) (a_this a_this_s a_this_image a_this_read a_this_mind a_this_letters a_this_row a_this_refused a_this_numbers a_this_cost : Nat) (sz : Nat) (g_this f_this_letters f_this_numbers : Nat → Int32) (q : Int32 × (Nat → Int32) × (Nat → Int32)) (hf : f_X3_readsStatement g_this f_this_letters f_this_numbers = some q) : Met l yX3_readsStatement wsX3_readsStatement ({ frames := 2, cells := 0, slots := 0, locals := 45 } : Room) (va_Pc [.ref a_this] (rf_Pre D cA ad [(a_this, .inr (3, rf_o3 a_this_s a_this_image a_this_read a_this_mind a_this_letters a_this_row a_this_refused a_this_numbers a_this_cost g_this)), (a_this_letters, .inl (cA, 96, .inl f_this_letters)), (a_this_numbers, .inl (cA, 2, .inl f_this_numbers))] sz)) (va_Qi (fun (r : Int32) (_ : Unit) => r = q.1) (fun _ t => rf_Post D (va_A [(a_this, .inr (3, rf_o3 a_this_s a_this_image a_this_read a_this_mind a_this_letters a_this_row a_this_refused a_this_numbers a_this_cost g_this)), (a_this_letters, .inl (cA, 96, .inl f_this_letters)), (a_this_numbers, .inl (cA, 2, .inl f_this_numbers))] sz) [(a_this, .inr (3, rf_o3 a_this_s a_this_image a_this_read a_this_mind a_this_letters a_this_row a_this_refused a_this_numbers a_this_cost q.2.1)), (a_this_letters, .inl (cA, 96, .inl f_this_letters)), (a_this_numbers, .inl (cA, 2, .inl q.2.2))] t) (va_A [(a_this, .inr (3, rf_o3 a_this_s a_this_image a_this_read a_this_mind a_this_letters a_this_row a_this_refused a_this_numbers a_this_cost g_this)), (a_this_letters, .inl (cA, 96, .inl f_this_letters)), (a_this_numbers, .inl (cA, 2, .inl f_this_numbers))] sz)) 0 0 (va_A [(a_this, .inr (3, rf_o3 a_this_s a_this_image a_this_read a_this_mind a_this_letters a_this_row a_this_refused a_this_numbers a_this_cost g_this)), (a_this_letters, .inl (cA, 96, .inl f_this_letters)), (a_this_numbers, .inl (cA, 2, .inl f_this_numbers))] sz) := by
  refine Met.ofW (cc := cX3_readsStatement) (maxL := 3) (ret := (some .boolean)) (by decide) rfl ?_
  intro p e s m args below meth c s₁ B hml hv
  obtain ⟨rfl, hsz, hP, hK, hD0, hE⟩ := hv
  have hx := B.exec
  have hb := B.bytes
  have hr := B.returns
  have hts := atoms_spec (ws := wsX3_readsStatement) B.pre
  have hown : s.vm.findClass RX3 = some m.cls := findClass_of_methodNamed B.named
  have hlocks := B.notSynchronized
  subst hsz
  have hD := hD0.self (sz := s.heap.size)
  generalize hAe : va_A [(a_this, .inr (3, rf_o3 a_this_s a_this_image a_this_read a_this_mind a_this_letters a_this_row a_this_refused a_this_numbers a_this_cost g_this)), (a_this_letters, .inl (cA, 96, .inl f_this_letters)), (a_this_numbers, .inl (cA, 2, .inl f_this_numbers))] s.heap.size = A at hD hE ⊢
  have hA : ∀ q : Nat, s.heap.size ≤ q → A q := fun q h => by rw [← hAe]; exact Or.inr h
  have hS : va_S A s.heap s.heap [] := va_S.rf
  have hP : va_P D vwCl [(a_this, .inr (3, rf_o3 a_this_s a_this_image a_this_read a_this_mind a_this_letters a_this_row a_this_refused a_this_numbers a_this_cost g_this)), (a_this_letters, .inl (cA, 96, .inl f_this_letters)), (a_this_numbers, .inl (cA, 2, .inl f_this_numbers))] s.heap := hP
  have hl := lv_entry ([.ref a_this]) (n := 3) (Nat.le_of_ble_eq_true rfl)
  rw [lg_entry_eq]
  generalize (lg_sl ([.ref a_this]) ++ List.replicate (3 - (lg_sl ([.ref a_this])).length) Slot.unset).toArray = ls at hl ⊢
  have hl : lv_has ls 3 [(0, .ref a_this)] := hl
  rw [f_X3_readsStatement] at hf
  refine lv_aload_n hx hb dX3_readsStatement_0 rfl (lv_at hl 0 rfl) ?_
  obtain ⟨q1, hq1, hf⟩ := rf_bindq hf
  refine rf_Vi (As := []) (rest := []) (wr := [(a_this_numbers, .inl (cA, 2, .inl f_this_numbers))]) (wn := [(a_this, .inr (3, rf_o3 a_this_s a_this_image a_this_read a_this_mind a_this_letters a_this_row a_this_refused a_this_numbers a_this_cost g_this)), (a_this_letters, .inl (cA, 96, .inl f_this_letters)), (a_this_numbers, .inl (cA, 2, .inl f_this_numbers))]) ⟨hx, hb, hml, hown, hts⟩ hK hP hD hS hA hE (c_X3_here l D cA ad a_this a_this_s a_this_image a_this_read a_this_mind a_this_letters a_this_row a_this_refused a_this_numbers a_this_cost s.heap.size g_this f_this_letters q1 hq1) (cwV 0 hts gX3_readsStatement_X3_here rfl rfl rfl hv_X3_here ⟨Nat.le_of_ble_eq_true rfl, Nat.le_of_ble_eq_true rfl⟩) [0, 1] [2] [1, 2, 0] rfl rfl rfl rfl (by decide) rfl rfl 3 0 rfl rfl rfl rfl rfl hl.1 (Nat.le_of_ble_eq_true rfl) dX3_readsStatement_1 ⟨Nat.zero_le _, Nat.zero_le _⟩ (fun H locs hP hD hS => ?_)
  refine lv_istore_n (lv' := [(1, .int q1), (0, .ref a_this)]) hx hb dX3_readsStatement_4 rfl hl (by decide) rfl (fun ls hl => ?_)
  refine lv_iconst (v := 0) hx hb dX3_readsStatement_5 (by decide) ?_
  refine lv_istore_n (lv' := [(2, .int 0), (1, .int q1), (0, .ref a_this)]) hx hb dX3_readsStatement_6 rfl hl (by decide) rfl (fun ls hl => ?_)
  refine lv_aload_n hx hb dX3_readsStatement_7 rfl (lv_at hl 2 rfl) ?_
  refine lv_dup hx hb dX3_readsStatement_8 rfl ?_
  refine va_get (D := D) (ci := 3) (v := .int (g_this 3)) (C := RX3) (T := TX3) (N := 16) hx hb hts jX3_readsStatement_X3 hown hK hP 0 rfl rfl 10 (by decide) (hts _ kX3_readsStatement_0) (fun _ h9 => h9) rfl dX3_readsStatement_9 ?_
  refine lv_iconst (v := 1) hx hb dX3_readsStatement_12 (by decide) ?_
  refine lv_iadd hx hb dX3_readsStatement_13 ?_
  refine lv_topi (fun v2 ev2 => ?_)
  have hf := rf_bindv hf ev2
  clear ev2
  refine va_put (D := D) (ci := 3) (v := .int v2) (ty := .int) (C := RX3) (T := TX3) (N := 16) hx hb hts jX3_readsStatement_X3 tyX3 tyX3_ok nmX3 hown hK hP hD hS 0 rfl rfl 10 (by decide) (hts _ kX3_readsStatement_0) (fun _ h9 => h9) rfl (by decide +kernel) rfl rfl (Nat.le_of_ble_eq_true rfl) dX3_readsStatement_14 (fun H locs hP hD hS => ?_)
  have hP : va_P D vwCl [(a_this, .inr (3, rf_o3 a_this_s a_this_image a_this_read a_this_mind a_this_letters a_this_row a_this_refused a_this_numbers a_this_cost (upd g_this 3 v2))), (a_this_letters, .inl (cA, 96, .inl f_this_letters)), (a_this_numbers, .inl (cA, 2, .inl f_this_numbers))] H := hP
  have hD : va_D A [(a_this, .inr (3, rf_o3 a_this_s a_this_image a_this_read a_this_mind a_this_letters a_this_row a_this_refused a_this_numbers a_this_cost (upd g_this 3 v2))), (a_this_letters, .inl (cA, 96, .inl f_this_letters)), (a_this_numbers, .inl (cA, 2, .inl f_this_numbers))] := hD
  refine lv_iload_n hx hb dX3_readsStatement_17 rfl (lv_at hl 1 rfl) ?_
  by_cases c3 : q1 = 99
  · have hf := rf_ifp hf c3
    refine rf_tabC (off := 169) (tgt := 187) hx hb dX3_readsStatement_18 c3 (by decide) (by decide) (by decide) (by decide) ?_
    refine lv_aload_n hx hb dX3_readsStatement_187 rfl (lv_at hl 2 rfl) ?_
    refine lv_iconst (v := 0) hx hb dX3_readsStatement_188 (by decide) ?_
    refine lv_iconst (v := 2) hx hb dX3_readsStatement_189 (by decide) ?_
    obtain ⟨q4, hq4, hf⟩ := rf_bindq hf
    refine rf_Vi (As := [.int 0, .int 2]) (rest := []) (wr := []) (wn := [(a_this, .inr (3, rf_o3 a_this_s a_this_image a_this_read a_this_mind a_this_letters a_this_row a_this_refused a_this_numbers a_this_cost q4.2.1)), (a_this_letters, .inl (cA, 96, .inl f_this_letters)), (a_this_numbers, .inl (cA, 2, .inl q4.2.2))]) ⟨hx, hb, hml, hown, hts⟩ hK hP hD hS hA hE (c_X3_readsNumber l D cA ad a_this a_this_s a_this_image a_this_read a_this_mind a_this_letters a_this_row a_this_refused a_this_numbers a_this_cost H.size (upd g_this 3 v2) f_this_letters f_this_numbers 0 2 q4 hq4) (cwV 2 hts gX3_readsStatement_X3_readsNumber rfl rfl rfl hv_X3_readsNumber ⟨Nat.le_of_ble_eq_true rfl, Nat.le_of_ble_eq_true rfl⟩) [0, 1, 2] [] [0, 1, 2] rfl rfl rfl rfl (by decide) rfl rfl 3 0 rfl rfl rfl rfl rfl hl.1 (Nat.le_of_ble_eq_true rfl) dX3_readsStatement_190 ⟨Nat.zero_le _, Nat.zero_le _⟩ (fun H locs hP hD hS => ?_)
    refine lv_istore_n (lv' := [(2, .int q4.1), (1, .int q1), (0, .ref a_this)]) hx hb dX3_readsStatement_193 rfl hl (by decide) rfl (fun ls hl => ?_)
    refine lv_goto (tgt := 219) hx hb dX3_readsStatement_194 (by decide) ?_
    refine lv_iload_n hx hb dX3_readsStatement_219 rfl (lv_at hl 0 rfl) ?_
    refine lv_if_eq (tgt := 232) hx hb dX3_readsStatement_220 (by decide) (fun c5 => ?_) (fun c5 => ?_)
    · have hf := rf_ifp hf c5
      refine lv_iconst (v := 0) hx hb dX3_readsStatement_232 (by decide) ?_
      obtain rfl := Option.some.inj hf
      exact W.zret (v := 0) hx hb hr rfl (fun t ht hW => ⟨⟨0, (), rfl, rfl, rf_mk ht hP hD⟩, hS.F ht⟩) hS.2.2 dX3_readsStatement_233
    · have hf := rf_ifn hf c5
      refine lv_aload_n hx hb dX3_readsStatement_223 rfl (lv_at hl 2 rfl) ?_
      obtain ⟨q6, hq6, hf⟩ := rf_bindq hf
      refine rf_Vi (As := []) (rest := []) (wr := [(a_this_numbers, .inl (cA, 2, .inl q4.2.2))]) (wn := [(a_this, .inr (3, rf_o3 a_this_s a_this_image a_this_read a_this_mind a_this_letters a_this_row a_this_refused a_this_numbers a_this_cost q4.2.1)), (a_this_letters, .inl (cA, 96, .inl f_this_letters)), (a_this_numbers, .inl (cA, 2, .inl q4.2.2))]) ⟨hx, hb, hml, hown, hts⟩ hK hP hD hS hA hE (c_X3_here l D cA ad a_this a_this_s a_this_image a_this_read a_this_mind a_this_letters a_this_row a_this_refused a_this_numbers a_this_cost H.size q4.2.1 f_this_letters q6 hq6) (cwV 0 hts gX3_readsStatement_X3_here rfl rfl rfl hv_X3_here ⟨Nat.le_of_ble_eq_true rfl, Nat.le_of_ble_eq_true rfl⟩) [0, 1] [2] [1, 2, 0] rfl rfl rfl rfl (by decide) rfl rfl 3 0 rfl rfl rfl rfl rfl hl.1 (Nat.le_of_ble_eq_true rfl) dX3_readsStatement_224 ⟨Nat.zero_le _, Nat.zero_le _⟩ (fun H locs hP hD hS => ?_)
      refine lv_bipush (v := 59) hx hb dX3_readsStatement_227 (by decide) ?_
      refine lv_icmp_eq (tgt := 234) hx hb dX3_readsStatement_229 (by decide) (fun c7 => ?_) (fun c7 => ?_)
      · have hf := rf_ifp hf c7
        refine lv_aload_n hx hb dX3_readsStatement_234 rfl (lv_at hl 2 rfl) ?_
        refine lv_dup hx hb dX3_readsStatement_235 rfl ?_
        refine va_get (D := D) (ci := 3) (v := .int (q4.2.1 3)) (C := RX3) (T := TX3) (N := 16) hx hb hts jX3_readsStatement_X3 hown hK hP 0 rfl rfl 10 (by decide) (hts _ kX3_readsStatement_0) (fun _ h9 => h9) rfl dX3_readsStatement_236 ?_
        refine lv_iconst (v := 1) hx hb dX3_readsStatement_239 (by decide) ?_
        refine lv_iadd hx hb dX3_readsStatement_240 ?_
        refine lv_topi (fun v8 ev8 => ?_)
        have hf := rf_bindv hf ev8
        clear ev8
        refine va_put (D := D) (ci := 3) (v := .int v8) (ty := .int) (C := RX3) (T := TX3) (N := 16) hx hb hts jX3_readsStatement_X3 tyX3 tyX3_ok nmX3 hown hK hP hD hS 0 rfl rfl 10 (by decide) (hts _ kX3_readsStatement_0) (fun _ h9 => h9) rfl (by decide +kernel) rfl rfl (Nat.le_of_ble_eq_true rfl) dX3_readsStatement_241 (fun H locs hP hD hS => ?_)
        have hP : va_P D vwCl [(a_this, .inr (3, rf_o3 a_this_s a_this_image a_this_read a_this_mind a_this_letters a_this_row a_this_refused a_this_numbers a_this_cost (upd q4.2.1 3 v8))), (a_this_letters, .inl (cA, 96, .inl f_this_letters)), (a_this_numbers, .inl (cA, 2, .inl q4.2.2))] H := hP
        have hD : va_D A [(a_this, .inr (3, rf_o3 a_this_s a_this_image a_this_read a_this_mind a_this_letters a_this_row a_this_refused a_this_numbers a_this_cost (upd q4.2.1 3 v8))), (a_this_letters, .inl (cA, 96, .inl f_this_letters)), (a_this_numbers, .inl (cA, 2, .inl q4.2.2))] := hD
        refine lv_iconst (v := 1) hx hb dX3_readsStatement_244 (by decide) ?_
        obtain rfl := Option.some.inj hf
        exact W.zret (v := 1) hx hb hr rfl (fun t ht hW => ⟨⟨1, (), rfl, rfl, rf_mk ht hP hD⟩, hS.F ht⟩) hS.2.2 dX3_readsStatement_245
      · have hf := rf_ifn hf c7
        refine lv_iconst (v := 0) hx hb dX3_readsStatement_232 (by decide) ?_
        obtain rfl := Option.some.inj hf
        exact W.zret (v := 0) hx hb hr rfl (fun t ht hW => ⟨⟨0, (), rfl, rfl, rf_mk ht hP hD⟩, hS.F ht⟩) hS.2.2 dX3_readsStatement_233
  · have hf := rf_ifn hf c3
    by_cases c9 : q1 = 104
    · have hf := rf_ifp hf c9
      refine rf_tabC (off := 179) (tgt := 197) hx hb dX3_readsStatement_18 c9 (by decide) (by decide) (by decide) (by decide) ?_
      refine lv_aload_n hx hb dX3_readsStatement_197 rfl (lv_at hl 2 rfl) ?_
      refine lv_iconst (v := 0) hx hb dX3_readsStatement_198 (by decide) ?_
      refine lv_iconst (v := 1) hx hb dX3_readsStatement_199 (by decide) ?_
      obtain ⟨q10, hq10, hf⟩ := rf_bindq hf
      refine rf_Vi (As := [.int 0, .int 1]) (rest := []) (wr := []) (wn := [(a_this, .inr (3, rf_o3 a_this_s a_this_image a_this_read a_this_mind a_this_letters a_this_row a_this_refused a_this_numbers a_this_cost q10.2.1)), (a_this_letters, .inl (cA, 96, .inl f_this_letters)), (a_this_numbers, .inl (cA, 2, .inl q10.2.2))]) ⟨hx, hb, hml, hown, hts⟩ hK hP hD hS hA hE (c_X3_readsNumber l D cA ad a_this a_this_s a_this_image a_this_read a_this_mind a_this_letters a_this_row a_this_refused a_this_numbers a_this_cost H.size (upd g_this 3 v2) f_this_letters f_this_numbers 0 1 q10 hq10) (cwV 2 hts gX3_readsStatement_X3_readsNumber rfl rfl rfl hv_X3_readsNumber ⟨Nat.le_of_ble_eq_true rfl, Nat.le_of_ble_eq_true rfl⟩) [0, 1, 2] [] [0, 1, 2] rfl rfl rfl rfl (by decide) rfl rfl 3 0 rfl rfl rfl rfl rfl hl.1 (Nat.le_of_ble_eq_true rfl) dX3_readsStatement_200 ⟨Nat.zero_le _, Nat.zero_le _⟩ (fun H locs hP hD hS => ?_)
      refine lv_istore_n (lv' := [(2, .int q10.1), (1, .int q1), (0, .ref a_this)]) hx hb dX3_readsStatement_203 rfl hl (by decide) rfl (fun ls hl => ?_)
      refine lv_goto (tgt := 219) hx hb dX3_readsStatement_204 (by decide) ?_
      refine lv_iload_n hx hb dX3_readsStatement_219 rfl (lv_at hl 0 rfl) ?_
      refine lv_if_eq (tgt := 232) hx hb dX3_readsStatement_220 (by decide) (fun c11 => ?_) (fun c11 => ?_)
      · have hf := rf_ifp hf c11
        refine lv_iconst (v := 0) hx hb dX3_readsStatement_232 (by decide) ?_
        obtain rfl := Option.some.inj hf
        exact W.zret (v := 0) hx hb hr rfl (fun t ht hW => ⟨⟨0, (), rfl, rfl, rf_mk ht hP hD⟩, hS.F ht⟩) hS.2.2 dX3_readsStatement_233
      · have hf := rf_ifn hf c11
        refine lv_aload_n hx hb dX3_readsStatement_223 rfl (lv_at hl 2 rfl) ?_
        obtain ⟨q12, hq12, hf⟩ := rf_bindq hf
        refine rf_Vi (As := []) (rest := []) (wr := [(a_this_numbers, .inl (cA, 2, .inl q10.2.2))]) (wn := [(a_this, .inr (3, rf_o3 a_this_s a_this_image a_this_read a_this_mind a_this_letters a_this_row a_this_refused a_this_numbers a_this_cost q10.2.1)), (a_this_letters, .inl (cA, 96, .inl f_this_letters)), (a_this_numbers, .inl (cA, 2, .inl q10.2.2))]) ⟨hx, hb, hml, hown, hts⟩ hK hP hD hS hA hE (c_X3_here l D cA ad a_this a_this_s a_this_image a_this_read a_this_mind a_this_letters a_this_row a_this_refused a_this_numbers a_this_cost H.size q10.2.1 f_this_letters q12 hq12) (cwV 0 hts gX3_readsStatement_X3_here rfl rfl rfl hv_X3_here ⟨Nat.le_of_ble_eq_true rfl, Nat.le_of_ble_eq_true rfl⟩) [0, 1] [2] [1, 2, 0] rfl rfl rfl rfl (by decide) rfl rfl 3 0 rfl rfl rfl rfl rfl hl.1 (Nat.le_of_ble_eq_true rfl) dX3_readsStatement_224 ⟨Nat.zero_le _, Nat.zero_le _⟩ (fun H locs hP hD hS => ?_)
        refine lv_bipush (v := 59) hx hb dX3_readsStatement_227 (by decide) ?_
        refine lv_icmp_eq (tgt := 234) hx hb dX3_readsStatement_229 (by decide) (fun c13 => ?_) (fun c13 => ?_)
        · have hf := rf_ifp hf c13
          refine lv_aload_n hx hb dX3_readsStatement_234 rfl (lv_at hl 2 rfl) ?_
          refine lv_dup hx hb dX3_readsStatement_235 rfl ?_
          refine va_get (D := D) (ci := 3) (v := .int (q10.2.1 3)) (C := RX3) (T := TX3) (N := 16) hx hb hts jX3_readsStatement_X3 hown hK hP 0 rfl rfl 10 (by decide) (hts _ kX3_readsStatement_0) (fun _ h9 => h9) rfl dX3_readsStatement_236 ?_
          refine lv_iconst (v := 1) hx hb dX3_readsStatement_239 (by decide) ?_
          refine lv_iadd hx hb dX3_readsStatement_240 ?_
          refine lv_topi (fun v14 ev14 => ?_)
          have hf := rf_bindv hf ev14
          clear ev14
          refine va_put (D := D) (ci := 3) (v := .int v14) (ty := .int) (C := RX3) (T := TX3) (N := 16) hx hb hts jX3_readsStatement_X3 tyX3 tyX3_ok nmX3 hown hK hP hD hS 0 rfl rfl 10 (by decide) (hts _ kX3_readsStatement_0) (fun _ h9 => h9) rfl (by decide +kernel) rfl rfl (Nat.le_of_ble_eq_true rfl) dX3_readsStatement_241 (fun H locs hP hD hS => ?_)
          have hP : va_P D vwCl [(a_this, .inr (3, rf_o3 a_this_s a_this_image a_this_read a_this_mind a_this_letters a_this_row a_this_refused a_this_numbers a_this_cost (upd q10.2.1 3 v14))), (a_this_letters, .inl (cA, 96, .inl f_this_letters)), (a_this_numbers, .inl (cA, 2, .inl q10.2.2))] H := hP
          have hD : va_D A [(a_this, .inr (3, rf_o3 a_this_s a_this_image a_this_read a_this_mind a_this_letters a_this_row a_this_refused a_this_numbers a_this_cost (upd q10.2.1 3 v14))), (a_this_letters, .inl (cA, 96, .inl f_this_letters)), (a_this_numbers, .inl (cA, 2, .inl q10.2.2))] := hD
          refine lv_iconst (v := 1) hx hb dX3_readsStatement_244 (by decide) ?_
          obtain rfl := Option.some.inj hf
          exact W.zret (v := 1) hx hb hr rfl (fun t ht hW => ⟨⟨1, (), rfl, rfl, rf_mk ht hP hD⟩, hS.F ht⟩) hS.2.2 dX3_readsStatement_245
        · have hf := rf_ifn hf c13
          refine lv_iconst (v := 0) hx hb dX3_readsStatement_232 (by decide) ?_
          obtain rfl := Option.some.inj hf
          exact W.zret (v := 0) hx hb hr rfl (fun t ht hW => ⟨⟨0, (), rfl, rfl, rf_mk ht hP hD⟩, hS.F ht⟩) hS.2.2 dX3_readsStatement_233
    · have hf := rf_ifn hf c9
      by_cases c15 : q1 = 112
      · have hf := rf_ifp hf c15
        refine rf_tabC (off := 98) (tgt := 116) hx hb dX3_readsStatement_18 c15 (by decide) (by decide) (by decide) (by decide) ?_
        refine lv_aload_n hx hb dX3_readsStatement_116 rfl (lv_at hl 2 rfl) ?_
        refine va_get (D := D) (ci := 3) (v := .ref a_this_numbers) (C := RX3) (T := TX3) (N := 16) hx hb hts jX3_readsStatement_X3 hown hK hP 0 rfl rfl 11 (by decide) (hts _ kX3_readsStatement_1) (fun _ h9 => h9) rfl dX3_readsStatement_117 ?_
        refine lv_iconst (v := 1) hx hb dX3_readsStatement_120 (by decide) ?_
        refine lv_aload_n hx hb dX3_readsStatement_121 rfl (lv_at hl 2 rfl) ?_
        obtain ⟨q16, hq16, hf⟩ := rf_bindq hf
        refine rf_Vi (As := []) (rest := [.int 1, .ref a_this_numbers]) (wr := [(a_this_numbers, .inl (cA, 2, .inl f_this_numbers))]) (wn := [(a_this, .inr (3, rf_o3 a_this_s a_this_image a_this_read a_this_mind a_this_letters a_this_row a_this_refused a_this_numbers a_this_cost (upd g_this 3 v2))), (a_this_letters, .inl (cA, 96, .inl f_this_letters)), (a_this_numbers, .inl (cA, 2, .inl f_this_numbers))]) ⟨hx, hb, hml, hown, hts⟩ hK hP hD hS hA hE (c_X3_here l D cA ad a_this a_this_s a_this_image a_this_read a_this_mind a_this_letters a_this_row a_this_refused a_this_numbers a_this_cost H.size (upd g_this 3 v2) f_this_letters q16 hq16) (cwV 0 hts gX3_readsStatement_X3_here rfl rfl rfl hv_X3_here ⟨Nat.le_of_ble_eq_true rfl, Nat.le_of_ble_eq_true rfl⟩) [0, 1] [2] [1, 2, 0] rfl rfl rfl rfl (by decide) rfl rfl 3 0 rfl rfl rfl rfl rfl hl.1 (Nat.le_of_ble_eq_true rfl) dX3_readsStatement_122 ⟨Nat.zero_le _, Nat.zero_le _⟩ (fun H locs hP hD hS => ?_)
        obtain ⟨q17, hq17, hf⟩ := rf_bindq hf
        refine rf_Si (As := [.int q16]) (rest := [.int 1, .ref a_this_numbers]) (wr := [(a_this, .inr (3, rf_o3 a_this_s a_this_image a_this_read a_this_mind a_this_letters a_this_row a_this_refused a_this_numbers a_this_cost (upd g_this 3 v2))), (a_this_letters, .inl (cA, 96, .inl f_this_letters)), (a_this_numbers, .inl (cA, 2, .inl f_this_numbers))]) (wn := [(a_this, .inr (3, rf_o3 a_this_s a_this_image a_this_read a_this_mind a_this_letters a_this_row a_this_refused a_this_numbers a_this_cost (upd g_this 3 v2))), (a_this_letters, .inl (cA, 96, .inl f_this_letters)), (a_this_numbers, .inl (cA, 2, .inl f_this_numbers))]) ⟨hx, hb, hml, hown, hts⟩ hK hP hD hS hA hE (c_X3_kindOf l D cA ad H.size q16 q17 hq17) (va_cwS 1 hts gX3_readsStatement_X3_kindOf rfl rfl rfl hs_X3_kindOf ⟨Nat.le_of_ble_eq_true rfl, Nat.le_of_ble_eq_true rfl⟩) [] [0, 1, 2] [0, 1, 2] rfl rfl rfl rfl (by decide) rfl rfl rfl rfl hl.1 (Nat.le_of_ble_eq_true rfl) dX3_readsStatement_125 ⟨Nat.zero_le _, Nat.zero_le _⟩ (fun H locs hP hD hS => ?_)
        refine rf_iastorek hx hb hK hP hD hS 2 0 rfl rfl (k := 1) (by decide) (by decide) (by decide) dX3_readsStatement_128 (fun H locs hP hD hS => ?_)
        have hP : va_P D vwCl [(a_this, .inr (3, rf_o3 a_this_s a_this_image a_this_read a_this_mind a_this_letters a_this_row a_this_refused a_this_numbers a_this_cost (upd g_this 3 v2))), (a_this_letters, .inl (cA, 96, .inl f_this_letters)), (a_this_numbers, .inl (cA, 2, .inl (upd f_this_numbers 1 q17)))] H := hP
        have hD : va_D A [(a_this, .inr (3, rf_o3 a_this_s a_this_image a_this_read a_this_mind a_this_letters a_this_row a_this_refused a_this_numbers a_this_cost (upd g_this 3 v2))), (a_this_letters, .inl (cA, 96, .inl f_this_letters)), (a_this_numbers, .inl (cA, 2, .inl (upd f_this_numbers 1 q17)))] := hD
        refine lv_aload_n hx hb dX3_readsStatement_129 rfl (lv_at hl 2 rfl) ?_
        refine va_get (D := D) (ci := 3) (v := .ref a_this_numbers) (C := RX3) (T := TX3) (N := 16) hx hb hts jX3_readsStatement_X3 hown hK hP 0 rfl rfl 11 (by decide) (hts _ kX3_readsStatement_1) (fun _ h9 => h9) rfl dX3_readsStatement_130 ?_
        refine lv_iconst (v := 1) hx hb dX3_readsStatement_133 (by decide) ?_
        refine rf_ialoadk hx hb hK hP 2 0 rfl rfl (k := 1) (by decide) (by decide) (by decide) dX3_readsStatement_134 ?_
        refine lv_if_ge (tgt := 140) hx hb dX3_readsStatement_135 (by decide) (fun c18 => ?_) (fun c18 => ?_)
        · have hf := rf_ifp hf c18
          refine lv_aload_n hx hb dX3_readsStatement_140 rfl (lv_at hl 2 rfl) ?_
          refine lv_dup hx hb dX3_readsStatement_141 rfl ?_
          refine va_get (D := D) (ci := 3) (v := .int v2) (C := RX3) (T := TX3) (N := 16) hx hb hts jX3_readsStatement_X3 hown hK hP 0 rfl rfl 10 (by decide) (hts _ kX3_readsStatement_0) (fun _ h9 => h9) rfl dX3_readsStatement_142 ?_
          refine lv_iconst (v := 1) hx hb dX3_readsStatement_145 (by decide) ?_
          refine lv_iadd hx hb dX3_readsStatement_146 ?_
          refine lv_topi (fun v19 ev19 => ?_)
          have hf := rf_bindv hf ev19
          clear ev19
          refine va_put (D := D) (ci := 3) (v := .int v19) (ty := .int) (C := RX3) (T := TX3) (N := 16) hx hb hts jX3_readsStatement_X3 tyX3 tyX3_ok nmX3 hown hK hP hD hS 0 rfl rfl 10 (by decide) (hts _ kX3_readsStatement_0) (fun _ h9 => h9) rfl (by decide +kernel) rfl rfl (Nat.le_of_ble_eq_true rfl) dX3_readsStatement_147 (fun H locs hP hD hS => ?_)
          have hP : va_P D vwCl [(a_this, .inr (3, rf_o3 a_this_s a_this_image a_this_read a_this_mind a_this_letters a_this_row a_this_refused a_this_numbers a_this_cost (upd (upd g_this 3 v2) 3 v19))), (a_this_letters, .inl (cA, 96, .inl f_this_letters)), (a_this_numbers, .inl (cA, 2, .inl (upd f_this_numbers 1 q17)))] H := hP
          have hD : va_D A [(a_this, .inr (3, rf_o3 a_this_s a_this_image a_this_read a_this_mind a_this_letters a_this_row a_this_refused a_this_numbers a_this_cost (upd (upd g_this 3 v2) 3 v19))), (a_this_letters, .inl (cA, 96, .inl f_this_letters)), (a_this_numbers, .inl (cA, 2, .inl (upd f_this_numbers 1 q17)))] := hD
          refine lv_aload_n hx hb dX3_readsStatement_150 rfl (lv_at hl 2 rfl) ?_
          refine lv_iconst (v := 0) hx hb dX3_readsStatement_151 (by decide) ?_
          refine lv_iconst (v := 3) hx hb dX3_readsStatement_152 (by decide) ?_
          obtain ⟨q20, hq20, hf⟩ := rf_bindq hf
          refine rf_Vi (As := [.int 0, .int 3]) (rest := []) (wr := []) (wn := [(a_this, .inr (3, rf_o3 a_this_s a_this_image a_this_read a_this_mind a_this_letters a_this_row a_this_refused a_this_numbers a_this_cost q20.2.1)), (a_this_letters, .inl (cA, 96, .inl f_this_letters)), (a_this_numbers, .inl (cA, 2, .inl q20.2.2))]) ⟨hx, hb, hml, hown, hts⟩ hK hP hD hS hA hE (c_X3_readsNumber l D cA ad a_this a_this_s a_this_image a_this_read a_this_mind a_this_letters a_this_row a_this_refused a_this_numbers a_this_cost H.size (upd (upd g_this 3 v2) 3 v19) f_this_letters (upd f_this_numbers 1 q17) 0 3 q20 hq20) (cwV 2 hts gX3_readsStatement_X3_readsNumber rfl rfl rfl hv_X3_readsNumber ⟨Nat.le_of_ble_eq_true rfl, Nat.le_of_ble_eq_true rfl⟩) [0, 1, 2] [] [0, 1, 2] rfl rfl rfl rfl (by decide) rfl rfl 3 0 rfl rfl rfl rfl rfl hl.1 (Nat.le_of_ble_eq_true rfl) dX3_readsStatement_153 ⟨Nat.zero_le _, Nat.zero_le _⟩ (fun H locs hP hD hS => ?_)
          refine lv_istore_n (lv' := [(2, .int q20.1), (1, .int q1), (0, .ref a_this)]) hx hb dX3_readsStatement_156 rfl hl (by decide) rfl (fun ls hl => ?_)
          refine lv_goto (tgt := 219) hx hb dX3_readsStatement_157 (by decide) ?_
          refine lv_iload_n hx hb dX3_readsStatement_219 rfl (lv_at hl 0 rfl) ?_
          refine lv_if_eq (tgt := 232) hx hb dX3_readsStatement_220 (by decide) (fun c21 => ?_) (fun c21 => ?_)
          · have hf := rf_ifp hf c21
            refine lv_iconst (v := 0) hx hb dX3_readsStatement_232 (by decide) ?_
            obtain rfl := Option.some.inj hf
            exact W.zret (v := 0) hx hb hr rfl (fun t ht hW => ⟨⟨0, (), rfl, rfl, rf_mk ht hP hD⟩, hS.F ht⟩) hS.2.2 dX3_readsStatement_233
          · have hf := rf_ifn hf c21
            refine lv_aload_n hx hb dX3_readsStatement_223 rfl (lv_at hl 2 rfl) ?_
            obtain ⟨q22, hq22, hf⟩ := rf_bindq hf
            refine rf_Vi (As := []) (rest := []) (wr := [(a_this_numbers, .inl (cA, 2, .inl q20.2.2))]) (wn := [(a_this, .inr (3, rf_o3 a_this_s a_this_image a_this_read a_this_mind a_this_letters a_this_row a_this_refused a_this_numbers a_this_cost q20.2.1)), (a_this_letters, .inl (cA, 96, .inl f_this_letters)), (a_this_numbers, .inl (cA, 2, .inl q20.2.2))]) ⟨hx, hb, hml, hown, hts⟩ hK hP hD hS hA hE (c_X3_here l D cA ad a_this a_this_s a_this_image a_this_read a_this_mind a_this_letters a_this_row a_this_refused a_this_numbers a_this_cost H.size q20.2.1 f_this_letters q22 hq22) (cwV 0 hts gX3_readsStatement_X3_here rfl rfl rfl hv_X3_here ⟨Nat.le_of_ble_eq_true rfl, Nat.le_of_ble_eq_true rfl⟩) [0, 1] [2] [1, 2, 0] rfl rfl rfl rfl (by decide) rfl rfl 3 0 rfl rfl rfl rfl rfl hl.1 (Nat.le_of_ble_eq_true rfl) dX3_readsStatement_224 ⟨Nat.zero_le _, Nat.zero_le _⟩ (fun H locs hP hD hS => ?_)
            refine lv_bipush (v := 59) hx hb dX3_readsStatement_227 (by decide) ?_
            refine lv_icmp_eq (tgt := 234) hx hb dX3_readsStatement_229 (by decide) (fun c23 => ?_) (fun c23 => ?_)
            · have hf := rf_ifp hf c23
              refine lv_aload_n hx hb dX3_readsStatement_234 rfl (lv_at hl 2 rfl) ?_
              refine lv_dup hx hb dX3_readsStatement_235 rfl ?_
              refine va_get (D := D) (ci := 3) (v := .int (q20.2.1 3)) (C := RX3) (T := TX3) (N := 16) hx hb hts jX3_readsStatement_X3 hown hK hP 0 rfl rfl 10 (by decide) (hts _ kX3_readsStatement_0) (fun _ h9 => h9) rfl dX3_readsStatement_236 ?_
              refine lv_iconst (v := 1) hx hb dX3_readsStatement_239 (by decide) ?_
              refine lv_iadd hx hb dX3_readsStatement_240 ?_
              refine lv_topi (fun v24 ev24 => ?_)
              have hf := rf_bindv hf ev24
              clear ev24
              refine va_put (D := D) (ci := 3) (v := .int v24) (ty := .int) (C := RX3) (T := TX3) (N := 16) hx hb hts jX3_readsStatement_X3 tyX3 tyX3_ok nmX3 hown hK hP hD hS 0 rfl rfl 10 (by decide) (hts _ kX3_readsStatement_0) (fun _ h9 => h9) rfl (by decide +kernel) rfl rfl (Nat.le_of_ble_eq_true rfl) dX3_readsStatement_241 (fun H locs hP hD hS => ?_)
              have hP : va_P D vwCl [(a_this, .inr (3, rf_o3 a_this_s a_this_image a_this_read a_this_mind a_this_letters a_this_row a_this_refused a_this_numbers a_this_cost (upd q20.2.1 3 v24))), (a_this_letters, .inl (cA, 96, .inl f_this_letters)), (a_this_numbers, .inl (cA, 2, .inl q20.2.2))] H := hP
              have hD : va_D A [(a_this, .inr (3, rf_o3 a_this_s a_this_image a_this_read a_this_mind a_this_letters a_this_row a_this_refused a_this_numbers a_this_cost (upd q20.2.1 3 v24))), (a_this_letters, .inl (cA, 96, .inl f_this_letters)), (a_this_numbers, .inl (cA, 2, .inl q20.2.2))] := hD
              refine lv_iconst (v := 1) hx hb dX3_readsStatement_244 (by decide) ?_
              obtain rfl := Option.some.inj hf
              exact W.zret (v := 1) hx hb hr rfl (fun t ht hW => ⟨⟨1, (), rfl, rfl, rf_mk ht hP hD⟩, hS.F ht⟩) hS.2.2 dX3_readsStatement_245
            · have hf := rf_ifn hf c23
              refine lv_iconst (v := 0) hx hb dX3_readsStatement_232 (by decide) ?_
              obtain rfl := Option.some.inj hf
              exact W.zret (v := 0) hx hb hr rfl (fun t ht hW => ⟨⟨0, (), rfl, rfl, rf_mk ht hP hD⟩, hS.F ht⟩) hS.2.2 dX3_readsStatement_233
        · have hf := rf_ifn hf c18
          refine lv_iconst (v := 0) hx hb dX3_readsStatement_138 (by decide) ?_
          obtain rfl := Option.some.inj hf
          exact W.zret (v := 0) hx hb hr rfl (fun t ht hW => ⟨⟨0, (), rfl, rfl, rf_mk ht hP hD⟩, hS.F ht⟩) hS.2.2 dX3_readsStatement_139
      · have hf := rf_ifn hf c15
        by_cases c25 : q1 = 114
        · have hf := rf_ifp hf c25
          refine rf_tabC (off := 142) (tgt := 160) hx hb dX3_readsStatement_18 c25 (by decide) (by decide) (by decide) (by decide) ?_
          refine lv_aload_n hx hb dX3_readsStatement_160 rfl (lv_at hl 2 rfl) ?_
          refine lv_iconst (v := 0) hx hb dX3_readsStatement_161 (by decide) ?_
          refine lv_iconst (v := 3) hx hb dX3_readsStatement_162 (by decide) ?_
          obtain ⟨q26, hq26, hf⟩ := rf_bindq hf
          refine rf_Vi (As := [.int 0, .int 3]) (rest := []) (wr := []) (wn := [(a_this, .inr (3, rf_o3 a_this_s a_this_image a_this_read a_this_mind a_this_letters a_this_row a_this_refused a_this_numbers a_this_cost q26.2.1)), (a_this_letters, .inl (cA, 96, .inl f_this_letters)), (a_this_numbers, .inl (cA, 2, .inl q26.2.2))]) ⟨hx, hb, hml, hown, hts⟩ hK hP hD hS hA hE (c_X3_readsNumber l D cA ad a_this a_this_s a_this_image a_this_read a_this_mind a_this_letters a_this_row a_this_refused a_this_numbers a_this_cost H.size (upd g_this 3 v2) f_this_letters f_this_numbers 0 3 q26 hq26) (cwV 2 hts gX3_readsStatement_X3_readsNumber rfl rfl rfl hv_X3_readsNumber ⟨Nat.le_of_ble_eq_true rfl, Nat.le_of_ble_eq_true rfl⟩) [0, 1, 2] [] [0, 1, 2] rfl rfl rfl rfl (by decide) rfl rfl 3 0 rfl rfl rfl rfl rfl hl.1 (Nat.le_of_ble_eq_true rfl) dX3_readsStatement_163 ⟨Nat.zero_le _, Nat.zero_le _⟩ (fun H locs hP hD hS => ?_)
          refine lv_if_eq (tgt := 182) hx hb dX3_readsStatement_166 (by decide) (fun c27 => ?_) (fun c27 => ?_)
          · have hf := rf_ifp hf c27
            refine lv_iconst (v := 0) hx hb dX3_readsStatement_182 (by decide) ?_
            refine lv_istore_n (lv' := [(2, .int 0), (1, .int q1), (0, .ref a_this)]) hx hb dX3_readsStatement_183 rfl hl (by decide) rfl (fun ls hl => ?_)
            refine lv_goto (tgt := 219) hx hb dX3_readsStatement_184 (by decide) ?_
            refine lv_iload_n hx hb dX3_readsStatement_219 rfl (lv_at hl 0 rfl) ?_
            refine lv_if_eq (tgt := 232) hx hb dX3_readsStatement_220 (by decide) (fun c28 => ?_) (fun c28 => ?_)
            · refine lv_iconst (v := 0) hx hb dX3_readsStatement_232 (by decide) ?_
              obtain rfl := Option.some.inj hf
              exact W.zret (v := 0) hx hb hr rfl (fun t ht hW => ⟨⟨0, (), rfl, rfl, rf_mk ht hP hD⟩, hS.F ht⟩) hS.2.2 dX3_readsStatement_233
            · exact absurd c28 (by decide)
          · have hf := rf_ifn hf c27
            refine lv_aload_n hx hb dX3_readsStatement_169 rfl (lv_at hl 2 rfl) ?_
            refine lv_iconst (v := 1) hx hb dX3_readsStatement_170 (by decide) ?_
            refine lv_iconst (v := 1) hx hb dX3_readsStatement_171 (by decide) ?_
            obtain ⟨q29, hq29, hf⟩ := rf_bindq hf
            refine rf_Vi (As := [.int 1, .int 1]) (rest := []) (wr := []) (wn := [(a_this, .inr (3, rf_o3 a_this_s a_this_image a_this_read a_this_mind a_this_letters a_this_row a_this_refused a_this_numbers a_this_cost q29.2.1)), (a_this_letters, .inl (cA, 96, .inl f_this_letters)), (a_this_numbers, .inl (cA, 2, .inl q29.2.2))]) ⟨hx, hb, hml, hown, hts⟩ hK hP hD hS hA hE (c_X3_readsNumber l D cA ad a_this a_this_s a_this_image a_this_read a_this_mind a_this_letters a_this_row a_this_refused a_this_numbers a_this_cost H.size q26.2.1 f_this_letters q26.2.2 1 1 q29 hq29) (cwV 2 hts gX3_readsStatement_X3_readsNumber rfl rfl rfl hv_X3_readsNumber ⟨Nat.le_of_ble_eq_true rfl, Nat.le_of_ble_eq_true rfl⟩) [0, 1, 2] [] [0, 1, 2] rfl rfl rfl rfl (by decide) rfl rfl 3 0 rfl rfl rfl rfl rfl hl.1 (Nat.le_of_ble_eq_true rfl) dX3_readsStatement_172 ⟨Nat.zero_le _, Nat.zero_le _⟩ (fun H locs hP hD hS => ?_)
            refine lv_if_eq (tgt := 182) hx hb dX3_readsStatement_175 (by decide) (fun c30 => ?_) (fun c30 => ?_)
            · have hf := rf_ifp hf c30
              refine lv_iconst (v := 0) hx hb dX3_readsStatement_182 (by decide) ?_
              refine lv_istore_n (lv' := [(2, .int 0), (1, .int q1), (0, .ref a_this)]) hx hb dX3_readsStatement_183 rfl hl (by decide) rfl (fun ls hl => ?_)
              refine lv_goto (tgt := 219) hx hb dX3_readsStatement_184 (by decide) ?_
              refine lv_iload_n hx hb dX3_readsStatement_219 rfl (lv_at hl 0 rfl) ?_
              refine lv_if_eq (tgt := 232) hx hb dX3_readsStatement_220 (by decide) (fun c31 => ?_) (fun c31 => ?_)
              · refine lv_iconst (v := 0) hx hb dX3_readsStatement_232 (by decide) ?_
                obtain rfl := Option.some.inj hf
                exact W.zret (v := 0) hx hb hr rfl (fun t ht hW => ⟨⟨0, (), rfl, rfl, rf_mk ht hP hD⟩, hS.F ht⟩) hS.2.2 dX3_readsStatement_233
              · exact absurd c31 (by decide)
            · have hf := rf_ifn hf c30
              refine lv_iconst (v := 1) hx hb dX3_readsStatement_178 (by decide) ?_
              refine lv_goto (tgt := 183) hx hb dX3_readsStatement_179 (by decide) ?_
              refine lv_istore_n (lv' := [(2, .int 1), (1, .int q1), (0, .ref a_this)]) hx hb dX3_readsStatement_183 rfl hl (by decide) rfl (fun ls hl => ?_)
              refine lv_goto (tgt := 219) hx hb dX3_readsStatement_184 (by decide) ?_
              refine lv_iload_n hx hb dX3_readsStatement_219 rfl (lv_at hl 0 rfl) ?_
              refine lv_if_eq (tgt := 232) hx hb dX3_readsStatement_220 (by decide) (fun c32 => ?_) (fun c32 => ?_)
              · exact absurd c32 (by decide)
              · refine lv_aload_n hx hb dX3_readsStatement_223 rfl (lv_at hl 2 rfl) ?_
                obtain ⟨q33, hq33, hf⟩ := rf_bindq hf
                refine rf_Vi (As := []) (rest := []) (wr := [(a_this_numbers, .inl (cA, 2, .inl q29.2.2))]) (wn := [(a_this, .inr (3, rf_o3 a_this_s a_this_image a_this_read a_this_mind a_this_letters a_this_row a_this_refused a_this_numbers a_this_cost q29.2.1)), (a_this_letters, .inl (cA, 96, .inl f_this_letters)), (a_this_numbers, .inl (cA, 2, .inl q29.2.2))]) ⟨hx, hb, hml, hown, hts⟩ hK hP hD hS hA hE (c_X3_here l D cA ad a_this a_this_s a_this_image a_this_read a_this_mind a_this_letters a_this_row a_this_refused a_this_numbers a_this_cost H.size q29.2.1 f_this_letters q33 hq33) (cwV 0 hts gX3_readsStatement_X3_here rfl rfl rfl hv_X3_here ⟨Nat.le_of_ble_eq_true rfl, Nat.le_of_ble_eq_true rfl⟩) [0, 1] [2] [1, 2, 0] rfl rfl rfl rfl (by decide) rfl rfl 3 0 rfl rfl rfl rfl rfl hl.1 (Nat.le_of_ble_eq_true rfl) dX3_readsStatement_224 ⟨Nat.zero_le _, Nat.zero_le _⟩ (fun H locs hP hD hS => ?_)
                refine lv_bipush (v := 59) hx hb dX3_readsStatement_227 (by decide) ?_
                refine lv_icmp_eq (tgt := 234) hx hb dX3_readsStatement_229 (by decide) (fun c34 => ?_) (fun c34 => ?_)
                · have hf := rf_ifp hf c34
                  refine lv_aload_n hx hb dX3_readsStatement_234 rfl (lv_at hl 2 rfl) ?_
                  refine lv_dup hx hb dX3_readsStatement_235 rfl ?_
                  refine va_get (D := D) (ci := 3) (v := .int (q29.2.1 3)) (C := RX3) (T := TX3) (N := 16) hx hb hts jX3_readsStatement_X3 hown hK hP 0 rfl rfl 10 (by decide) (hts _ kX3_readsStatement_0) (fun _ h9 => h9) rfl dX3_readsStatement_236 ?_
                  refine lv_iconst (v := 1) hx hb dX3_readsStatement_239 (by decide) ?_
                  refine lv_iadd hx hb dX3_readsStatement_240 ?_
                  refine lv_topi (fun v35 ev35 => ?_)
                  have hf := rf_bindv hf ev35
                  clear ev35
                  refine va_put (D := D) (ci := 3) (v := .int v35) (ty := .int) (C := RX3) (T := TX3) (N := 16) hx hb hts jX3_readsStatement_X3 tyX3 tyX3_ok nmX3 hown hK hP hD hS 0 rfl rfl 10 (by decide) (hts _ kX3_readsStatement_0) (fun _ h9 => h9) rfl (by decide +kernel) rfl rfl (Nat.le_of_ble_eq_true rfl) dX3_readsStatement_241 (fun H locs hP hD hS => ?_)
                  have hP : va_P D vwCl [(a_this, .inr (3, rf_o3 a_this_s a_this_image a_this_read a_this_mind a_this_letters a_this_row a_this_refused a_this_numbers a_this_cost (upd q29.2.1 3 v35))), (a_this_letters, .inl (cA, 96, .inl f_this_letters)), (a_this_numbers, .inl (cA, 2, .inl q29.2.2))] H := hP
                  have hD : va_D A [(a_this, .inr (3, rf_o3 a_this_s a_this_image a_this_read a_this_mind a_this_letters a_this_row a_this_refused a_this_numbers a_this_cost (upd q29.2.1 3 v35))), (a_this_letters, .inl (cA, 96, .inl f_this_letters)), (a_this_numbers, .inl (cA, 2, .inl q29.2.2))] := hD
                  refine lv_iconst (v := 1) hx hb dX3_readsStatement_244 (by decide) ?_
                  obtain rfl := Option.some.inj hf
                  exact W.zret (v := 1) hx hb hr rfl (fun t ht hW => ⟨⟨1, (), rfl, rfl, rf_mk ht hP hD⟩, hS.F ht⟩) hS.2.2 dX3_readsStatement_245
                · have hf := rf_ifn hf c34
                  refine lv_iconst (v := 0) hx hb dX3_readsStatement_232 (by decide) ?_
                  obtain rfl := Option.some.inj hf
                  exact W.zret (v := 0) hx hb hr rfl (fun t ht hW => ⟨⟨0, (), rfl, rfl, rf_mk ht hP hD⟩, hS.F ht⟩) hS.2.2 dX3_readsStatement_233
        · have hf := rf_ifn hf c25
          by_cases c36 : q1 = 115
          · have hf := rf_ifp hf c36
            refine rf_tabC (off := 169) (tgt := 187) hx hb dX3_readsStatement_18 c36 (by decide) (by decide) (by decide) (by decide) ?_
            refine lv_aload_n hx hb dX3_readsStatement_187 rfl (lv_at hl 2 rfl) ?_
            refine lv_iconst (v := 0) hx hb dX3_readsStatement_188 (by decide) ?_
            refine lv_iconst (v := 2) hx hb dX3_readsStatement_189 (by decide) ?_
            obtain ⟨q37, hq37, hf⟩ := rf_bindq hf
            refine rf_Vi (As := [.int 0, .int 2]) (rest := []) (wr := []) (wn := [(a_this, .inr (3, rf_o3 a_this_s a_this_image a_this_read a_this_mind a_this_letters a_this_row a_this_refused a_this_numbers a_this_cost q37.2.1)), (a_this_letters, .inl (cA, 96, .inl f_this_letters)), (a_this_numbers, .inl (cA, 2, .inl q37.2.2))]) ⟨hx, hb, hml, hown, hts⟩ hK hP hD hS hA hE (c_X3_readsNumber l D cA ad a_this a_this_s a_this_image a_this_read a_this_mind a_this_letters a_this_row a_this_refused a_this_numbers a_this_cost H.size (upd g_this 3 v2) f_this_letters f_this_numbers 0 2 q37 hq37) (cwV 2 hts gX3_readsStatement_X3_readsNumber rfl rfl rfl hv_X3_readsNumber ⟨Nat.le_of_ble_eq_true rfl, Nat.le_of_ble_eq_true rfl⟩) [0, 1, 2] [] [0, 1, 2] rfl rfl rfl rfl (by decide) rfl rfl 3 0 rfl rfl rfl rfl rfl hl.1 (Nat.le_of_ble_eq_true rfl) dX3_readsStatement_190 ⟨Nat.zero_le _, Nat.zero_le _⟩ (fun H locs hP hD hS => ?_)
            refine lv_istore_n (lv' := [(2, .int q37.1), (1, .int q1), (0, .ref a_this)]) hx hb dX3_readsStatement_193 rfl hl (by decide) rfl (fun ls hl => ?_)
            refine lv_goto (tgt := 219) hx hb dX3_readsStatement_194 (by decide) ?_
            refine lv_iload_n hx hb dX3_readsStatement_219 rfl (lv_at hl 0 rfl) ?_
            refine lv_if_eq (tgt := 232) hx hb dX3_readsStatement_220 (by decide) (fun c38 => ?_) (fun c38 => ?_)
            · have hf := rf_ifp hf c38
              refine lv_iconst (v := 0) hx hb dX3_readsStatement_232 (by decide) ?_
              obtain rfl := Option.some.inj hf
              exact W.zret (v := 0) hx hb hr rfl (fun t ht hW => ⟨⟨0, (), rfl, rfl, rf_mk ht hP hD⟩, hS.F ht⟩) hS.2.2 dX3_readsStatement_233
            · have hf := rf_ifn hf c38
              refine lv_aload_n hx hb dX3_readsStatement_223 rfl (lv_at hl 2 rfl) ?_
              obtain ⟨q39, hq39, hf⟩ := rf_bindq hf
              refine rf_Vi (As := []) (rest := []) (wr := [(a_this_numbers, .inl (cA, 2, .inl q37.2.2))]) (wn := [(a_this, .inr (3, rf_o3 a_this_s a_this_image a_this_read a_this_mind a_this_letters a_this_row a_this_refused a_this_numbers a_this_cost q37.2.1)), (a_this_letters, .inl (cA, 96, .inl f_this_letters)), (a_this_numbers, .inl (cA, 2, .inl q37.2.2))]) ⟨hx, hb, hml, hown, hts⟩ hK hP hD hS hA hE (c_X3_here l D cA ad a_this a_this_s a_this_image a_this_read a_this_mind a_this_letters a_this_row a_this_refused a_this_numbers a_this_cost H.size q37.2.1 f_this_letters q39 hq39) (cwV 0 hts gX3_readsStatement_X3_here rfl rfl rfl hv_X3_here ⟨Nat.le_of_ble_eq_true rfl, Nat.le_of_ble_eq_true rfl⟩) [0, 1] [2] [1, 2, 0] rfl rfl rfl rfl (by decide) rfl rfl 3 0 rfl rfl rfl rfl rfl hl.1 (Nat.le_of_ble_eq_true rfl) dX3_readsStatement_224 ⟨Nat.zero_le _, Nat.zero_le _⟩ (fun H locs hP hD hS => ?_)
              refine lv_bipush (v := 59) hx hb dX3_readsStatement_227 (by decide) ?_
              refine lv_icmp_eq (tgt := 234) hx hb dX3_readsStatement_229 (by decide) (fun c40 => ?_) (fun c40 => ?_)
              · have hf := rf_ifp hf c40
                refine lv_aload_n hx hb dX3_readsStatement_234 rfl (lv_at hl 2 rfl) ?_
                refine lv_dup hx hb dX3_readsStatement_235 rfl ?_
                refine va_get (D := D) (ci := 3) (v := .int (q37.2.1 3)) (C := RX3) (T := TX3) (N := 16) hx hb hts jX3_readsStatement_X3 hown hK hP 0 rfl rfl 10 (by decide) (hts _ kX3_readsStatement_0) (fun _ h9 => h9) rfl dX3_readsStatement_236 ?_
                refine lv_iconst (v := 1) hx hb dX3_readsStatement_239 (by decide) ?_
                refine lv_iadd hx hb dX3_readsStatement_240 ?_
                refine lv_topi (fun v41 ev41 => ?_)
                have hf := rf_bindv hf ev41
                clear ev41
                refine va_put (D := D) (ci := 3) (v := .int v41) (ty := .int) (C := RX3) (T := TX3) (N := 16) hx hb hts jX3_readsStatement_X3 tyX3 tyX3_ok nmX3 hown hK hP hD hS 0 rfl rfl 10 (by decide) (hts _ kX3_readsStatement_0) (fun _ h9 => h9) rfl (by decide +kernel) rfl rfl (Nat.le_of_ble_eq_true rfl) dX3_readsStatement_241 (fun H locs hP hD hS => ?_)
                have hP : va_P D vwCl [(a_this, .inr (3, rf_o3 a_this_s a_this_image a_this_read a_this_mind a_this_letters a_this_row a_this_refused a_this_numbers a_this_cost (upd q37.2.1 3 v41))), (a_this_letters, .inl (cA, 96, .inl f_this_letters)), (a_this_numbers, .inl (cA, 2, .inl q37.2.2))] H := hP
                have hD : va_D A [(a_this, .inr (3, rf_o3 a_this_s a_this_image a_this_read a_this_mind a_this_letters a_this_row a_this_refused a_this_numbers a_this_cost (upd q37.2.1 3 v41))), (a_this_letters, .inl (cA, 96, .inl f_this_letters)), (a_this_numbers, .inl (cA, 2, .inl q37.2.2))] := hD
                refine lv_iconst (v := 1) hx hb dX3_readsStatement_244 (by decide) ?_
                obtain rfl := Option.some.inj hf
                exact W.zret (v := 1) hx hb hr rfl (fun t ht hW => ⟨⟨1, (), rfl, rfl, rf_mk ht hP hD⟩, hS.F ht⟩) hS.2.2 dX3_readsStatement_245
              · have hf := rf_ifn hf c40
                refine lv_iconst (v := 0) hx hb dX3_readsStatement_232 (by decide) ?_
                obtain rfl := Option.some.inj hf
                exact W.zret (v := 0) hx hb hr rfl (fun t ht hW => ⟨⟨0, (), rfl, rfl, rf_mk ht hP hD⟩, hS.F ht⟩) hS.2.2 dX3_readsStatement_233
          · have hf := rf_ifn hf c36
            by_cases c42 : q1 = 116
            · have hf := rf_ifp hf c42
              refine rf_tabC (off := 179) (tgt := 197) hx hb dX3_readsStatement_18 c42 (by decide) (by decide) (by decide) (by decide) ?_
              refine lv_aload_n hx hb dX3_readsStatement_197 rfl (lv_at hl 2 rfl) ?_
              refine lv_iconst (v := 0) hx hb dX3_readsStatement_198 (by decide) ?_
              refine lv_iconst (v := 1) hx hb dX3_readsStatement_199 (by decide) ?_
              obtain ⟨q43, hq43, hf⟩ := rf_bindq hf
              refine rf_Vi (As := [.int 0, .int 1]) (rest := []) (wr := []) (wn := [(a_this, .inr (3, rf_o3 a_this_s a_this_image a_this_read a_this_mind a_this_letters a_this_row a_this_refused a_this_numbers a_this_cost q43.2.1)), (a_this_letters, .inl (cA, 96, .inl f_this_letters)), (a_this_numbers, .inl (cA, 2, .inl q43.2.2))]) ⟨hx, hb, hml, hown, hts⟩ hK hP hD hS hA hE (c_X3_readsNumber l D cA ad a_this a_this_s a_this_image a_this_read a_this_mind a_this_letters a_this_row a_this_refused a_this_numbers a_this_cost H.size (upd g_this 3 v2) f_this_letters f_this_numbers 0 1 q43 hq43) (cwV 2 hts gX3_readsStatement_X3_readsNumber rfl rfl rfl hv_X3_readsNumber ⟨Nat.le_of_ble_eq_true rfl, Nat.le_of_ble_eq_true rfl⟩) [0, 1, 2] [] [0, 1, 2] rfl rfl rfl rfl (by decide) rfl rfl 3 0 rfl rfl rfl rfl rfl hl.1 (Nat.le_of_ble_eq_true rfl) dX3_readsStatement_200 ⟨Nat.zero_le _, Nat.zero_le _⟩ (fun H locs hP hD hS => ?_)
              refine lv_istore_n (lv' := [(2, .int q43.1), (1, .int q1), (0, .ref a_this)]) hx hb dX3_readsStatement_203 rfl hl (by decide) rfl (fun ls hl => ?_)
              refine lv_goto (tgt := 219) hx hb dX3_readsStatement_204 (by decide) ?_
              refine lv_iload_n hx hb dX3_readsStatement_219 rfl (lv_at hl 0 rfl) ?_
              refine lv_if_eq (tgt := 232) hx hb dX3_readsStatement_220 (by decide) (fun c44 => ?_) (fun c44 => ?_)
              · have hf := rf_ifp hf c44
                refine lv_iconst (v := 0) hx hb dX3_readsStatement_232 (by decide) ?_
                obtain rfl := Option.some.inj hf
                exact W.zret (v := 0) hx hb hr rfl (fun t ht hW => ⟨⟨0, (), rfl, rfl, rf_mk ht hP hD⟩, hS.F ht⟩) hS.2.2 dX3_readsStatement_233
              · have hf := rf_ifn hf c44
                refine lv_aload_n hx hb dX3_readsStatement_223 rfl (lv_at hl 2 rfl) ?_
                obtain ⟨q45, hq45, hf⟩ := rf_bindq hf
                refine rf_Vi (As := []) (rest := []) (wr := [(a_this_numbers, .inl (cA, 2, .inl q43.2.2))]) (wn := [(a_this, .inr (3, rf_o3 a_this_s a_this_image a_this_read a_this_mind a_this_letters a_this_row a_this_refused a_this_numbers a_this_cost q43.2.1)), (a_this_letters, .inl (cA, 96, .inl f_this_letters)), (a_this_numbers, .inl (cA, 2, .inl q43.2.2))]) ⟨hx, hb, hml, hown, hts⟩ hK hP hD hS hA hE (c_X3_here l D cA ad a_this a_this_s a_this_image a_this_read a_this_mind a_this_letters a_this_row a_this_refused a_this_numbers a_this_cost H.size q43.2.1 f_this_letters q45 hq45) (cwV 0 hts gX3_readsStatement_X3_here rfl rfl rfl hv_X3_here ⟨Nat.le_of_ble_eq_true rfl, Nat.le_of_ble_eq_true rfl⟩) [0, 1] [2] [1, 2, 0] rfl rfl rfl rfl (by decide) rfl rfl 3 0 rfl rfl rfl rfl rfl hl.1 (Nat.le_of_ble_eq_true rfl) dX3_readsStatement_224 ⟨Nat.zero_le _, Nat.zero_le _⟩ (fun H locs hP hD hS => ?_)
                refine lv_bipush (v := 59) hx hb dX3_readsStatement_227 (by decide) ?_
                refine lv_icmp_eq (tgt := 234) hx hb dX3_readsStatement_229 (by decide) (fun c46 => ?_) (fun c46 => ?_)
                · have hf := rf_ifp hf c46
                  refine lv_aload_n hx hb dX3_readsStatement_234 rfl (lv_at hl 2 rfl) ?_
                  refine lv_dup hx hb dX3_readsStatement_235 rfl ?_
                  refine va_get (D := D) (ci := 3) (v := .int (q43.2.1 3)) (C := RX3) (T := TX3) (N := 16) hx hb hts jX3_readsStatement_X3 hown hK hP 0 rfl rfl 10 (by decide) (hts _ kX3_readsStatement_0) (fun _ h9 => h9) rfl dX3_readsStatement_236 ?_
                  refine lv_iconst (v := 1) hx hb dX3_readsStatement_239 (by decide) ?_
                  refine lv_iadd hx hb dX3_readsStatement_240 ?_
                  refine lv_topi (fun v47 ev47 => ?_)
                  have hf := rf_bindv hf ev47
                  clear ev47
                  refine va_put (D := D) (ci := 3) (v := .int v47) (ty := .int) (C := RX3) (T := TX3) (N := 16) hx hb hts jX3_readsStatement_X3 tyX3 tyX3_ok nmX3 hown hK hP hD hS 0 rfl rfl 10 (by decide) (hts _ kX3_readsStatement_0) (fun _ h9 => h9) rfl (by decide +kernel) rfl rfl (Nat.le_of_ble_eq_true rfl) dX3_readsStatement_241 (fun H locs hP hD hS => ?_)
                  have hP : va_P D vwCl [(a_this, .inr (3, rf_o3 a_this_s a_this_image a_this_read a_this_mind a_this_letters a_this_row a_this_refused a_this_numbers a_this_cost (upd q43.2.1 3 v47))), (a_this_letters, .inl (cA, 96, .inl f_this_letters)), (a_this_numbers, .inl (cA, 2, .inl q43.2.2))] H := hP
                  have hD : va_D A [(a_this, .inr (3, rf_o3 a_this_s a_this_image a_this_read a_this_mind a_this_letters a_this_row a_this_refused a_this_numbers a_this_cost (upd q43.2.1 3 v47))), (a_this_letters, .inl (cA, 96, .inl f_this_letters)), (a_this_numbers, .inl (cA, 2, .inl q43.2.2))] := hD
                  refine lv_iconst (v := 1) hx hb dX3_readsStatement_244 (by decide) ?_
                  obtain rfl := Option.some.inj hf
                  exact W.zret (v := 1) hx hb hr rfl (fun t ht hW => ⟨⟨1, (), rfl, rfl, rf_mk ht hP hD⟩, hS.F ht⟩) hS.2.2 dX3_readsStatement_245
                · have hf := rf_ifn hf c46
                  refine lv_iconst (v := 0) hx hb dX3_readsStatement_232 (by decide) ?_
                  obtain rfl := Option.some.inj hf
                  exact W.zret (v := 0) hx hb hr rfl (fun t ht hW => ⟨⟨0, (), rfl, rfl, rf_mk ht hP hD⟩, hS.F ht⟩) hS.2.2 dX3_readsStatement_233
            · have hf := rf_ifn hf c42
              by_cases c48 : q1 = 119
              · have hf := rf_ifp hf c48
                refine rf_tabC (off := 169) (tgt := 187) hx hb dX3_readsStatement_18 c48 (by decide) (by decide) (by decide) (by decide) ?_
                refine lv_aload_n hx hb dX3_readsStatement_187 rfl (lv_at hl 2 rfl) ?_
                refine lv_iconst (v := 0) hx hb dX3_readsStatement_188 (by decide) ?_
                refine lv_iconst (v := 2) hx hb dX3_readsStatement_189 (by decide) ?_
                obtain ⟨q49, hq49, hf⟩ := rf_bindq hf
                refine rf_Vi (As := [.int 0, .int 2]) (rest := []) (wr := []) (wn := [(a_this, .inr (3, rf_o3 a_this_s a_this_image a_this_read a_this_mind a_this_letters a_this_row a_this_refused a_this_numbers a_this_cost q49.2.1)), (a_this_letters, .inl (cA, 96, .inl f_this_letters)), (a_this_numbers, .inl (cA, 2, .inl q49.2.2))]) ⟨hx, hb, hml, hown, hts⟩ hK hP hD hS hA hE (c_X3_readsNumber l D cA ad a_this a_this_s a_this_image a_this_read a_this_mind a_this_letters a_this_row a_this_refused a_this_numbers a_this_cost H.size (upd g_this 3 v2) f_this_letters f_this_numbers 0 2 q49 hq49) (cwV 2 hts gX3_readsStatement_X3_readsNumber rfl rfl rfl hv_X3_readsNumber ⟨Nat.le_of_ble_eq_true rfl, Nat.le_of_ble_eq_true rfl⟩) [0, 1, 2] [] [0, 1, 2] rfl rfl rfl rfl (by decide) rfl rfl 3 0 rfl rfl rfl rfl rfl hl.1 (Nat.le_of_ble_eq_true rfl) dX3_readsStatement_190 ⟨Nat.zero_le _, Nat.zero_le _⟩ (fun H locs hP hD hS => ?_)
                refine lv_istore_n (lv' := [(2, .int q49.1), (1, .int q1), (0, .ref a_this)]) hx hb dX3_readsStatement_193 rfl hl (by decide) rfl (fun ls hl => ?_)
                refine lv_goto (tgt := 219) hx hb dX3_readsStatement_194 (by decide) ?_
                refine lv_iload_n hx hb dX3_readsStatement_219 rfl (lv_at hl 0 rfl) ?_
                refine lv_if_eq (tgt := 232) hx hb dX3_readsStatement_220 (by decide) (fun c50 => ?_) (fun c50 => ?_)
                · have hf := rf_ifp hf c50
                  refine lv_iconst (v := 0) hx hb dX3_readsStatement_232 (by decide) ?_
                  obtain rfl := Option.some.inj hf
                  exact W.zret (v := 0) hx hb hr rfl (fun t ht hW => ⟨⟨0, (), rfl, rfl, rf_mk ht hP hD⟩, hS.F ht⟩) hS.2.2 dX3_readsStatement_233
                · have hf := rf_ifn hf c50
                  refine lv_aload_n hx hb dX3_readsStatement_223 rfl (lv_at hl 2 rfl) ?_
                  obtain ⟨q51, hq51, hf⟩ := rf_bindq hf
                  refine rf_Vi (As := []) (rest := []) (wr := [(a_this_numbers, .inl (cA, 2, .inl q49.2.2))]) (wn := [(a_this, .inr (3, rf_o3 a_this_s a_this_image a_this_read a_this_mind a_this_letters a_this_row a_this_refused a_this_numbers a_this_cost q49.2.1)), (a_this_letters, .inl (cA, 96, .inl f_this_letters)), (a_this_numbers, .inl (cA, 2, .inl q49.2.2))]) ⟨hx, hb, hml, hown, hts⟩ hK hP hD hS hA hE (c_X3_here l D cA ad a_this a_this_s a_this_image a_this_read a_this_mind a_this_letters a_this_row a_this_refused a_this_numbers a_this_cost H.size q49.2.1 f_this_letters q51 hq51) (cwV 0 hts gX3_readsStatement_X3_here rfl rfl rfl hv_X3_here ⟨Nat.le_of_ble_eq_true rfl, Nat.le_of_ble_eq_true rfl⟩) [0, 1] [2] [1, 2, 0] rfl rfl rfl rfl (by decide) rfl rfl 3 0 rfl rfl rfl rfl rfl hl.1 (Nat.le_of_ble_eq_true rfl) dX3_readsStatement_224 ⟨Nat.zero_le _, Nat.zero_le _⟩ (fun H locs hP hD hS => ?_)
                  refine lv_bipush (v := 59) hx hb dX3_readsStatement_227 (by decide) ?_
                  refine lv_icmp_eq (tgt := 234) hx hb dX3_readsStatement_229 (by decide) (fun c52 => ?_) (fun c52 => ?_)
                  · have hf := rf_ifp hf c52
                    refine lv_aload_n hx hb dX3_readsStatement_234 rfl (lv_at hl 2 rfl) ?_
                    refine lv_dup hx hb dX3_readsStatement_235 rfl ?_
                    refine va_get (D := D) (ci := 3) (v := .int (q49.2.1 3)) (C := RX3) (T := TX3) (N := 16) hx hb hts jX3_readsStatement_X3 hown hK hP 0 rfl rfl 10 (by decide) (hts _ kX3_readsStatement_0) (fun _ h9 => h9) rfl dX3_readsStatement_236 ?_
                    refine lv_iconst (v := 1) hx hb dX3_readsStatement_239 (by decide) ?_
                    refine lv_iadd hx hb dX3_readsStatement_240 ?_
                    refine lv_topi (fun v53 ev53 => ?_)
                    have hf := rf_bindv hf ev53
                    clear ev53
                    refine va_put (D := D) (ci := 3) (v := .int v53) (ty := .int) (C := RX3) (T := TX3) (N := 16) hx hb hts jX3_readsStatement_X3 tyX3 tyX3_ok nmX3 hown hK hP hD hS 0 rfl rfl 10 (by decide) (hts _ kX3_readsStatement_0) (fun _ h9 => h9) rfl (by decide +kernel) rfl rfl (Nat.le_of_ble_eq_true rfl) dX3_readsStatement_241 (fun H locs hP hD hS => ?_)
                    have hP : va_P D vwCl [(a_this, .inr (3, rf_o3 a_this_s a_this_image a_this_read a_this_mind a_this_letters a_this_row a_this_refused a_this_numbers a_this_cost (upd q49.2.1 3 v53))), (a_this_letters, .inl (cA, 96, .inl f_this_letters)), (a_this_numbers, .inl (cA, 2, .inl q49.2.2))] H := hP
                    have hD : va_D A [(a_this, .inr (3, rf_o3 a_this_s a_this_image a_this_read a_this_mind a_this_letters a_this_row a_this_refused a_this_numbers a_this_cost (upd q49.2.1 3 v53))), (a_this_letters, .inl (cA, 96, .inl f_this_letters)), (a_this_numbers, .inl (cA, 2, .inl q49.2.2))] := hD
                    refine lv_iconst (v := 1) hx hb dX3_readsStatement_244 (by decide) ?_
                    obtain rfl := Option.some.inj hf
                    exact W.zret (v := 1) hx hb hr rfl (fun t ht hW => ⟨⟨1, (), rfl, rfl, rf_mk ht hP hD⟩, hS.F ht⟩) hS.2.2 dX3_readsStatement_245
                  · have hf := rf_ifn hf c52
                    refine lv_iconst (v := 0) hx hb dX3_readsStatement_232 (by decide) ?_
                    obtain rfl := Option.some.inj hf
                    exact W.zret (v := 0) hx hb hr rfl (fun t ht hW => ⟨⟨0, (), rfl, rfl, rf_mk ht hP hD⟩, hS.F ht⟩) hS.2.2 dX3_readsStatement_233
              · have hf := rf_ifn hf c48
                refine rf_tabD (tgt := 207) (ks := [99, 104, 112, 114, 115, 116, 119]) hx hb dX3_readsStatement_18 (by intro z hz; simp only [List.mem_cons, List.not_mem_nil, or_false] at hz; rcases hz with rfl | rfl | rfl | rfl | rfl | rfl | rfl <;> assumption) (by decide) (by decide) ?_
                refine lv_aload_n hx hb dX3_readsStatement_207 rfl (lv_at hl 2 rfl) ?_
                refine lv_dup hx hb dX3_readsStatement_208 rfl ?_
                refine va_get (D := D) (ci := 3) (v := .int v2) (C := RX3) (T := TX3) (N := 16) hx hb hts jX3_readsStatement_X3 hown hK hP 0 rfl rfl 10 (by decide) (hts _ kX3_readsStatement_0) (fun _ h9 => h9) rfl dX3_readsStatement_209 ?_
                refine lv_iconst (v := 1) hx hb dX3_readsStatement_212 (by decide) ?_
                refine lv_isub hx hb dX3_readsStatement_213 ?_
                refine lv_topi (fun v54 ev54 => ?_)
                have hf := rf_bindv hf ev54
                clear ev54
                refine va_put (D := D) (ci := 3) (v := .int v54) (ty := .int) (C := RX3) (T := TX3) (N := 16) hx hb hts jX3_readsStatement_X3 tyX3 tyX3_ok nmX3 hown hK hP hD hS 0 rfl rfl 10 (by decide) (hts _ kX3_readsStatement_0) (fun _ h9 => h9) rfl (by decide +kernel) rfl rfl (Nat.le_of_ble_eq_true rfl) dX3_readsStatement_214 (fun H locs hP hD hS => ?_)
                have hP : va_P D vwCl [(a_this, .inr (3, rf_o3 a_this_s a_this_image a_this_read a_this_mind a_this_letters a_this_row a_this_refused a_this_numbers a_this_cost (upd (upd g_this 3 v2) 3 v54))), (a_this_letters, .inl (cA, 96, .inl f_this_letters)), (a_this_numbers, .inl (cA, 2, .inl f_this_numbers))] H := hP
                have hD : va_D A [(a_this, .inr (3, rf_o3 a_this_s a_this_image a_this_read a_this_mind a_this_letters a_this_row a_this_refused a_this_numbers a_this_cost (upd (upd g_this 3 v2) 3 v54))), (a_this_letters, .inl (cA, 96, .inl f_this_letters)), (a_this_numbers, .inl (cA, 2, .inl f_this_numbers))] := hD
                refine lv_iconst (v := 0) hx hb dX3_readsStatement_217 (by decide) ?_
                obtain rfl := Option.some.inj hf
                exact W.zret (v := 0) hx hb hr rfl (fun t ht hW => ⟨⟨0, (), rfl, rfl, rf_mk ht hP hD⟩, hS.F ht⟩) hS.2.2 dX3_readsStatement_218
