theorem hs_X3_roomOf : yX3_roomOf.cls ≠ "java/lang/invoke/MethodHandle" ∧ yX3_roomOf.cls ≠ "java/lang/invoke/VarHandle" ∧ (parseMethodDescriptor yX3_roomOf.desc).map (fun d => d.parameters.length) = some 4 := by decide +kernel
theorem hv_X3_begins : yX3_begins.cls = RX3 ∧ yX3_begins.cls ≠ "java/lang/invoke/MethodHandle" ∧ yX3_begins.cls ≠ "java/lang/invoke/VarHandle" ∧ (parseMethodDescriptor yX3_begins.desc).map (fun d => d.parameters.length) = some 0 := by decide +kernel
theorem hv_X3_ends : yX3_ends.cls = RX3 ∧ yX3_ends.cls ≠ "java/lang/invoke/MethodHandle" ∧ yX3_ends.cls ≠ "java/lang/invoke/VarHandle" ∧ (parseMethodDescriptor yX3_ends.desc).map (fun d => d.parameters.length) = some 0 := by decide +kernel
theorem hv_X3_goesBy : yX3_goesBy.cls = RX3 ∧ yX3_goesBy.cls ≠ "java/lang/invoke/MethodHandle" ∧ yX3_goesBy.cls ≠ "java/lang/invoke/VarHandle" ∧ (parseMethodDescriptor yX3_goesBy.desc).map (fun d => d.parameters.length) = some 1 := by decide +kernel
theorem hv_X3_wrongTry : yX3_wrongTry.cls = RX3 ∧ yX3_wrongTry.cls ≠ "java/lang/invoke/MethodHandle" ∧ yX3_wrongTry.cls ≠ "java/lang/invoke/VarHandle" ∧ (parseMethodDescriptor yX3_wrongTry.desc).map (fun d => d.parameters.length) = some 1 := by decide +kernel
theorem kX3_tries_0 : (.fieldLink RX3 9 "RingAndFingerModel" "s" "[I" : Cond) ∈ wsX3_tries := by decide +kernel
theorem jX3_tries_X3 : ∀ w ∈ u_ws RX3 TX3 16, w ∈ wsX3_tries := by decide +kernel
set_option maxHeartbeats 8000000 in
set_option maxRecDepth 100000 in
theorem c_X3_tries (l : Launch) (D : va_G) (cA : ClassId) (ad : Nat → Nat) (a_this a_this_s a_this_image a_this_read a_this_mind a_this_letters a_this_row a_this_refused a_this_numbers a_this_cost : Nat) (sz : Nat) (g_this f_this_s f_this_refused : Nat → Int32) (p1 : Int32) (q : Int32 × (Nat → Int32) × (Nat → Int32)) (hf : f_X3_tries g_this f_this_s f_this_refused p1 = some q) : Met l yX3_tries wsX3_tries ({ frames := 6, cells := 0, slots := 0, locals := 138 } : Room) (va_Pc [.ref a_this, .int p1] (rf_Pre D cA ad [(a_this, .inr (3, rf_o3 a_this_s a_this_image a_this_read a_this_mind a_this_letters a_this_row a_this_refused a_this_numbers a_this_cost g_this)), (a_this_s, .inl (cA, 22, .inl f_this_s)), (a_this_refused, .inl (cA, 7, .inl f_this_refused))] sz)) (va_Qi (fun (r : Int32) (_ : Unit) => r = q.1) (fun _ t => rf_Post D (va_A [(a_this, .inr (3, rf_o3 a_this_s a_this_image a_this_read a_this_mind a_this_letters a_this_row a_this_refused a_this_numbers a_this_cost g_this)), (a_this_s, .inl (cA, 22, .inl f_this_s)), (a_this_refused, .inl (cA, 7, .inl f_this_refused))] sz) [(a_this, .inr (3, rf_o3 a_this_s a_this_image a_this_read a_this_mind a_this_letters a_this_row a_this_refused a_this_numbers a_this_cost g_this)), (a_this_s, .inl (cA, 22, .inl q.2.1)), (a_this_refused, .inl (cA, 7, .inl q.2.2))] t) (va_A [(a_this, .inr (3, rf_o3 a_this_s a_this_image a_this_read a_this_mind a_this_letters a_this_row a_this_refused a_this_numbers a_this_cost g_this)), (a_this_s, .inl (cA, 22, .inl f_this_s)), (a_this_refused, .inl (cA, 7, .inl f_this_refused))] sz)) 0 0 (va_A [(a_this, .inr (3, rf_o3 a_this_s a_this_image a_this_read a_this_mind a_this_letters a_this_row a_this_refused a_this_numbers a_this_cost g_this)), (a_this_s, .inl (cA, 22, .inl f_this_s)), (a_this_refused, .inl (cA, 7, .inl f_this_refused))] sz) := by
  refine Met.ofW (cc := cX3_tries) (maxL := 3) (ret := (some .int)) (by decide) rfl ?_
  intro p e s m args below meth c s₁ B hml hv
  obtain ⟨rfl, hsz, hP, hK, hD0, hE⟩ := hv
  have hx := B.exec
  have hb := B.bytes
  have hr := B.returns
  have hts := atoms_spec (ws := wsX3_tries) B.pre
  have hown : s.vm.findClass RX3 = some m.cls := findClass_of_methodNamed B.named
  have hlocks := B.notSynchronized
  subst hsz
  have hD := hD0.self (sz := s.heap.size)
  generalize hAe : va_A [(a_this, .inr (3, rf_o3 a_this_s a_this_image a_this_read a_this_mind a_this_letters a_this_row a_this_refused a_this_numbers a_this_cost g_this)), (a_this_s, .inl (cA, 22, .inl f_this_s)), (a_this_refused, .inl (cA, 7, .inl f_this_refused))] s.heap.size = A at hD hE ⊢
  have hA : ∀ q : Nat, s.heap.size ≤ q → A q := fun q h => by rw [← hAe]; exact Or.inr h
  have hS : va_S A s.heap s.heap [] := va_S.rf
  have hP : va_P D vwCl [(a_this, .inr (3, rf_o3 a_this_s a_this_image a_this_read a_this_mind a_this_letters a_this_row a_this_refused a_this_numbers a_this_cost g_this)), (a_this_s, .inl (cA, 22, .inl f_this_s)), (a_this_refused, .inl (cA, 7, .inl f_this_refused))] s.heap := hP
  have hl := lv_entry ([.ref a_this, .int p1]) (n := 3) (Nat.le_of_ble_eq_true rfl)
  rw [lg_entry_eq]
  generalize (lg_sl ([.ref a_this, .int p1]) ++ List.replicate (3 - (lg_sl ([.ref a_this, .int p1])).length) Slot.unset).toArray = ls at hl ⊢
  have hl : lv_has ls 3 [(0, .ref a_this), (1, .int p1)] := hl
  rw [f_X3_tries] at hf
  refine lv_aload_n hx hb dX3_tries_0 rfl (lv_at hl 0 rfl) ?_
  refine lv_iload_n hx hb dX3_tries_1 rfl (lv_at hl 1 rfl) ?_
  obtain ⟨q1, hq1, hf⟩ := rf_bindq hf
  refine rf_Vi (As := [.int p1]) (rest := []) (wr := [(a_this_refused, .inl (cA, 7, .inl f_this_refused))]) (wn := [(a_this, .inr (3, rf_o3 a_this_s a_this_image a_this_read a_this_mind a_this_letters a_this_row a_this_refused a_this_numbers a_this_cost g_this)), (a_this_s, .inl (cA, 22, .inl f_this_s)), (a_this_refused, .inl (cA, 7, .inl f_this_refused))]) ⟨hx, hb, hml, hown, hts⟩ hK hP hD hS hA hE (c_X3_wrongTry l D cA ad a_this a_this_s a_this_image a_this_read a_this_mind a_this_letters a_this_row a_this_refused a_this_numbers a_this_cost s.heap.size g_this f_this_s p1 q1 hq1) (cwV 1 hts gX3_tries_X3_wrongTry rfl rfl rfl hv_X3_wrongTry ⟨Nat.le_of_ble_eq_true rfl, Nat.le_of_ble_eq_true rfl⟩) [0, 1] [2] [1, 2, 0] rfl rfl rfl rfl (by decide) rfl rfl 3 0 rfl rfl rfl rfl rfl hl.1 (Nat.le_of_ble_eq_true rfl) dX3_tries_2 ⟨Nat.zero_le _, Nat.zero_le _⟩ (fun H locs hP hD hS => ?_)
  refine lv_istore_n (lv' := [(2, .int q1), (0, .ref a_this), (1, .int p1)]) hx hb dX3_tries_5 rfl hl (by decide) rfl (fun ls hl => ?_)
  refine lv_iload_n hx hb dX3_tries_6 rfl (lv_at hl 0 rfl) ?_
  refine lv_if_ne (tgt := 31) hx hb dX3_tries_7 (by decide) (fun c2 => ?_) (fun c2 => ?_)
  · have hf := rf_ifn hf c2
    refine lv_iload_n hx hb dX3_tries_31 rfl (lv_at hl 0 rfl) ?_
    refine lv_if_eq (tgt := 43) hx hb dX3_tries_32 (by decide) (fun c3 => ?_) (fun c3 => ?_)
    · have hf := rf_ifp hf c3
      refine lv_aload_n hx hb dX3_tries_43 rfl (lv_at hl 1 rfl) ?_
      refine lv_iload_n hx hb dX3_tries_44 rfl (lv_at hl 2 rfl) ?_
      obtain ⟨q4, hq4, hf⟩ := rf_bindq hf
      refine rf_Vi (As := [.int p1]) (rest := []) (wr := [(a_this_refused, .inl (cA, 7, .inl f_this_refused))]) (wn := [(a_this, .inr (3, rf_o3 a_this_s a_this_image a_this_read a_this_mind a_this_letters a_this_row a_this_refused a_this_numbers a_this_cost g_this)), (a_this_s, .inl (cA, 22, .inl q4.2)), (a_this_refused, .inl (cA, 7, .inl f_this_refused))]) ⟨hx, hb, hml, hown, hts⟩ hK hP hD hS hA hE (c_X3_tried l D cA ad a_this a_this_s a_this_image a_this_read a_this_mind a_this_letters a_this_row a_this_refused a_this_numbers a_this_cost H.size g_this f_this_s p1 q4 hq4) (cwV 1 hts gX3_tries_X3_tried rfl rfl rfl hv_X3_tried ⟨Nat.le_of_ble_eq_true rfl, Nat.le_of_ble_eq_true rfl⟩) [0, 1] [2] [1, 2, 0] rfl rfl rfl rfl (by decide) rfl rfl 3 0 rfl rfl rfl rfl rfl hl.1 (Nat.le_of_ble_eq_true rfl) dX3_tries_45 ⟨Nat.zero_le _, Nat.zero_le _⟩ (fun H locs hP hD hS => ?_)
      refine lv_if_eq (tgt := 55) hx hb dX3_tries_48 (by decide) (fun c5 => ?_) (fun c5 => ?_)
      · have hf := rf_ifp hf c5
        refine lv_iconst (v := 0) hx hb dX3_tries_55 (by decide) ?_
        obtain rfl := Option.some.inj hf
        exact W.iret (v := 0) hx hb hr (fun t ht hW => ⟨⟨0, (), rfl, rfl, rf_mk ht hP hD⟩, hS.F ht⟩) hS.2.2 dX3_tries_56
      · have hf := rf_ifn hf c5
        refine lv_iconst (v := 1) hx hb dX3_tries_51 (by decide) ?_
        refine lv_goto (tgt := 56) hx hb dX3_tries_52 (by decide) ?_
        obtain rfl := Option.some.inj hf
        exact W.iret (v := 1) hx hb hr (fun t ht hW => ⟨⟨1, (), rfl, rfl, rf_mk ht hP hD⟩, hS.F ht⟩) hS.2.2 dX3_tries_56
    · have hf := rf_ifn hf c3
      refine lv_aload_n hx hb dX3_tries_35 rfl (lv_at hl 1 rfl) ?_
      refine lv_iload_n hx hb dX3_tries_36 rfl (lv_at hl 0 rfl) ?_
      obtain ⟨q6, hq6, hf⟩ := rf_bindq hf
      refine rf_Vi (As := [.int q1]) (rest := []) (wr := [(a_this_s, .inl (cA, 22, .inl f_this_s))]) (wn := [(a_this, .inr (3, rf_o3 a_this_s a_this_image a_this_read a_this_mind a_this_letters a_this_row a_this_refused a_this_numbers a_this_cost g_this)), (a_this_s, .inl (cA, 22, .inl f_this_s)), (a_this_refused, .inl (cA, 7, .inl q6.2))]) ⟨hx, hb, hml, hown, hts⟩ hK hP hD hS hA hE (c_X3_no l D cA ad a_this a_this_s a_this_image a_this_read a_this_mind a_this_letters a_this_row a_this_refused a_this_numbers a_this_cost H.size g_this f_this_refused q1 q6 hq6) (cwV 1 hts gX3_tries_X3_no rfl rfl rfl hv_X3_no ⟨Nat.le_of_ble_eq_true rfl, Nat.le_of_ble_eq_true rfl⟩) [0, 2] [1] [1, 0, 2] rfl rfl rfl rfl (by decide) rfl rfl 3 0 rfl rfl rfl rfl rfl hl.1 (Nat.le_of_ble_eq_true rfl) dX3_tries_37 ⟨Nat.zero_le _, Nat.zero_le _⟩ (fun H locs hP hD hS => ?_)
      refine lv_goto (tgt := 56) hx hb dX3_tries_40 (by decide) ?_
      obtain rfl := Option.some.inj hf
      exact W.iret (v := q6.1) hx hb hr (fun t ht hW => ⟨⟨q6.1, (), rfl, rfl, rf_mk ht hP hD⟩, hS.F ht⟩) hS.2.2 dX3_tries_56
  · have hf := rf_ifp hf c2
    refine lv_aload_n hx hb dX3_tries_10 rfl (lv_at hl 1 rfl) ?_
    refine va_get (D := D) (ci := 3) (v := .ref a_this_s) (C := RX3) (T := TX3) (N := 16) hx hb hts jX3_tries_X3 hown hK hP 0 rfl rfl 0 (by decide) (hts _ kX3_tries_0) (fun _ h9 => h9) rfl dX3_tries_11 ?_
    refine lv_bipush (v := 8) hx hb dX3_tries_14 (by decide) ?_
    refine rf_ialoadk hx hb hK hP 1 0 rfl rfl (k := 8) (by decide) (by decide) (by decide) dX3_tries_16 ?_
    refine lv_iload_n hx hb dX3_tries_17 rfl (lv_at hl 2 rfl) ?_
    obtain ⟨q7, hq7, hf⟩ := rf_bindq hf
    refine rf_Si (As := [.int p1]) (rest := [.int (f_this_s 8)]) (wr := [(a_this, .inr (3, rf_o3 a_this_s a_this_image a_this_read a_this_mind a_this_letters a_this_row a_this_refused a_this_numbers a_this_cost g_this)), (a_this_s, .inl (cA, 22, .inl f_this_s)), (a_this_refused, .inl (cA, 7, .inl f_this_refused))]) (wn := [(a_this, .inr (3, rf_o3 a_this_s a_this_image a_this_read a_this_mind a_this_letters a_this_row a_this_refused a_this_numbers a_this_cost g_this)), (a_this_s, .inl (cA, 22, .inl f_this_s)), (a_this_refused, .inl (cA, 7, .inl f_this_refused))]) ⟨hx, hb, hml, hown, hts⟩ hK hP hD hS hA hE (c_X3_minutesOf l D cA ad H.size p1 q7 hq7) (va_cwS 1 hts gX3_tries_X3_minutesOf rfl rfl rfl hs_X3_minutesOf ⟨Nat.le_of_ble_eq_true rfl, Nat.le_of_ble_eq_true rfl⟩) [] [0, 1, 2] [0, 1, 2] rfl rfl rfl rfl (by decide) rfl rfl rfl rfl hl.1 (Nat.le_of_ble_eq_true rfl) dX3_tries_18 ⟨Nat.zero_le _, Nat.zero_le _⟩ (fun H locs hP hD hS => ?_)
    refine lv_iadd hx hb dX3_tries_21 ?_
    refine lv_sipush (v := 999) hx hb dX3_tries_22 (by decide) ?_
    refine lv_icmp_le (tgt := 31) hx hb dX3_tries_25 (by decide) (fun c8 => ?_) (fun c8 => ?_)
    · have hf := rf_ifp hf c8
      refine lv_iload_n hx hb dX3_tries_31 rfl (lv_at hl 0 rfl) ?_
      refine lv_if_eq (tgt := 43) hx hb dX3_tries_32 (by decide) (fun c9 => ?_) (fun c9 => ?_)
      · have hf := rf_ifp hf c9
        refine lv_aload_n hx hb dX3_tries_43 rfl (lv_at hl 1 rfl) ?_
        refine lv_iload_n hx hb dX3_tries_44 rfl (lv_at hl 2 rfl) ?_
        obtain ⟨q10, hq10, hf⟩ := rf_bindq hf
        refine rf_Vi (As := [.int p1]) (rest := []) (wr := [(a_this_refused, .inl (cA, 7, .inl f_this_refused))]) (wn := [(a_this, .inr (3, rf_o3 a_this_s a_this_image a_this_read a_this_mind a_this_letters a_this_row a_this_refused a_this_numbers a_this_cost g_this)), (a_this_s, .inl (cA, 22, .inl q10.2)), (a_this_refused, .inl (cA, 7, .inl f_this_refused))]) ⟨hx, hb, hml, hown, hts⟩ hK hP hD hS hA hE (c_X3_tried l D cA ad a_this a_this_s a_this_image a_this_read a_this_mind a_this_letters a_this_row a_this_refused a_this_numbers a_this_cost H.size g_this f_this_s p1 q10 hq10) (cwV 1 hts gX3_tries_X3_tried rfl rfl rfl hv_X3_tried ⟨Nat.le_of_ble_eq_true rfl, Nat.le_of_ble_eq_true rfl⟩) [0, 1] [2] [1, 2, 0] rfl rfl rfl rfl (by decide) rfl rfl 3 0 rfl rfl rfl rfl rfl hl.1 (Nat.le_of_ble_eq_true rfl) dX3_tries_45 ⟨Nat.zero_le _, Nat.zero_le _⟩ (fun H locs hP hD hS => ?_)
        refine lv_if_eq (tgt := 55) hx hb dX3_tries_48 (by decide) (fun c11 => ?_) (fun c11 => ?_)
        · have hf := rf_ifp hf c11
          refine lv_iconst (v := 0) hx hb dX3_tries_55 (by decide) ?_
          obtain rfl := Option.some.inj hf
          exact W.iret (v := 0) hx hb hr (fun t ht hW => ⟨⟨0, (), rfl, rfl, rf_mk ht hP hD⟩, hS.F ht⟩) hS.2.2 dX3_tries_56
        · have hf := rf_ifn hf c11
          refine lv_iconst (v := 1) hx hb dX3_tries_51 (by decide) ?_
          refine lv_goto (tgt := 56) hx hb dX3_tries_52 (by decide) ?_
          obtain rfl := Option.some.inj hf
          exact W.iret (v := 1) hx hb hr (fun t ht hW => ⟨⟨1, (), rfl, rfl, rf_mk ht hP hD⟩, hS.F ht⟩) hS.2.2 dX3_tries_56
      · have hf := rf_ifn hf c9
        refine lv_aload_n hx hb dX3_tries_35 rfl (lv_at hl 1 rfl) ?_
        refine lv_iload_n hx hb dX3_tries_36 rfl (lv_at hl 0 rfl) ?_
        obtain ⟨q12, hq12, hf⟩ := rf_bindq hf
        refine rf_Vi (As := [.int q1]) (rest := []) (wr := [(a_this_s, .inl (cA, 22, .inl f_this_s))]) (wn := [(a_this, .inr (3, rf_o3 a_this_s a_this_image a_this_read a_this_mind a_this_letters a_this_row a_this_refused a_this_numbers a_this_cost g_this)), (a_this_s, .inl (cA, 22, .inl f_this_s)), (a_this_refused, .inl (cA, 7, .inl q12.2))]) ⟨hx, hb, hml, hown, hts⟩ hK hP hD hS hA hE (c_X3_no l D cA ad a_this a_this_s a_this_image a_this_read a_this_mind a_this_letters a_this_row a_this_refused a_this_numbers a_this_cost H.size g_this f_this_refused q1 q12 hq12) (cwV 1 hts gX3_tries_X3_no rfl rfl rfl hv_X3_no ⟨Nat.le_of_ble_eq_true rfl, Nat.le_of_ble_eq_true rfl⟩) [0, 2] [1] [1, 0, 2] rfl rfl rfl rfl (by decide) rfl rfl 3 0 rfl rfl rfl rfl rfl hl.1 (Nat.le_of_ble_eq_true rfl) dX3_tries_37 ⟨Nat.zero_le _, Nat.zero_le _⟩ (fun H locs hP hD hS => ?_)
        refine lv_goto (tgt := 56) hx hb dX3_tries_40 (by decide) ?_
        obtain rfl := Option.some.inj hf
        exact W.iret (v := q12.1) hx hb hr (fun t ht hW => ⟨⟨q12.1, (), rfl, rfl, rf_mk ht hP hD⟩, hS.F ht⟩) hS.2.2 dX3_tries_56
    · have hf := rf_ifn hf c8
      refine lv_bipush (v := (-6)) hx hb dX3_tries_28 (by decide) ?_
      refine lv_istore_n (lv' := [(2, .int (-6)), (0, .ref a_this), (1, .int p1)]) hx hb dX3_tries_30 rfl hl (by decide) rfl (fun ls hl => ?_)
      refine lv_iload_n hx hb dX3_tries_31 rfl (lv_at hl 0 rfl) ?_
      refine lv_if_eq (tgt := 43) hx hb dX3_tries_32 (by decide) (fun c13 => ?_) (fun c13 => ?_)
      · exact absurd c13 (by decide)
      · refine lv_aload_n hx hb dX3_tries_35 rfl (lv_at hl 1 rfl) ?_
        refine lv_iload_n hx hb dX3_tries_36 rfl (lv_at hl 0 rfl) ?_
        obtain ⟨q14, hq14, hf⟩ := rf_bindq hf
        refine rf_Vi (As := [.int (-6)]) (rest := []) (wr := [(a_this_s, .inl (cA, 22, .inl f_this_s))]) (wn := [(a_this, .inr (3, rf_o3 a_this_s a_this_image a_this_read a_this_mind a_this_letters a_this_row a_this_refused a_this_numbers a_this_cost g_this)), (a_this_s, .inl (cA, 22, .inl f_this_s)), (a_this_refused, .inl (cA, 7, .inl q14.2))]) ⟨hx, hb, hml, hown, hts⟩ hK hP hD hS hA hE (c_X3_no l D cA ad a_this a_this_s a_this_image a_this_read a_this_mind a_this_letters a_this_row a_this_refused a_this_numbers a_this_cost H.size g_this f_this_refused (-6) q14 hq14) (cwV 1 hts gX3_tries_X3_no rfl rfl rfl hv_X3_no ⟨Nat.le_of_ble_eq_true rfl, Nat.le_of_ble_eq_true rfl⟩) [0, 2] [1] [1, 0, 2] rfl rfl rfl rfl (by decide) rfl rfl 3 0 rfl rfl rfl rfl rfl hl.1 (Nat.le_of_ble_eq_true rfl) dX3_tries_37 ⟨Nat.zero_le _, Nat.zero_le _⟩ (fun H locs hP hD hS => ?_)
        refine lv_goto (tgt := 56) hx hb dX3_tries_40 (by decide) ?_
        obtain rfl := Option.some.inj hf
        exact W.iret (v := q14.1) hx hb hr (fun t ht hW => ⟨⟨q14.1, (), rfl, rfl, rf_mk ht hP hD⟩, hS.F ht⟩) hS.2.2 dX3_tries_56
theorem kX3_pause_0 : (.fieldLink RX3 9 "RingAndFingerModel" "s" "[I" : Cond) ∈ wsX3_pause := by decide +kernel
theorem jX3_pause_X3 : ∀ w ∈ u_ws RX3 TX3 16, w ∈ wsX3_pause := by decide +kernel
set_option maxHeartbeats 8000000 in
set_option maxRecDepth 100000 in
theorem c_X3_pause (l : Launch) (D : va_G) (cA : ClassId) (ad : Nat → Nat) (a_this a_this_s a_this_image a_this_read a_this_mind a_this_letters a_this_row a_this_refused a_this_numbers a_this_cost : Nat) (sz : Nat) (g_this f_this_s f_this_refused : Nat → Int32) (p1 : Int32) (q : Int32 × (Nat → Int32) × (Nat → Int32)) (hf : f_X3_pause g_this f_this_s f_this_refused p1 = some q) : Met l yX3_pause wsX3_pause ({ frames := 2, cells := 0, slots := 0, locals := 42 } : Room) (va_Pc [.ref a_this, .int p1] (rf_Pre D cA ad [(a_this, .inr (3, rf_o3 a_this_s a_this_image a_this_read a_this_mind a_this_letters a_this_row a_this_refused a_this_numbers a_this_cost g_this)), (a_this_s, .inl (cA, 22, .inl f_this_s)), (a_this_refused, .inl (cA, 7, .inl f_this_refused))] sz)) (va_Qi (fun (r : Int32) (_ : Unit) => r = q.1) (fun _ t => rf_Post D (va_A [(a_this, .inr (3, rf_o3 a_this_s a_this_image a_this_read a_this_mind a_this_letters a_this_row a_this_refused a_this_numbers a_this_cost g_this)), (a_this_s, .inl (cA, 22, .inl f_this_s)), (a_this_refused, .inl (cA, 7, .inl f_this_refused))] sz) [(a_this, .inr (3, rf_o3 a_this_s a_this_image a_this_read a_this_mind a_this_letters a_this_row a_this_refused a_this_numbers a_this_cost g_this)), (a_this_s, .inl (cA, 22, .inl q.2.1)), (a_this_refused, .inl (cA, 7, .inl q.2.2))] t) (va_A [(a_this, .inr (3, rf_o3 a_this_s a_this_image a_this_read a_this_mind a_this_letters a_this_row a_this_refused a_this_numbers a_this_cost g_this)), (a_this_s, .inl (cA, 22, .inl f_this_s)), (a_this_refused, .inl (cA, 7, .inl f_this_refused))] sz)) 0 0 (va_A [(a_this, .inr (3, rf_o3 a_this_s a_this_image a_this_read a_this_mind a_this_letters a_this_row a_this_refused a_this_numbers a_this_cost g_this)), (a_this_s, .inl (cA, 22, .inl f_this_s)), (a_this_refused, .inl (cA, 7, .inl f_this_refused))] sz) := by
  refine Met.ofW (cc := cX3_pause) (maxL := 2) (ret := (some .int)) (by decide) rfl ?_
  intro p e s m args below meth c s₁ B hml hv
  obtain ⟨rfl, hsz, hP, hK, hD0, hE⟩ := hv
  have hx := B.exec
  have hb := B.bytes
  have hr := B.returns
  have hts := atoms_spec (ws := wsX3_pause) B.pre
  have hown : s.vm.findClass RX3 = some m.cls := findClass_of_methodNamed B.named
  have hlocks := B.notSynchronized
  subst hsz
  have hD := hD0.self (sz := s.heap.size)
  generalize hAe : va_A [(a_this, .inr (3, rf_o3 a_this_s a_this_image a_this_read a_this_mind a_this_letters a_this_row a_this_refused a_this_numbers a_this_cost g_this)), (a_this_s, .inl (cA, 22, .inl f_this_s)), (a_this_refused, .inl (cA, 7, .inl f_this_refused))] s.heap.size = A at hD hE ⊢
  have hA : ∀ q : Nat, s.heap.size ≤ q → A q := fun q h => by rw [← hAe]; exact Or.inr h
  have hS : va_S A s.heap s.heap [] := va_S.rf
  have hP : va_P D vwCl [(a_this, .inr (3, rf_o3 a_this_s a_this_image a_this_read a_this_mind a_this_letters a_this_row a_this_refused a_this_numbers a_this_cost g_this)), (a_this_s, .inl (cA, 22, .inl f_this_s)), (a_this_refused, .inl (cA, 7, .inl f_this_refused))] s.heap := hP
  have hl := lv_entry ([.ref a_this, .int p1]) (n := 2) (Nat.le_of_ble_eq_true rfl)
  rw [lg_entry_eq]
  generalize (lg_sl ([.ref a_this, .int p1]) ++ List.replicate (2 - (lg_sl ([.ref a_this, .int p1])).length) Slot.unset).toArray = ls at hl ⊢
  have hl : lv_has ls 2 [(0, .ref a_this), (1, .int p1)] := hl
  rw [f_X3_pause] at hf
  refine lv_iload_n hx hb dX3_pause_0 rfl (lv_at hl 1 rfl) ?_
  refine lv_iconst (v := 1) hx hb dX3_pause_1 (by decide) ?_
  refine lv_icmp_ge (tgt := 12) hx hb dX3_pause_2 (by decide) (fun c1 => ?_) (fun c1 => ?_)
  · have hf := rf_ifp hf c1
    refine lv_iload_n hx hb dX3_pause_12 rfl (lv_at hl 1 rfl) ?_
    refine lv_bipush (v := 60) hx hb dX3_pause_13 (by decide) ?_
    refine lv_icmp_gt (tgt := 33) hx hb dX3_pause_15 (by decide) (fun c2 => ?_) (fun c2 => ?_)
    · have hf := rf_ifp hf c2
      refine lv_aload_n hx hb dX3_pause_33 rfl (lv_at hl 0 rfl) ?_
      refine lv_bipush (v := (-6)) hx hb dX3_pause_34 (by decide) ?_
      obtain ⟨q3, hq3, hf⟩ := rf_bindq hf
      refine rf_Vi (As := [.int (-6)]) (rest := []) (wr := [(a_this_s, .inl (cA, 22, .inl f_this_s))]) (wn := [(a_this, .inr (3, rf_o3 a_this_s a_this_image a_this_read a_this_mind a_this_letters a_this_row a_this_refused a_this_numbers a_this_cost g_this)), (a_this_s, .inl (cA, 22, .inl f_this_s)), (a_this_refused, .inl (cA, 7, .inl q3.2))]) ⟨hx, hb, hml, hown, hts⟩ hK hP hD hS hA hE (c_X3_no l D cA ad a_this a_this_s a_this_image a_this_read a_this_mind a_this_letters a_this_row a_this_refused a_this_numbers a_this_cost s.heap.size g_this f_this_refused (-6) q3 hq3) (cwV 1 hts gX3_pause_X3_no rfl rfl rfl hv_X3_no ⟨Nat.le_of_ble_eq_true rfl, Nat.le_of_ble_eq_true rfl⟩) [0, 2] [1] [1, 0, 2] rfl rfl rfl rfl (by decide) rfl rfl 3 0 rfl rfl rfl rfl rfl hl.1 (Nat.le_of_ble_eq_true rfl) dX3_pause_36 ⟨Nat.zero_le _, Nat.zero_le _⟩ (fun H locs hP hD hS => ?_)
      obtain rfl := Option.some.inj hf
      exact W.iret (v := q3.1) hx hb hr (fun t ht hW => ⟨⟨q3.1, (), rfl, rfl, rf_mk ht hP hD⟩, hS.F ht⟩) hS.2.2 dX3_pause_39
    · have hf := rf_ifn hf c2
      refine lv_aload_n hx hb dX3_pause_18 rfl (lv_at hl 0 rfl) ?_
      refine va_get (D := D) (ci := 3) (v := .ref a_this_s) (C := RX3) (T := TX3) (N := 16) hx hb hts jX3_pause_X3 hown hK hP 0 rfl rfl 0 (by decide) (hts _ kX3_pause_0) (fun _ h9 => h9) rfl dX3_pause_19 ?_
      refine lv_bipush (v := 8) hx hb dX3_pause_22 (by decide) ?_
      refine rf_ialoadk hx hb hK hP 1 0 rfl rfl (k := 8) (by decide) (by decide) (by decide) dX3_pause_24 ?_
      refine lv_iload_n hx hb dX3_pause_25 rfl (lv_at hl 1 rfl) ?_
      refine lv_iadd hx hb dX3_pause_26 ?_
      refine lv_sipush (v := 999) hx hb dX3_pause_27 (by decide) ?_
      refine lv_icmp_le (tgt := 40) hx hb dX3_pause_30 (by decide) (fun c4 => ?_) (fun c4 => ?_)
      · have hf := rf_ifp hf c4
        refine lv_aload_n hx hb dX3_pause_40 rfl (lv_at hl 0 rfl) ?_
        refine lv_iload_n hx hb dX3_pause_41 rfl (lv_at hl 1 rfl) ?_
        obtain ⟨q5, hq5, hf⟩ := rf_bindq hf
        refine rf_Vv (As := [.int p1]) (rest := []) (wr := [(a_this_refused, .inl (cA, 7, .inl f_this_refused))]) (wn := [(a_this, .inr (3, rf_o3 a_this_s a_this_image a_this_read a_this_mind a_this_letters a_this_row a_this_refused a_this_numbers a_this_cost g_this)), (a_this_s, .inl (cA, 22, .inl q5)), (a_this_refused, .inl (cA, 7, .inl f_this_refused))]) ⟨hx, hb, hml, hown, hts⟩ hK hP hD hS hA hE (c_X3_waits l D cA ad a_this a_this_s a_this_image a_this_read a_this_mind a_this_letters a_this_row a_this_refused a_this_numbers a_this_cost s.heap.size g_this f_this_s p1 q5 hq5) (cwV 1 hts gX3_pause_X3_waits rfl rfl rfl hv_X3_waits ⟨Nat.le_of_ble_eq_true rfl, Nat.le_of_ble_eq_true rfl⟩) [0, 1] [2] [1, 2, 0] rfl rfl rfl rfl (by decide) rfl rfl 3 0 rfl rfl rfl rfl rfl hl.1 (Nat.le_of_ble_eq_true rfl) dX3_pause_42 ⟨Nat.zero_le _, Nat.zero_le _⟩ (fun H locs hP hD hS => ?_)
        refine lv_aload_n hx hb dX3_pause_45 rfl (lv_at hl 0 rfl) ?_
        refine va_get (D := D) (ci := 3) (v := .ref a_this_s) (C := RX3) (T := TX3) (N := 16) hx hb hts jX3_pause_X3 hown hK hP 0 rfl rfl 0 (by decide) (hts _ kX3_pause_0) (fun _ h9 => h9) rfl dX3_pause_46 ?_
        refine lv_bipush (v := 8) hx hb dX3_pause_49 (by decide) ?_
        refine rf_ialoadk hx hb hK hP 1 0 rfl rfl (k := 8) (by decide) (by decide) (by decide) dX3_pause_51 ?_
        obtain rfl := Option.some.inj hf
        exact W.iret (v := (q5 8)) hx hb hr (fun t ht hW => ⟨⟨(q5 8), (), rfl, rfl, rf_mk ht hP hD⟩, hS.F ht⟩) hS.2.2 dX3_pause_52
      · have hf := rf_ifn hf c4
        refine lv_aload_n hx hb dX3_pause_33 rfl (lv_at hl 0 rfl) ?_
        refine lv_bipush (v := (-6)) hx hb dX3_pause_34 (by decide) ?_
        obtain ⟨q6, hq6, hf⟩ := rf_bindq hf
        refine rf_Vi (As := [.int (-6)]) (rest := []) (wr := [(a_this_s, .inl (cA, 22, .inl f_this_s))]) (wn := [(a_this, .inr (3, rf_o3 a_this_s a_this_image a_this_read a_this_mind a_this_letters a_this_row a_this_refused a_this_numbers a_this_cost g_this)), (a_this_s, .inl (cA, 22, .inl f_this_s)), (a_this_refused, .inl (cA, 7, .inl q6.2))]) ⟨hx, hb, hml, hown, hts⟩ hK hP hD hS hA hE (c_X3_no l D cA ad a_this a_this_s a_this_image a_this_read a_this_mind a_this_letters a_this_row a_this_refused a_this_numbers a_this_cost s.heap.size g_this f_this_refused (-6) q6 hq6) (cwV 1 hts gX3_pause_X3_no rfl rfl rfl hv_X3_no ⟨Nat.le_of_ble_eq_true rfl, Nat.le_of_ble_eq_true rfl⟩) [0, 2] [1] [1, 0, 2] rfl rfl rfl rfl (by decide) rfl rfl 3 0 rfl rfl rfl rfl rfl hl.1 (Nat.le_of_ble_eq_true rfl) dX3_pause_36 ⟨Nat.zero_le _, Nat.zero_le _⟩ (fun H locs hP hD hS => ?_)
        obtain rfl := Option.some.inj hf
        exact W.iret (v := q6.1) hx hb hr (fun t ht hW => ⟨⟨q6.1, (), rfl, rfl, rf_mk ht hP hD⟩, hS.F ht⟩) hS.2.2 dX3_pause_39
  · have hf := rf_ifn hf c1
    refine lv_aload_n hx hb dX3_pause_5 rfl (lv_at hl 0 rfl) ?_
    refine lv_bipush (v := (-4)) hx hb dX3_pause_6 (by decide) ?_
    obtain ⟨q7, hq7, hf⟩ := rf_bindq hf
    refine rf_Vi (As := [.int (-4)]) (rest := []) (wr := [(a_this_s, .inl (cA, 22, .inl f_this_s))]) (wn := [(a_this, .inr (3, rf_o3 a_this_s a_this_image a_this_read a_this_mind a_this_letters a_this_row a_this_refused a_this_numbers a_this_cost g_this)), (a_this_s, .inl (cA, 22, .inl f_this_s)), (a_this_refused, .inl (cA, 7, .inl q7.2))]) ⟨hx, hb, hml, hown, hts⟩ hK hP hD hS hA hE (c_X3_no l D cA ad a_this a_this_s a_this_image a_this_read a_this_mind a_this_letters a_this_row a_this_refused a_this_numbers a_this_cost s.heap.size g_this f_this_refused (-4) q7 hq7) (cwV 1 hts gX3_pause_X3_no rfl rfl rfl hv_X3_no ⟨Nat.le_of_ble_eq_true rfl, Nat.le_of_ble_eq_true rfl⟩) [0, 2] [1] [1, 0, 2] rfl rfl rfl rfl (by decide) rfl rfl 3 0 rfl rfl rfl rfl rfl hl.1 (Nat.le_of_ble_eq_true rfl) dX3_pause_8 ⟨Nat.zero_le _, Nat.zero_le _⟩ (fun H locs hP hD hS => ?_)
    obtain rfl := Option.some.inj hf
    exact W.iret (v := q7.1) hx hb hr (fun t ht hW => ⟨⟨q7.1, (), rfl, rfl, rf_mk ht hP hD⟩, hS.F ht⟩) hS.2.2 dX3_pause_11

set_option maxHeartbeats 8000000 in
set_option maxRecDepth 100000 in
theorem c_X3_would (l : Launch) (D : va_G) (cA : ClassId) (ad : Nat → Nat) (a_this a_this_s a_this_image a_this_read a_this_mind a_this_letters a_this_row a_this_refused a_this_numbers a_this_cost : Nat) (sz : Nat) (g_this f_this_s f_this_refused : Nat → Int32) (p1 : Int32) (q : Int32 × (Nat → Int32)) (hf : f_X3_would g_this f_this_s f_this_refused p1 = some q) : Met l yX3_would wsX3_would ({ frames := 5, cells := 0, slots := 0, locals := 116 } : Room) (va_Pc [.ref a_this, .int p1] (rf_Pre D cA ad [(a_this, .inr (3, rf_o3 a_this_s a_this_image a_this_read a_this_mind a_this_letters a_this_row a_this_refused a_this_numbers a_this_cost g_this)), (a_this_s, .inl (cA, 22, .inl f_this_s)), (a_this_refused, .inl (cA, 7, .inl f_this_refused))] sz)) (va_Qi (fun (r : Int32) (_ : Unit) => r = q.1) (fun _ t => rf_Post D (va_A [(a_this, .inr (3, rf_o3 a_this_s a_this_image a_this_read a_this_mind a_this_letters a_this_row a_this_refused a_this_numbers a_this_cost g_this)), (a_this_s, .inl (cA, 22, .inl f_this_s)), (a_this_refused, .inl (cA, 7, .inl f_this_refused))] sz) [(a_this, .inr (3, rf_o3 a_this_s a_this_image a_this_read a_this_mind a_this_letters a_this_row a_this_refused a_this_numbers a_this_cost g_this)), (a_this_s, .inl (cA, 22, .inl f_this_s)), (a_this_refused, .inl (cA, 7, .inl q.2))] t) (va_A [(a_this, .inr (3, rf_o3 a_this_s a_this_image a_this_read a_this_mind a_this_letters a_this_row a_this_refused a_this_numbers a_this_cost g_this)), (a_this_s, .inl (cA, 22, .inl f_this_s)), (a_this_refused, .inl (cA, 7, .inl f_this_refused))] sz)) 0 0 (va_A [(a_this, .inr (3, rf_o3 a_this_s a_this_image a_this_read a_this_mind a_this_letters a_this_row a_this_refused a_this_numbers a_this_cost g_this)), (a_this_s, .inl (cA, 22, .inl f_this_s)), (a_this_refused, .inl (cA, 7, .inl f_this_refused))] sz) := by
  refine Met.ofW (cc := cX3_would) (maxL := 3) (ret := (some .int)) (by decide) rfl ?_
  intro p e s m args below meth c s₁ B hml hv
  obtain ⟨rfl, hsz, hP, hK, hD0, hE⟩ := hv
  have hx := B.exec
  have hb := B.bytes
  have hr := B.returns
  have hts := atoms_spec (ws := wsX3_would) B.pre
  have hown : s.vm.findClass RX3 = some m.cls := findClass_of_methodNamed B.named
  have hlocks := B.notSynchronized
  subst hsz
  have hD := hD0.self (sz := s.heap.size)
  generalize hAe : va_A [(a_this, .inr (3, rf_o3 a_this_s a_this_image a_this_read a_this_mind a_this_letters a_this_row a_this_refused a_this_numbers a_this_cost g_this)), (a_this_s, .inl (cA, 22, .inl f_this_s)), (a_this_refused, .inl (cA, 7, .inl f_this_refused))] s.heap.size = A at hD hE ⊢
  have hA : ∀ q : Nat, s.heap.size ≤ q → A q := fun q h => by rw [← hAe]; exact Or.inr h
  have hS : va_S A s.heap s.heap [] := va_S.rf
  have hP : va_P D vwCl [(a_this, .inr (3, rf_o3 a_this_s a_this_image a_this_read a_this_mind a_this_letters a_this_row a_this_refused a_this_numbers a_this_cost g_this)), (a_this_s, .inl (cA, 22, .inl f_this_s)), (a_this_refused, .inl (cA, 7, .inl f_this_refused))] s.heap := hP
  have hl := lv_entry ([.ref a_this, .int p1]) (n := 3) (Nat.le_of_ble_eq_true rfl)
  rw [lg_entry_eq]
  generalize (lg_sl ([.ref a_this, .int p1]) ++ List.replicate (3 - (lg_sl ([.ref a_this, .int p1])).length) Slot.unset).toArray = ls at hl ⊢
  have hl : lv_has ls 3 [(0, .ref a_this), (1, .int p1)] := hl
  rw [f_X3_would] at hf
  refine lv_aload_n hx hb dX3_would_0 rfl (lv_at hl 0 rfl) ?_
  refine lv_iload_n hx hb dX3_would_1 rfl (lv_at hl 1 rfl) ?_
  obtain ⟨q1, hq1, hf⟩ := rf_bindq hf
  refine rf_Vi (As := [.int p1]) (rest := []) (wr := [(a_this_refused, .inl (cA, 7, .inl f_this_refused))]) (wn := [(a_this, .inr (3, rf_o3 a_this_s a_this_image a_this_read a_this_mind a_this_letters a_this_row a_this_refused a_this_numbers a_this_cost g_this)), (a_this_s, .inl (cA, 22, .inl f_this_s)), (a_this_refused, .inl (cA, 7, .inl f_this_refused))]) ⟨hx, hb, hml, hown, hts⟩ hK hP hD hS hA hE (c_X3_wrongTry l D cA ad a_this a_this_s a_this_image a_this_read a_this_mind a_this_letters a_this_row a_this_refused a_this_numbers a_this_cost s.heap.size g_this f_this_s p1 q1 hq1) (cwV 1 hts gX3_would_X3_wrongTry rfl rfl rfl hv_X3_wrongTry ⟨Nat.le_of_ble_eq_true rfl, Nat.le_of_ble_eq_true rfl⟩) [0, 1] [2] [1, 2, 0] rfl rfl rfl rfl (by decide) rfl rfl 3 0 rfl rfl rfl rfl rfl hl.1 (Nat.le_of_ble_eq_true rfl) dX3_would_2 ⟨Nat.zero_le _, Nat.zero_le _⟩ (fun H locs hP hD hS => ?_)
  refine lv_istore_n (lv' := [(2, .int q1), (0, .ref a_this), (1, .int p1)]) hx hb dX3_would_5 rfl hl (by decide) rfl (fun ls hl => ?_)
  refine lv_iload_n hx hb dX3_would_6 rfl (lv_at hl 0 rfl) ?_
  refine lv_if_eq (tgt := 18) hx hb dX3_would_7 (by decide) (fun c2 => ?_) (fun c2 => ?_)
  · have hf := rf_ifp hf c2
    refine lv_aload_n hx hb dX3_would_18 rfl (lv_at hl 1 rfl) ?_
    refine lv_iload_n hx hb dX3_would_19 rfl (lv_at hl 2 rfl) ?_
    obtain ⟨q3, hq3, hf⟩ := rf_bindq hf
    refine rf_Vi (As := [.int p1]) (rest := []) (wr := [(a_this_refused, .inl (cA, 7, .inl f_this_refused))]) (wn := [(a_this, .inr (3, rf_o3 a_this_s a_this_image a_this_read a_this_mind a_this_letters a_this_row a_this_refused a_this_numbers a_this_cost g_this)), (a_this_s, .inl (cA, 22, .inl f_this_s)), (a_this_refused, .inl (cA, 7, .inl f_this_refused))]) ⟨hx, hb, hml, hown, hts⟩ hK hP hD hS hA hE (c_X3_wouldGo l D cA ad a_this a_this_s a_this_image a_this_read a_this_mind a_this_letters a_this_row a_this_refused a_this_numbers a_this_cost H.size g_this f_this_s p1 q3 hq3) (cwV 1 hts gX3_would_X3_wouldGo rfl rfl rfl hv_X3_wouldGo ⟨Nat.le_of_ble_eq_true rfl, Nat.le_of_ble_eq_true rfl⟩) [0, 1] [2] [1, 2, 0] rfl rfl rfl rfl (by decide) rfl rfl 3 0 rfl rfl rfl rfl rfl hl.1 (Nat.le_of_ble_eq_true rfl) dX3_would_20 ⟨Nat.zero_le _, Nat.zero_le _⟩ (fun H locs hP hD hS => ?_)
    refine lv_if_eq (tgt := 30) hx hb dX3_would_23 (by decide) (fun c4 => ?_) (fun c4 => ?_)
    · have hf := rf_ifp hf c4
      refine lv_iconst (v := 0) hx hb dX3_would_30 (by decide) ?_
      obtain rfl := Option.some.inj hf
      exact W.iret (v := 0) hx hb hr (fun t ht hW => ⟨⟨0, (), rfl, rfl, rf_mk ht hP hD⟩, hS.F ht⟩) hS.2.2 dX3_would_31
    · have hf := rf_ifn hf c4
      refine lv_iconst (v := 1) hx hb dX3_would_26 (by decide) ?_
      refine lv_goto (tgt := 31) hx hb dX3_would_27 (by decide) ?_
      obtain rfl := Option.some.inj hf
      exact W.iret (v := 1) hx hb hr (fun t ht hW => ⟨⟨1, (), rfl, rfl, rf_mk ht hP hD⟩, hS.F ht⟩) hS.2.2 dX3_would_31
  · have hf := rf_ifn hf c2
    refine lv_aload_n hx hb dX3_would_10 rfl (lv_at hl 1 rfl) ?_
    refine lv_iload_n hx hb dX3_would_11 rfl (lv_at hl 0 rfl) ?_
    obtain ⟨q5, hq5, hf⟩ := rf_bindq hf
    refine rf_Vi (As := [.int q1]) (rest := []) (wr := [(a_this_s, .inl (cA, 22, .inl f_this_s))]) (wn := [(a_this, .inr (3, rf_o3 a_this_s a_this_image a_this_read a_this_mind a_this_letters a_this_row a_this_refused a_this_numbers a_this_cost g_this)), (a_this_s, .inl (cA, 22, .inl f_this_s)), (a_this_refused, .inl (cA, 7, .inl q5.2))]) ⟨hx, hb, hml, hown, hts⟩ hK hP hD hS hA hE (c_X3_no l D cA ad a_this a_this_s a_this_image a_this_read a_this_mind a_this_letters a_this_row a_this_refused a_this_numbers a_this_cost H.size g_this f_this_refused q1 q5 hq5) (cwV 1 hts gX3_would_X3_no rfl rfl rfl hv_X3_no ⟨Nat.le_of_ble_eq_true rfl, Nat.le_of_ble_eq_true rfl⟩) [0, 2] [1] [1, 0, 2] rfl rfl rfl rfl (by decide) rfl rfl 3 0 rfl rfl rfl rfl rfl hl.1 (Nat.le_of_ble_eq_true rfl) dX3_would_12 ⟨Nat.zero_le _, Nat.zero_le _⟩ (fun H locs hP hD hS => ?_)
    refine lv_goto (tgt := 31) hx hb dX3_would_15 (by decide) ?_
    obtain rfl := Option.some.inj hf
    exact W.iret (v := q5.1) hx hb hr (fun t ht hW => ⟨⟨q5.1, (), rfl, rfl, rf_mk ht hP hD⟩, hS.F ht⟩) hS.2.2 dX3_would_31
theorem kX3_holds_0 : (.fieldLink RX3 9 "RingAndFingerModel" "s" "[I" : Cond) ∈ wsX3_holds := by decide +kernel
theorem jX3_holds_X3 : ∀ w ∈ u_ws RX3 TX3 16, w ∈ wsX3_holds := by decide +kernel
set_option maxHeartbeats 8000000 in
set_option maxRecDepth 100000 in
theorem c_X3_holds (l : Launch) (D : va_G) (cA : ClassId) (ad : Nat → Nat) (a_this a_this_s a_this_image a_this_read a_this_mind a_this_letters a_this_row a_this_refused a_this_numbers a_this_cost : Nat) (sz : Nat) (g_this f_this_s : Nat → Int32) (q : Int32) (hf : f_X3_holds g_this f_this_s = some q) : Met l yX3_holds wsX3_holds ({ frames := 4, cells := 0, slots := 0, locals := 92 } : Room) (va_Pc [.ref a_this] (rf_Pre D cA ad [(a_this, .inr (3, rf_o3 a_this_s a_this_image a_this_read a_this_mind a_this_letters a_this_row a_this_refused a_this_numbers a_this_cost g_this)), (a_this_s, .inl (cA, 22, .inl f_this_s))] sz)) (va_Qi (fun (r : Int32) (_ : Unit) => r = q) (fun _ t => rf_Post D (va_A [(a_this, .inr (3, rf_o3 a_this_s a_this_image a_this_read a_this_mind a_this_letters a_this_row a_this_refused a_this_numbers a_this_cost g_this)), (a_this_s, .inl (cA, 22, .inl f_this_s))] sz) [(a_this, .inr (3, rf_o3 a_this_s a_this_image a_this_read a_this_mind a_this_letters a_this_row a_this_refused a_this_numbers a_this_cost g_this)), (a_this_s, .inl (cA, 22, .inl f_this_s))] t) (va_A [(a_this, .inr (3, rf_o3 a_this_s a_this_image a_this_read a_this_mind a_this_letters a_this_row a_this_refused a_this_numbers a_this_cost g_this)), (a_this_s, .inl (cA, 22, .inl f_this_s))] sz)) 0 0 (va_A [(a_this, .inr (3, rf_o3 a_this_s a_this_image a_this_read a_this_mind a_this_letters a_this_row a_this_refused a_this_numbers a_this_cost g_this)), (a_this_s, .inl (cA, 22, .inl f_this_s))] sz) := by
  refine Met.ofW (cc := cX3_holds) (maxL := 1) (ret := (some .int)) (by decide) rfl ?_
  intro p e s m args below meth c s₁ B hml hv
  obtain ⟨rfl, hsz, hP, hK, hD0, hE⟩ := hv
  have hx := B.exec
  have hb := B.bytes
  have hr := B.returns
  have hts := atoms_spec (ws := wsX3_holds) B.pre
  have hown : s.vm.findClass RX3 = some m.cls := findClass_of_methodNamed B.named
  have hlocks := B.notSynchronized
  subst hsz
  have hD := hD0.self (sz := s.heap.size)
  generalize hAe : va_A [(a_this, .inr (3, rf_o3 a_this_s a_this_image a_this_read a_this_mind a_this_letters a_this_row a_this_refused a_this_numbers a_this_cost g_this)), (a_this_s, .inl (cA, 22, .inl f_this_s))] s.heap.size = A at hD hE ⊢
  have hA : ∀ q : Nat, s.heap.size ≤ q → A q := fun q h => by rw [← hAe]; exact Or.inr h
  have hS : va_S A s.heap s.heap [] := va_S.rf
  have hP : va_P D vwCl [(a_this, .inr (3, rf_o3 a_this_s a_this_image a_this_read a_this_mind a_this_letters a_this_row a_this_refused a_this_numbers a_this_cost g_this)), (a_this_s, .inl (cA, 22, .inl f_this_s))] s.heap := hP
  have hl := lv_entry ([.ref a_this]) (n := 1) (Nat.le_of_ble_eq_true rfl)
  rw [lg_entry_eq]
  generalize (lg_sl ([.ref a_this]) ++ List.replicate (1 - (lg_sl ([.ref a_this])).length) Slot.unset).toArray = ls at hl ⊢
  have hl : lv_has ls 1 [(0, .ref a_this)] := hl
  rw [f_X3_holds] at hf
  refine lv_aload_n hx hb dX3_holds_0 rfl (lv_at hl 0 rfl) ?_
  obtain ⟨q1, hq1, hf⟩ := rf_bindq hf
  refine rf_Vi (As := []) (rest := []) (wr := []) (wn := [(a_this, .inr (3, rf_o3 a_this_s a_this_image a_this_read a_this_mind a_this_letters a_this_row a_this_refused a_this_numbers a_this_cost g_this)), (a_this_s, .inl (cA, 22, .inl f_this_s))]) ⟨hx, hb, hml, hown, hts⟩ hK hP hD hS hA hE (c_X3_isOff l D cA ad a_this a_this_s a_this_image a_this_read a_this_mind a_this_letters a_this_row a_this_refused a_this_numbers a_this_cost s.heap.size g_this f_this_s q1 hq1) (cwV 0 hts gX3_holds_X3_isOff rfl rfl rfl hv_X3_isOff ⟨Nat.le_of_ble_eq_true rfl, Nat.le_of_ble_eq_true rfl⟩) [0, 1] [] [0, 1] rfl rfl rfl rfl (by decide) rfl rfl 3 0 rfl rfl rfl rfl rfl hl.1 (Nat.le_of_ble_eq_true rfl) dX3_holds_1 ⟨Nat.zero_le _, Nat.zero_le _⟩ (fun H locs hP hD hS => ?_)
  refine lv_if_eq (tgt := 13) hx hb dX3_holds_4 (by decide) (fun c2 => ?_) (fun c2 => ?_)
  · have hf := rf_ifp hf c2
    refine lv_aload_n hx hb dX3_holds_13 rfl (lv_at hl 0 rfl) ?_
    refine lv_aload_n hx hb dX3_holds_14 rfl (lv_at hl 0 rfl) ?_
    refine va_get (D := D) (ci := 3) (v := .ref a_this_s) (C := RX3) (T := TX3) (N := 16) hx hb hts jX3_holds_X3 hown hK hP 0 rfl rfl 0 (by decide) (hts _ kX3_holds_0) (fun _ h9 => h9) rfl dX3_holds_15 ?_
    refine lv_iconst (v := 3) hx hb dX3_holds_18 (by decide) ?_
    refine rf_ialoadk hx hb hK hP 1 0 rfl rfl (k := 3) (by decide) (by decide) (by decide) dX3_holds_19 ?_
    obtain ⟨q3, hq3, hf⟩ := rf_bindq hf
    refine rf_Vi (As := [.int (f_this_s 3)]) (rest := []) (wr := []) (wn := [(a_this, .inr (3, rf_o3 a_this_s a_this_image a_this_read a_this_mind a_this_letters a_this_row a_this_refused a_this_numbers a_this_cost g_this)), (a_this_s, .inl (cA, 22, .inl f_this_s))]) ⟨hx, hb, hml, hown, hts⟩ hK hP hD hS hA hE (c_X3_nowOf l D cA ad a_this a_this_s a_this_image a_this_read a_this_mind a_this_letters a_this_row a_this_refused a_this_numbers a_this_cost H.size g_this f_this_s (f_this_s 3) q3 hq3) (cwV 1 hts gX3_holds_X3_nowOf rfl rfl rfl hv_X3_nowOf ⟨Nat.le_of_ble_eq_true rfl, Nat.le_of_ble_eq_true rfl⟩) [0, 1] [] [0, 1] rfl rfl rfl rfl (by decide) rfl rfl 3 0 rfl rfl rfl rfl rfl hl.1 (Nat.le_of_ble_eq_true rfl) dX3_holds_20 ⟨Nat.zero_le _, Nat.zero_le _⟩ (fun H locs hP hD hS => ?_)
    refine lv_aload_n hx hb dX3_holds_23 rfl (lv_at hl 0 rfl) ?_
    refine va_get (D := D) (ci := 3) (v := .ref a_this_s) (C := RX3) (T := TX3) (N := 16) hx hb hts jX3_holds_X3 hown hK hP 0 rfl rfl 0 (by decide) (hts _ kX3_holds_0) (fun _ h9 => h9) rfl dX3_holds_24 ?_
    refine lv_iconst (v := 1) hx hb dX3_holds_27 (by decide) ?_
    refine rf_ialoadk hx hb hK hP 1 0 rfl rfl (k := 1) (by decide) (by decide) (by decide) dX3_holds_28 ?_
    refine lv_isub hx hb dX3_holds_29 ?_
    obtain rfl := Option.some.inj hf
    exact W.iret (v := (q3 - (f_this_s 1))) hx hb hr (fun t ht hW => ⟨⟨(q3 - (f_this_s 1)), (), rfl, rfl, rf_mk ht hP hD⟩, hS.F ht⟩) hS.2.2 dX3_holds_30
  · have hf := rf_ifn hf c2
    refine lv_sipush (v := (-9999)) hx hb dX3_holds_7 (by decide) ?_
    refine lv_goto (tgt := 30) hx hb dX3_holds_10 (by decide) ?_
    obtain rfl := Option.some.inj hf
    exact W.iret (v := (-9999)) hx hb hr (fun t ht hW => ⟨⟨(-9999), (), rfl, rfl, rf_mk ht hP hD⟩, hS.F ht⟩) hS.2.2 dX3_holds_30

set_option maxHeartbeats 8000000 in
set_option maxRecDepth 100000 in
theorem c_X3_goesBy (l : Launch) (D : va_G) (cA : ClassId) (ad : Nat → Nat) (a_this a_this_s a_this_image a_this_read a_this_mind a_this_letters a_this_row a_this_refused a_this_numbers a_this_cost : Nat) (sz : Nat) (g_this f_this_s f_this_mind : Nat → Int32) (p1 : Int32) (q : Int32 × (Nat → Int32) × (Nat → Int32)) (hf : f_X3_goesBy g_this f_this_s f_this_mind p1 = some q) : Met l yX3_goesBy wsX3_goesBy ({ frames := 5, cells := 0, slots := 0, locals := 116 } : Room) (va_Pc [.ref a_this, .int p1] (rf_Pre D cA ad [(a_this, .inr (3, rf_o3 a_this_s a_this_image a_this_read a_this_mind a_this_letters a_this_row a_this_refused a_this_numbers a_this_cost g_this)), (a_this_s, .inl (cA, 22, .inl f_this_s)), (a_this_mind, .inl (cA, 22, .inl f_this_mind))] sz)) (va_Qi (fun (r : Int32) (_ : Unit) => r = q.1) (fun _ t => rf_Post D (va_A [(a_this, .inr (3, rf_o3 a_this_s a_this_image a_this_read a_this_mind a_this_letters a_this_row a_this_refused a_this_numbers a_this_cost g_this)), (a_this_s, .inl (cA, 22, .inl f_this_s)), (a_this_mind, .inl (cA, 22, .inl f_this_mind))] sz) [(a_this, .inr (3, rf_o3 a_this_s a_this_image a_this_read a_this_mind a_this_letters a_this_row a_this_refused a_this_numbers a_this_cost g_this)), (a_this_s, .inl (cA, 22, .inl q.2.1)), (a_this_mind, .inl (cA, 22, .inl q.2.2))] t) (va_A [(a_this, .inr (3, rf_o3 a_this_s a_this_image a_this_read a_this_mind a_this_letters a_this_row a_this_refused a_this_numbers a_this_cost g_this)), (a_this_s, .inl (cA, 22, .inl f_this_s)), (a_this_mind, .inl (cA, 22, .inl f_this_mind))] sz)) 0 0 (va_A [(a_this, .inr (3, rf_o3 a_this_s a_this_image a_this_read a_this_mind a_this_letters a_this_row a_this_refused a_this_numbers a_this_cost g_this)), (a_this_s, .inl (cA, 22, .inl f_this_s)), (a_this_mind, .inl (cA, 22, .inl f_this_mind))] sz) := by
  refine Met.ofW (cc := cX3_goesBy) (maxL := 4) (ret := (some .int)) (by decide) rfl ?_
  intro p e s m args below meth c s₁ B hml hv
  obtain ⟨rfl, hsz, hP, hK, hD0, hE⟩ := hv
  have hx := B.exec
  have hb := B.bytes
  have hr := B.returns
  have hts := atoms_spec (ws := wsX3_goesBy) B.pre
  have hown : s.vm.findClass RX3 = some m.cls := findClass_of_methodNamed B.named
  have hlocks := B.notSynchronized
  subst hsz
  have hD := hD0.self (sz := s.heap.size)
  generalize hAe : va_A [(a_this, .inr (3, rf_o3 a_this_s a_this_image a_this_read a_this_mind a_this_letters a_this_row a_this_refused a_this_numbers a_this_cost g_this)), (a_this_s, .inl (cA, 22, .inl f_this_s)), (a_this_mind, .inl (cA, 22, .inl f_this_mind))] s.heap.size = A at hD hE ⊢
  have hA : ∀ q : Nat, s.heap.size ≤ q → A q := fun q h => by rw [← hAe]; exact Or.inr h
  have hS : va_S A s.heap s.heap [] := va_S.rf
  have hP : va_P D vwCl [(a_this, .inr (3, rf_o3 a_this_s a_this_image a_this_read a_this_mind a_this_letters a_this_row a_this_refused a_this_numbers a_this_cost g_this)), (a_this_s, .inl (cA, 22, .inl f_this_s)), (a_this_mind, .inl (cA, 22, .inl f_this_mind))] s.heap := hP
  have hl := lv_entry ([.ref a_this, .int p1]) (n := 4) (Nat.le_of_ble_eq_true rfl)
  rw [lg_entry_eq]
  generalize (lg_sl ([.ref a_this, .int p1]) ++ List.replicate (4 - (lg_sl ([.ref a_this, .int p1])).length) Slot.unset).toArray = ls at hl ⊢
  have hl : lv_has ls 4 [(0, .ref a_this), (1, .int p1)] := hl
  have key_9 : ∀ (yf_this_mind : Nat → Int32) (n : Nat) (x2 x3 : Int32) (yf_this_s : Nat → Int32) (ql : Int32 × Int32 × (Nat → Int32)), f_X3_goesBy_L9 g_this p1 yf_this_mind n x2 x3 yf_this_s = some ql → ∀ (H : Heap) (locs : List Loc) (ls : Array Slot), va_P D vwCl [(a_this, .inr (3, rf_o3 a_this_s a_this_image a_this_read a_this_mind a_this_letters a_this_row a_this_refused a_this_numbers a_this_cost g_this)), (a_this_s, .inl (cA, 22, .inl yf_this_s)), (a_this_mind, .inl (cA, 22, .inl yf_this_mind))] H → va_D A [(a_this, .inr (3, rf_o3 a_this_s a_this_image a_this_read a_this_mind a_this_letters a_this_row a_this_refused a_this_numbers a_this_cost g_this)), (a_this_s, .inl (cA, 22, .inl yf_this_s)), (a_this_mind, .inl (cA, 22, .inl yf_this_mind))] → va_S A s.heap H locs → lv_has ls 4 [(0, .ref a_this), (1, .int p1), (2, .int x2), (3, .int x3)] → (∀ (H : Heap) (locs : List Loc) (ls : Array Slot), va_P D vwCl [(a_this, .inr (3, rf_o3 a_this_s a_this_image a_this_read a_this_mind a_this_letters a_this_row a_this_refused a_this_numbers a_this_cost g_this)), (a_this_s, .inl (cA, 22, .inl ql.2.2)), (a_this_mind, .inl (cA, 22, .inl yf_this_mind))] H → va_D A [(a_this, .inr (3, rf_o3 a_this_s a_this_image a_this_read a_this_mind a_this_letters a_this_row a_this_refused a_this_numbers a_this_cost g_this)), (a_this_s, .inl (cA, 22, .inl ql.2.2)), (a_this_mind, .inl (cA, 22, .inl yf_this_mind))] → va_S A s.heap H locs → lv_has ls 4 [(0, .ref a_this), (1, .int p1), (2, .int ql.1), (3, .int ql.2.1)] → W p l e (headSpec wsX3_goesBy ({ frames := 5, cells := 0, slots := 0, locals := 116 } : Room)).room s m ([.ref a_this, .int p1] : List Value).toArray below meth c H locs 0 0 (MQ below (va_Qi (fun (r : Int32) (_ : Unit) => r = q.1) (fun _ t => rf_Post D A [(a_this, .inr (3, rf_o3 a_this_s a_this_image a_this_read a_this_mind a_this_letters a_this_row a_this_refused a_this_numbers a_this_cost g_this)), (a_this_s, .inl (cA, 22, .inl q.2.1)), (a_this_mind, .inl (cA, 22, .inl q.2.2))] t) A) ([.ref a_this, .int p1] : List Value).toArray s 0 0 A) (F0 m 40 ls [])) → W p l e (headSpec wsX3_goesBy ({ frames := 5, cells := 0, slots := 0, locals := 116 } : Room)).room s m ([.ref a_this, .int p1] : List Value).toArray below meth c H locs 0 0 (MQ below (va_Qi (fun (r : Int32) (_ : Unit) => r = q.1) (fun _ t => rf_Post D A [(a_this, .inr (3, rf_o3 a_this_s a_this_image a_this_read a_this_mind a_this_letters a_this_row a_this_refused a_this_numbers a_this_cost g_this)), (a_this_s, .inl (cA, 22, .inl q.2.1)), (a_this_mind, .inl (cA, 22, .inl q.2.2))] t) A) ([.ref a_this, .int p1] : List Value).toArray s 0 0 A) (F0 m 9 ls []) := by
    intro yf_this_mind n
    induction n with
    | zero =>
      intro x2 x3 yf_this_s ql hf H locs ls hP hD hS hl kx
      exact absurd (show (none : Option (Int32 × Int32 × (Nat → Int32))) = some ql from hf) (fun h9 => by cases h9)
    | succ n ih =>
      intro x2 x3 yf_this_s ql hf H locs ls hP hD hS hl kx
      rw [f_X3_goesBy_L9] at hf
      refine lv_iload_n hx hb dX3_goesBy_9 rfl (lv_at hl 3 rfl) ?_
      refine lv_bipush (v := 12) hx hb dX3_goesBy_10 (by decide) ?_
      refine lv_icmp_gt (tgt := 40) hx hb dX3_goesBy_12 (by decide) (fun c1 => ?_) (fun c1 => ?_)
      · have hf := rf_ifp hf c1
        obtain rfl := Option.some.inj hf
        exact kx _ _ _ hP hD hS (lv_sub hl [0, 1, 2, 3] rfl)
      · have hf := rf_ifn hf c1
        refine lv_iload_n hx hb dX3_goesBy_15 rfl (lv_at hl 2 rfl) ?_
        refine lv_if_ge (tgt := 40) hx hb dX3_goesBy_16 (by decide) (fun c2 => ?_) (fun c2 => ?_)
        · have hf := rf_ifp hf c2
          obtain rfl := Option.some.inj hf
          exact kx _ _ _ hP hD hS (lv_sub hl [0, 1, 2, 3] rfl)
        · have hf := rf_ifn hf c2
          refine lv_aload_n hx hb dX3_goesBy_19 rfl (lv_at hl 0 rfl) ?_
          refine lv_iload_n hx hb dX3_goesBy_20 rfl (lv_at hl 1 rfl) ?_
          obtain ⟨q3, hq3, hf⟩ := rf_bindq hf
          refine rf_Vi (As := [.int p1]) (rest := []) (wr := [(a_this_mind, .inl (cA, 22, .inl yf_this_mind))]) (wn := [(a_this, .inr (3, rf_o3 a_this_s a_this_image a_this_read a_this_mind a_this_letters a_this_row a_this_refused a_this_numbers a_this_cost g_this)), (a_this_s, .inl (cA, 22, .inl yf_this_s)), (a_this_mind, .inl (cA, 22, .inl yf_this_mind))]) ⟨hx, hb, hml, hown, hts⟩ hK hP hD hS hA hE (c_X3_wouldGo l D cA ad a_this a_this_s a_this_image a_this_read a_this_mind a_this_letters a_this_row a_this_refused a_this_numbers a_this_cost H.size g_this yf_this_s p1 q3 hq3) (cwV 1 hts gX3_goesBy_X3_wouldGo rfl rfl rfl hv_X3_wouldGo ⟨Nat.le_of_ble_eq_true rfl, Nat.le_of_ble_eq_true rfl⟩) [0, 1] [2] [1, 2, 0] rfl rfl rfl rfl (by decide) rfl rfl 3 0 rfl rfl rfl rfl rfl hl.1 (Nat.le_of_ble_eq_true rfl) dX3_goesBy_21 ⟨Nat.zero_le _, Nat.zero_le _⟩ (fun H locs hP hD hS => ?_)
          refine lv_if_eq (tgt := 29) hx hb dX3_goesBy_24 (by decide) (fun c4 => ?_) (fun c4 => ?_)
          · have hf := rf_ifp hf c4
            refine lv_aload_n hx hb dX3_goesBy_29 rfl (lv_at hl 0 rfl) ?_
            refine lv_iload_n hx hb dX3_goesBy_30 rfl (lv_at hl 1 rfl) ?_
            obtain ⟨q5, hq5, hf⟩ := rf_bindq hf
            refine rf_Vv (As := [.int p1]) (rest := []) (wr := [(a_this_mind, .inl (cA, 22, .inl yf_this_mind))]) (wn := [(a_this, .inr (3, rf_o3 a_this_s a_this_image a_this_read a_this_mind a_this_letters a_this_row a_this_refused a_this_numbers a_this_cost g_this)), (a_this_s, .inl (cA, 22, .inl q5)), (a_this_mind, .inl (cA, 22, .inl yf_this_mind))]) ⟨hx, hb, hml, hown, hts⟩ hK hP hD hS hA hE (c_X3_wears l D cA ad a_this a_this_s a_this_image a_this_read a_this_mind a_this_letters a_this_row a_this_refused a_this_numbers a_this_cost H.size g_this yf_this_s p1 q5 hq5) (cwV 1 hts gX3_goesBy_X3_wears rfl rfl rfl hv_X3_wears ⟨Nat.le_of_ble_eq_true rfl, Nat.le_of_ble_eq_true rfl⟩) [0, 1] [2] [1, 2, 0] rfl rfl rfl rfl (by decide) rfl rfl 3 0 rfl rfl rfl rfl rfl hl.1 (Nat.le_of_ble_eq_true rfl) dX3_goesBy_31 ⟨Nat.zero_le _, Nat.zero_le _⟩ (fun H locs hP hD hS => ?_)
            obtain ⟨v6, ev6⟩ : ∃ y : Int32, y = x3 + 1 := ⟨_, rfl⟩
            have hf := rf_bindv hf ev6
            refine lv_iinc (v := v6) (lv' := [(3, .int v6), (0, .ref a_this), (1, .int p1), (2, .int x2)]) hx hb dX3_goesBy_34 hl (k := 3) rfl (by rw [ev6]; rfl) (by decide) rfl (fun ls hl => ?_)
            clear ev6
            refine lv_goto (tgt := 9) hx hb dX3_goesBy_37 (by decide) ?_
            exact ih x2 v6 q5 ql hf _ _ _ hP hD hS (lv_sub hl [1, 2, 3, 0] rfl) kx
          · have hf := rf_ifn hf c4
            refine lv_iload_n hx hb dX3_goesBy_27 rfl (lv_at hl 3 rfl) ?_
            refine lv_istore_n (lv' := [(2, .int x3), (0, .ref a_this), (1, .int p1), (3, .int x3)]) hx hb dX3_goesBy_28 rfl hl (by decide) rfl (fun ls hl => ?_)
            refine lv_aload_n hx hb dX3_goesBy_29 rfl (lv_at hl 1 rfl) ?_
            refine lv_iload_n hx hb dX3_goesBy_30 rfl (lv_at hl 2 rfl) ?_
            obtain ⟨q7, hq7, hf⟩ := rf_bindq hf
            refine rf_Vv (As := [.int p1]) (rest := []) (wr := [(a_this_mind, .inl (cA, 22, .inl yf_this_mind))]) (wn := [(a_this, .inr (3, rf_o3 a_this_s a_this_image a_this_read a_this_mind a_this_letters a_this_row a_this_refused a_this_numbers a_this_cost g_this)), (a_this_s, .inl (cA, 22, .inl q7)), (a_this_mind, .inl (cA, 22, .inl yf_this_mind))]) ⟨hx, hb, hml, hown, hts⟩ hK hP hD hS hA hE (c_X3_wears l D cA ad a_this a_this_s a_this_image a_this_read a_this_mind a_this_letters a_this_row a_this_refused a_this_numbers a_this_cost H.size g_this yf_this_s p1 q7 hq7) (cwV 1 hts gX3_goesBy_X3_wears rfl rfl rfl hv_X3_wears ⟨Nat.le_of_ble_eq_true rfl, Nat.le_of_ble_eq_true rfl⟩) [0, 1] [2] [1, 2, 0] rfl rfl rfl rfl (by decide) rfl rfl 3 0 rfl rfl rfl rfl rfl hl.1 (Nat.le_of_ble_eq_true rfl) dX3_goesBy_31 ⟨Nat.zero_le _, Nat.zero_le _⟩ (fun H locs hP hD hS => ?_)
            obtain ⟨v8, ev8⟩ : ∃ y : Int32, y = x3 + 1 := ⟨_, rfl⟩
            have hf := rf_bindv hf ev8
            refine lv_iinc (v := v8) (lv' := [(3, .int v8), (2, .int x3), (0, .ref a_this), (1, .int p1)]) hx hb dX3_goesBy_34 hl (k := 3) rfl (by rw [ev8]; rfl) (by decide) rfl (fun ls hl => ?_)
            clear ev8
            refine lv_goto (tgt := 9) hx hb dX3_goesBy_37 (by decide) ?_
            exact ih x3 v8 q7 ql hf _ _ _ hP hD hS (lv_sub hl [2, 3, 1, 0] rfl) kx
  rw [f_X3_goesBy] at hf
  refine lv_aload_n hx hb dX3_goesBy_0 rfl (lv_at hl 0 rfl) ?_
  obtain ⟨q9, hq9, hf⟩ := rf_bindq hf
  refine rf_Vv (As := []) (rest := []) (wr := []) (wn := [(a_this, .inr (3, rf_o3 a_this_s a_this_image a_this_read a_this_mind a_this_letters a_this_row a_this_refused a_this_numbers a_this_cost g_this)), (a_this_s, .inl (cA, 22, .inl f_this_s)), (a_this_mind, .inl (cA, 22, .inl q9))]) ⟨hx, hb, hml, hown, hts⟩ hK hP hD hS hA hE (c_X3_begins l D cA ad a_this a_this_s a_this_image a_this_read a_this_mind a_this_letters a_this_row a_this_refused a_this_numbers a_this_cost s.heap.size g_this f_this_s f_this_mind q9 hq9) (cwV 0 hts gX3_goesBy_X3_begins rfl rfl rfl hv_X3_begins ⟨Nat.le_of_ble_eq_true rfl, Nat.le_of_ble_eq_true rfl⟩) [0, 1, 2] [] [0, 1, 2] rfl rfl rfl rfl (by decide) rfl rfl 3 0 rfl rfl rfl rfl rfl hl.1 (Nat.le_of_ble_eq_true rfl) dX3_goesBy_1 ⟨Nat.zero_le _, Nat.zero_le _⟩ (fun H locs hP hD hS => ?_)
  refine lv_bipush (v := (-9)) hx hb dX3_goesBy_4 (by decide) ?_
  refine lv_istore_n (lv' := [(2, .int (-9)), (0, .ref a_this), (1, .int p1)]) hx hb dX3_goesBy_6 rfl hl (by decide) rfl (fun ls hl => ?_)
  refine lv_iconst (v := 0) hx hb dX3_goesBy_7 (by decide) ?_
  refine lv_istore_n (lv' := [(3, .int 0), (2, .int (-9)), (0, .ref a_this), (1, .int p1)]) hx hb dX3_goesBy_8 rfl hl (by decide) rfl (fun ls hl => ?_)
  obtain ⟨q10, hq10, hf⟩ := rf_bindq hf
  refine key_9 q9 rf_fu (-9) 0 f_this_s q10 hq10 _ _ _ hP hD hS (lv_sub hl [2, 3, 1, 0] rfl) (fun H locs ls hP hD hS hl => ?_)
  refine lv_aload_n hx hb dX3_goesBy_40 rfl (lv_at hl 0 rfl) ?_
  obtain ⟨q11, hq11, hf⟩ := rf_bindq hf
  refine rf_Vv (As := []) (rest := []) (wr := []) (wn := [(a_this, .inr (3, rf_o3 a_this_s a_this_image a_this_read a_this_mind a_this_letters a_this_row a_this_refused a_this_numbers a_this_cost g_this)), (a_this_s, .inl (cA, 22, .inl q11)), (a_this_mind, .inl (cA, 22, .inl q9))]) ⟨hx, hb, hml, hown, hts⟩ hK hP hD hS hA hE (c_X3_ends l D cA ad a_this a_this_s a_this_image a_this_read a_this_mind a_this_letters a_this_row a_this_refused a_this_numbers a_this_cost H.size g_this q10.2.2 q9 q11 hq11) (cwV 0 hts gX3_goesBy_X3_ends rfl rfl rfl hv_X3_ends ⟨Nat.le_of_ble_eq_true rfl, Nat.le_of_ble_eq_true rfl⟩) [0, 1, 2] [] [0, 1, 2] rfl rfl rfl rfl (by decide) rfl rfl 3 0 rfl rfl rfl rfl rfl hl.1 (Nat.le_of_ble_eq_true rfl) dX3_goesBy_41 ⟨Nat.zero_le _, Nat.zero_le _⟩ (fun H locs hP hD hS => ?_)
  refine lv_iload_n hx hb dX3_goesBy_44 rfl (lv_at hl 2 rfl) ?_
  obtain rfl := Option.some.inj hf
  exact W.iret (v := q10.1) hx hb hr (fun t ht hW => ⟨⟨q10.1, (), rfl, rfl, rf_mk ht hP hD⟩, hS.F ht⟩) hS.2.2 dX3_goesBy_45

set_option maxHeartbeats 8000000 in
set_option maxRecDepth 100000 in
theorem c_X3_goes (l : Launch) (D : va_G) (cA : ClassId) (ad : Nat → Nat) (a_this a_this_s a_this_image a_this_read a_this_mind a_this_letters a_this_row a_this_refused a_this_numbers a_this_cost : Nat) (sz : Nat) (g_this f_this_s f_this_mind f_this_refused : Nat → Int32) (p1 : Int32) (q : Int32 × (Nat → Int32) × (Nat → Int32) × (Nat → Int32)) (hf : f_X3_goes g_this f_this_s f_this_mind f_this_refused p1 = some q) : Met l yX3_goes wsX3_goes ({ frames := 6, cells := 0, slots := 0, locals := 139 } : Room) (va_Pc [.ref a_this, .int p1] (rf_Pre D cA ad [(a_this, .inr (3, rf_o3 a_this_s a_this_image a_this_read a_this_mind a_this_letters a_this_row a_this_refused a_this_numbers a_this_cost g_this)), (a_this_s, .inl (cA, 22, .inl f_this_s)), (a_this_mind, .inl (cA, 22, .inl f_this_mind)), (a_this_refused, .inl (cA, 7, .inl f_this_refused))] sz)) (va_Qi (fun (r : Int32) (_ : Unit) => r = q.1) (fun _ t => rf_Post D (va_A [(a_this, .inr (3, rf_o3 a_this_s a_this_image a_this_read a_this_mind a_this_letters a_this_row a_this_refused a_this_numbers a_this_cost g_this)), (a_this_s, .inl (cA, 22, .inl f_this_s)), (a_this_mind, .inl (cA, 22, .inl f_this_mind)), (a_this_refused, .inl (cA, 7, .inl f_this_refused))] sz) [(a_this, .inr (3, rf_o3 a_this_s a_this_image a_this_read a_this_mind a_this_letters a_this_row a_this_refused a_this_numbers a_this_cost g_this)), (a_this_s, .inl (cA, 22, .inl q.2.1)), (a_this_mind, .inl (cA, 22, .inl q.2.2.1)), (a_this_refused, .inl (cA, 7, .inl q.2.2.2))] t) (va_A [(a_this, .inr (3, rf_o3 a_this_s a_this_image a_this_read a_this_mind a_this_letters a_this_row a_this_refused a_this_numbers a_this_cost g_this)), (a_this_s, .inl (cA, 22, .inl f_this_s)), (a_this_mind, .inl (cA, 22, .inl f_this_mind)), (a_this_refused, .inl (cA, 7, .inl f_this_refused))] sz)) 0 0 (va_A [(a_this, .inr (3, rf_o3 a_this_s a_this_image a_this_read a_this_mind a_this_letters a_this_row a_this_refused a_this_numbers a_this_cost g_this)), (a_this_s, .inl (cA, 22, .inl f_this_s)), (a_this_mind, .inl (cA, 22, .inl f_this_mind)), (a_this_refused, .inl (cA, 7, .inl f_this_refused))] sz) := by
  refine Met.ofW (cc := cX3_goes) (maxL := 3) (ret := (some .int)) (by decide) rfl ?_
  intro p e s m args below meth c s₁ B hml hv
  obtain ⟨rfl, hsz, hP, hK, hD0, hE⟩ := hv
  have hx := B.exec
  have hb := B.bytes
  have hr := B.returns
  have hts := atoms_spec (ws := wsX3_goes) B.pre
  have hown : s.vm.findClass RX3 = some m.cls := findClass_of_methodNamed B.named
  have hlocks := B.notSynchronized
  subst hsz
  have hD := hD0.self (sz := s.heap.size)
  generalize hAe : va_A [(a_this, .inr (3, rf_o3 a_this_s a_this_image a_this_read a_this_mind a_this_letters a_this_row a_this_refused a_this_numbers a_this_cost g_this)), (a_this_s, .inl (cA, 22, .inl f_this_s)), (a_this_mind, .inl (cA, 22, .inl f_this_mind)), (a_this_refused, .inl (cA, 7, .inl f_this_refused))] s.heap.size = A at hD hE ⊢
  have hA : ∀ q : Nat, s.heap.size ≤ q → A q := fun q h => by rw [← hAe]; exact Or.inr h
  have hS : va_S A s.heap s.heap [] := va_S.rf
  have hP : va_P D vwCl [(a_this, .inr (3, rf_o3 a_this_s a_this_image a_this_read a_this_mind a_this_letters a_this_row a_this_refused a_this_numbers a_this_cost g_this)), (a_this_s, .inl (cA, 22, .inl f_this_s)), (a_this_mind, .inl (cA, 22, .inl f_this_mind)), (a_this_refused, .inl (cA, 7, .inl f_this_refused))] s.heap := hP
  have hl := lv_entry ([.ref a_this, .int p1]) (n := 3) (Nat.le_of_ble_eq_true rfl)
  rw [lg_entry_eq]
  generalize (lg_sl ([.ref a_this, .int p1]) ++ List.replicate (3 - (lg_sl ([.ref a_this, .int p1])).length) Slot.unset).toArray = ls at hl ⊢
  have hl : lv_has ls 3 [(0, .ref a_this), (1, .int p1)] := hl
  rw [f_X3_goes] at hf
  refine lv_aload_n hx hb dX3_goes_0 rfl (lv_at hl 0 rfl) ?_
  refine lv_iload_n hx hb dX3_goes_1 rfl (lv_at hl 1 rfl) ?_
  obtain ⟨q1, hq1, hf⟩ := rf_bindq hf
  refine rf_Vi (As := [.int p1]) (rest := []) (wr := [(a_this_mind, .inl (cA, 22, .inl f_this_mind)), (a_this_refused, .inl (cA, 7, .inl f_this_refused))]) (wn := [(a_this, .inr (3, rf_o3 a_this_s a_this_image a_this_read a_this_mind a_this_letters a_this_row a_this_refused a_this_numbers a_this_cost g_this)), (a_this_s, .inl (cA, 22, .inl f_this_s)), (a_this_mind, .inl (cA, 22, .inl f_this_mind)), (a_this_refused, .inl (cA, 7, .inl f_this_refused))]) ⟨hx, hb, hml, hown, hts⟩ hK hP hD hS hA hE (c_X3_wrongTry l D cA ad a_this a_this_s a_this_image a_this_read a_this_mind a_this_letters a_this_row a_this_refused a_this_numbers a_this_cost s.heap.size g_this f_this_s p1 q1 hq1) (cwV 1 hts gX3_goes_X3_wrongTry rfl rfl rfl hv_X3_wrongTry ⟨Nat.le_of_ble_eq_true rfl, Nat.le_of_ble_eq_true rfl⟩) [0, 1] [2, 3] [2, 3, 0, 1] rfl rfl rfl rfl (by decide) rfl rfl 3 0 rfl rfl rfl rfl rfl hl.1 (Nat.le_of_ble_eq_true rfl) dX3_goes_2 ⟨Nat.zero_le _, Nat.zero_le _⟩ (fun H locs hP hD hS => ?_)
  refine lv_istore_n (lv' := [(2, .int q1), (0, .ref a_this), (1, .int p1)]) hx hb dX3_goes_5 rfl hl (by decide) rfl (fun ls hl => ?_)
  refine lv_iload_n hx hb dX3_goes_6 rfl (lv_at hl 0 rfl) ?_
  refine lv_if_eq (tgt := 18) hx hb dX3_goes_7 (by decide) (fun c2 => ?_) (fun c2 => ?_)
  · have hf := rf_ifp hf c2
    refine lv_aload_n hx hb dX3_goes_18 rfl (lv_at hl 1 rfl) ?_
    refine lv_iload_n hx hb dX3_goes_19 rfl (lv_at hl 2 rfl) ?_
    obtain ⟨q3, hq3, hf⟩ := rf_bindq hf
    refine rf_Vi (As := [.int p1]) (rest := []) (wr := [(a_this_refused, .inl (cA, 7, .inl f_this_refused))]) (wn := [(a_this, .inr (3, rf_o3 a_this_s a_this_image a_this_read a_this_mind a_this_letters a_this_row a_this_refused a_this_numbers a_this_cost g_this)), (a_this_s, .inl (cA, 22, .inl q3.2.1)), (a_this_mind, .inl (cA, 22, .inl q3.2.2)), (a_this_refused, .inl (cA, 7, .inl f_this_refused))]) ⟨hx, hb, hml, hown, hts⟩ hK hP hD hS hA hE (c_X3_goesBy l D cA ad a_this a_this_s a_this_image a_this_read a_this_mind a_this_letters a_this_row a_this_refused a_this_numbers a_this_cost H.size g_this f_this_s f_this_mind p1 q3 hq3) (cwV 1 hts gX3_goes_X3_goesBy rfl rfl rfl hv_X3_goesBy ⟨Nat.le_of_ble_eq_true rfl, Nat.le_of_ble_eq_true rfl⟩) [0, 1, 2] [3] [1, 2, 3, 0] rfl rfl rfl rfl (by decide) rfl rfl 3 0 rfl rfl rfl rfl rfl hl.1 (Nat.le_of_ble_eq_true rfl) dX3_goes_20 ⟨Nat.zero_le _, Nat.zero_le _⟩ (fun H locs hP hD hS => ?_)
    obtain rfl := Option.some.inj hf
    exact W.iret (v := q3.1) hx hb hr (fun t ht hW => ⟨⟨q3.1, (), rfl, rfl, rf_mk ht hP hD⟩, hS.F ht⟩) hS.2.2 dX3_goes_23
  · have hf := rf_ifn hf c2
    refine lv_aload_n hx hb dX3_goes_10 rfl (lv_at hl 1 rfl) ?_
    refine lv_iload_n hx hb dX3_goes_11 rfl (lv_at hl 0 rfl) ?_
    obtain ⟨q4, hq4, hf⟩ := rf_bindq hf
    refine rf_Vi (As := [.int q1]) (rest := []) (wr := [(a_this_s, .inl (cA, 22, .inl f_this_s)), (a_this_mind, .inl (cA, 22, .inl f_this_mind))]) (wn := [(a_this, .inr (3, rf_o3 a_this_s a_this_image a_this_read a_this_mind a_this_letters a_this_row a_this_refused a_this_numbers a_this_cost g_this)), (a_this_s, .inl (cA, 22, .inl f_this_s)), (a_this_mind, .inl (cA, 22, .inl f_this_mind)), (a_this_refused, .inl (cA, 7, .inl q4.2))]) ⟨hx, hb, hml, hown, hts⟩ hK hP hD hS hA hE (c_X3_no l D cA ad a_this a_this_s a_this_image a_this_read a_this_mind a_this_letters a_this_row a_this_refused a_this_numbers a_this_cost H.size g_this f_this_refused q1 q4 hq4) (cwV 1 hts gX3_goes_X3_no rfl rfl rfl hv_X3_no ⟨Nat.le_of_ble_eq_true rfl, Nat.le_of_ble_eq_true rfl⟩) [0, 3] [1, 2] [2, 0, 1, 3] rfl rfl rfl rfl (by decide) rfl rfl 3 0 rfl rfl rfl rfl rfl hl.1 (Nat.le_of_ble_eq_true rfl) dX3_goes_12 ⟨Nat.zero_le _, Nat.zero_le _⟩ (fun H locs hP hD hS => ?_)
    refine lv_goto (tgt := 23) hx hb dX3_goes_15 (by decide) ?_
    obtain rfl := Option.some.inj hf
    exact W.iret (v := q4.1) hx hb hr (fun t ht hW => ⟨⟨q4.1, (), rfl, rfl, rf_mk ht hP hD⟩, hS.F ht⟩) hS.2.2 dX3_goes_23
theorem kX3_stop_0 : (.constant RX3 41 (1000000000) : Cond) ∈ wsX3_stop := by decide +kernel
set_option maxHeartbeats 8000000 in
set_option maxRecDepth 100000 in
theorem c_X3_stop (l : Launch) (D : va_G) (cA : ClassId) (ad : Nat → Nat) (a_this a_this_s a_this_image a_this_read a_this_mind a_this_letters a_this_row a_this_refused a_this_numbers a_this_cost : Nat) (sz : Nat) (g_this f_this_s f_this_mind f_this_refused : Nat → Int32) (q : Int32 × (Nat → Int32) × (Nat → Int32) × (Nat → Int32)) (hf : f_X3_stop g_this f_this_s f_this_mind f_this_refused = some q) : Met l yX3_stop wsX3_stop ({ frames := 6, cells := 0, slots := 0, locals := 139 } : Room) (va_Pc [.ref a_this] (rf_Pre D cA ad [(a_this, .inr (3, rf_o3 a_this_s a_this_image a_this_read a_this_mind a_this_letters a_this_row a_this_refused a_this_numbers a_this_cost g_this)), (a_this_s, .inl (cA, 22, .inl f_this_s)), (a_this_mind, .inl (cA, 22, .inl f_this_mind)), (a_this_refused, .inl (cA, 7, .inl f_this_refused))] sz)) (va_Qi (fun (r : Int32) (_ : Unit) => r = q.1) (fun _ t => rf_Post D (va_A [(a_this, .inr (3, rf_o3 a_this_s a_this_image a_this_read a_this_mind a_this_letters a_this_row a_this_refused a_this_numbers a_this_cost g_this)), (a_this_s, .inl (cA, 22, .inl f_this_s)), (a_this_mind, .inl (cA, 22, .inl f_this_mind)), (a_this_refused, .inl (cA, 7, .inl f_this_refused))] sz) [(a_this, .inr (3, rf_o3 a_this_s a_this_image a_this_read a_this_mind a_this_letters a_this_row a_this_refused a_this_numbers a_this_cost g_this)), (a_this_s, .inl (cA, 22, .inl q.2.1)), (a_this_mind, .inl (cA, 22, .inl q.2.2.1)), (a_this_refused, .inl (cA, 7, .inl q.2.2.2))] t) (va_A [(a_this, .inr (3, rf_o3 a_this_s a_this_image a_this_read a_this_mind a_this_letters a_this_row a_this_refused a_this_numbers a_this_cost g_this)), (a_this_s, .inl (cA, 22, .inl f_this_s)), (a_this_mind, .inl (cA, 22, .inl f_this_mind)), (a_this_refused, .inl (cA, 7, .inl f_this_refused))] sz)) 0 0 (va_A [(a_this, .inr (3, rf_o3 a_this_s a_this_image a_this_read a_this_mind a_this_letters a_this_row a_this_refused a_this_numbers a_this_cost g_this)), (a_this_s, .inl (cA, 22, .inl f_this_s)), (a_this_mind, .inl (cA, 22, .inl f_this_mind)), (a_this_refused, .inl (cA, 7, .inl f_this_refused))] sz) := by
  refine Met.ofW (cc := cX3_stop) (maxL := 5) (ret := (some .int)) (by decide) rfl ?_
  intro p e s m args below meth c s₁ B hml hv
  obtain ⟨rfl, hsz, hP, hK, hD0, hE⟩ := hv
  have hx := B.exec
  have hb := B.bytes
  have hr := B.returns
  have hts := atoms_spec (ws := wsX3_stop) B.pre
  have hown : s.vm.findClass RX3 = some m.cls := findClass_of_methodNamed B.named
  have hlocks := B.notSynchronized
  subst hsz
  have hD := hD0.self (sz := s.heap.size)
  generalize hAe : va_A [(a_this, .inr (3, rf_o3 a_this_s a_this_image a_this_read a_this_mind a_this_letters a_this_row a_this_refused a_this_numbers a_this_cost g_this)), (a_this_s, .inl (cA, 22, .inl f_this_s)), (a_this_mind, .inl (cA, 22, .inl f_this_mind)), (a_this_refused, .inl (cA, 7, .inl f_this_refused))] s.heap.size = A at hD hE ⊢
  have hA : ∀ q : Nat, s.heap.size ≤ q → A q := fun q h => by rw [← hAe]; exact Or.inr h
  have hS : va_S A s.heap s.heap [] := va_S.rf
  have hP : va_P D vwCl [(a_this, .inr (3, rf_o3 a_this_s a_this_image a_this_read a_this_mind a_this_letters a_this_row a_this_refused a_this_numbers a_this_cost g_this)), (a_this_s, .inl (cA, 22, .inl f_this_s)), (a_this_mind, .inl (cA, 22, .inl f_this_mind)), (a_this_refused, .inl (cA, 7, .inl f_this_refused))] s.heap := hP
  have hl := lv_entry ([.ref a_this]) (n := 5) (Nat.le_of_ble_eq_true rfl)
  rw [lg_entry_eq]
  generalize (lg_sl ([.ref a_this]) ++ List.replicate (5 - (lg_sl ([.ref a_this])).length) Slot.unset).toArray = ls at hl ⊢
  have hl : lv_has ls 5 [(0, .ref a_this)] := hl
  have key_22 : ∀ (yf_this_refused : Nat → Int32) (n : Nat) (x1 x2 x3 : Int32) (yf_this_s yf_this_mind : Nat → Int32) (ql : Int32 × Int32 × Int32 × (Nat → Int32) × (Nat → Int32)), f_X3_stop_L22 g_this yf_this_refused n x1 x2 x3 yf_this_s yf_this_mind = some ql → ∀ (H : Heap) (locs : List Loc) (ls : Array Slot), va_P D vwCl [(a_this, .inr (3, rf_o3 a_this_s a_this_image a_this_read a_this_mind a_this_letters a_this_row a_this_refused a_this_numbers a_this_cost g_this)), (a_this_s, .inl (cA, 22, .inl yf_this_s)), (a_this_mind, .inl (cA, 22, .inl yf_this_mind)), (a_this_refused, .inl (cA, 7, .inl yf_this_refused))] H → va_D A [(a_this, .inr (3, rf_o3 a_this_s a_this_image a_this_read a_this_mind a_this_letters a_this_row a_this_refused a_this_numbers a_this_cost g_this)), (a_this_s, .inl (cA, 22, .inl yf_this_s)), (a_this_mind, .inl (cA, 22, .inl yf_this_mind)), (a_this_refused, .inl (cA, 7, .inl yf_this_refused))] → va_S A s.heap H locs → lv_has ls 5 [(0, .ref a_this), (1, .int x1), (2, .int x2), (3, .int x3)] → (∀ (H : Heap) (locs : List Loc) (ls : Array Slot), va_P D vwCl [(a_this, .inr (3, rf_o3 a_this_s a_this_image a_this_read a_this_mind a_this_letters a_this_row a_this_refused a_this_numbers a_this_cost g_this)), (a_this_s, .inl (cA, 22, .inl ql.2.2.2.1)), (a_this_mind, .inl (cA, 22, .inl ql.2.2.2.2)), (a_this_refused, .inl (cA, 7, .inl yf_this_refused))] H → va_D A [(a_this, .inr (3, rf_o3 a_this_s a_this_image a_this_read a_this_mind a_this_letters a_this_row a_this_refused a_this_numbers a_this_cost g_this)), (a_this_s, .inl (cA, 22, .inl ql.2.2.2.1)), (a_this_mind, .inl (cA, 22, .inl ql.2.2.2.2)), (a_this_refused, .inl (cA, 7, .inl yf_this_refused))] → va_S A s.heap H locs → lv_has ls 5 [(0, .ref a_this), (1, .int ql.1), (2, .int ql.2.1), (3, .int ql.2.2.1)] → W p l e (headSpec wsX3_stop ({ frames := 6, cells := 0, slots := 0, locals := 139 } : Room)).room s m ([.ref a_this] : List Value).toArray below meth c H locs 0 0 (MQ below (va_Qi (fun (r : Int32) (_ : Unit) => r = q.1) (fun _ t => rf_Post D A [(a_this, .inr (3, rf_o3 a_this_s a_this_image a_this_read a_this_mind a_this_letters a_this_row a_this_refused a_this_numbers a_this_cost g_this)), (a_this_s, .inl (cA, 22, .inl q.2.1)), (a_this_mind, .inl (cA, 22, .inl q.2.2.1)), (a_this_refused, .inl (cA, 7, .inl q.2.2.2))] t) A) ([.ref a_this] : List Value).toArray s 0 0 A) (F0 m 60 ls [])) → W p l e (headSpec wsX3_stop ({ frames := 6, cells := 0, slots := 0, locals := 139 } : Room)).room s m ([.ref a_this] : List Value).toArray below meth c H locs 0 0 (MQ below (va_Qi (fun (r : Int32) (_ : Unit) => r = q.1) (fun _ t => rf_Post D A [(a_this, .inr (3, rf_o3 a_this_s a_this_image a_this_read a_this_mind a_this_letters a_this_row a_this_refused a_this_numbers a_this_cost g_this)), (a_this_s, .inl (cA, 22, .inl q.2.1)), (a_this_mind, .inl (cA, 22, .inl q.2.2.1)), (a_this_refused, .inl (cA, 7, .inl q.2.2.2))] t) A) ([.ref a_this] : List Value).toArray s 0 0 A) (F0 m 22 ls []) := by
    intro yf_this_refused n
    induction n with
    | zero =>
      intro x1 x2 x3 yf_this_s yf_this_mind ql hf H locs ls hP hD hS hl kx
      exact absurd (show (none : Option (Int32 × Int32 × Int32 × (Nat → Int32) × (Nat → Int32))) = some ql from hf) (fun h9 => by cases h9)
    | succ n ih =>
      intro x1 x2 x3 yf_this_s yf_this_mind ql hf H locs ls hP hD hS hl kx
      rw [f_X3_stop_L22] at hf
      refine lv_iload_n hx hb dX3_stop_22 rfl (lv_at hl 3 rfl) ?_
      refine lv_bipush (v := 7) hx hb dX3_stop_23 (by decide) ?_
      refine lv_icmp_ge (tgt := 60) hx hb dX3_stop_25 (by decide) (fun c1 => ?_) (fun c1 => ?_)
      · have hf := rf_ifp hf c1
        obtain rfl := Option.some.inj hf
        exact kx _ _ _ hP hD hS (lv_sub hl [0, 1, 2, 3] rfl)
      · have hf := rf_ifn hf c1
        refine lv_aload_n hx hb dX3_stop_28 rfl (lv_at hl 0 rfl) ?_
        refine lv_iload_n hx hb dX3_stop_29 rfl (lv_at hl 3 rfl) ?_
        obtain ⟨q2, hq2, hf⟩ := rf_bindq hf
        refine rf_Vi (As := [.int x3]) (rest := []) (wr := [(a_this_refused, .inl (cA, 7, .inl yf_this_refused))]) (wn := [(a_this, .inr (3, rf_o3 a_this_s a_this_image a_this_read a_this_mind a_this_letters a_this_row a_this_refused a_this_numbers a_this_cost g_this)), (a_this_s, .inl (cA, 22, .inl q2.2.1)), (a_this_mind, .inl (cA, 22, .inl q2.2.2)), (a_this_refused, .inl (cA, 7, .inl yf_this_refused))]) ⟨hx, hb, hml, hown, hts⟩ hK hP hD hS hA hE (c_X3_goesBy l D cA ad a_this a_this_s a_this_image a_this_read a_this_mind a_this_letters a_this_row a_this_refused a_this_numbers a_this_cost H.size g_this yf_this_s yf_this_mind x3 q2 hq2) (cwV 1 hts gX3_stop_X3_goesBy rfl rfl rfl hv_X3_goesBy ⟨Nat.le_of_ble_eq_true rfl, Nat.le_of_ble_eq_true rfl⟩) [0, 1, 2] [3] [1, 2, 3, 0] rfl rfl rfl rfl (by decide) rfl rfl 3 0 rfl rfl rfl rfl rfl hl.1 (Nat.le_of_ble_eq_true rfl) dX3_stop_30 ⟨Nat.zero_le _, Nat.zero_le _⟩ (fun H locs hP hD hS => ?_)
        refine lv_istore (lv' := [(4, .int q2.1), (0, .ref a_this), (1, .int x1), (2, .int x2), (3, .int x3)]) hx hb dX3_stop_33 hl (by decide) rfl (fun ls hl => ?_)
        refine lv_iload hx hb dX3_stop_35 (lv_at hl 0 rfl) ?_
        refine lv_if_lt (tgt := 54) hx hb dX3_stop_37 (by decide) (fun c3 => ?_) (fun c3 => ?_)
        · have hf := rf_ifp hf c3
          obtain ⟨v4, ev4⟩ : ∃ y : Int32, y = x3 + 1 := ⟨_, rfl⟩
          have hf := rf_bindv hf ev4
          refine lv_iinc (v := v4) (lv' := [(3, .int v4), (4, .int q2.1), (0, .ref a_this), (1, .int x1), (2, .int x2)]) hx hb dX3_stop_54 hl (k := 4) rfl (by rw [ev4]; rfl) (by decide) rfl (fun ls hl => ?_)
          clear ev4
          refine lv_goto (tgt := 22) hx hb dX3_stop_57 (by decide) ?_
          exact ih x1 x2 v4 q2.2.1 q2.2.2 ql hf _ _ _ hP hD hS (lv_sub hl [2, 3, 4, 0] rfl) kx
        · have hf := rf_ifn hf c3
          refine lv_iload hx hb dX3_stop_40 (lv_at hl 0 rfl) ?_
          refine lv_iload_n hx hb dX3_stop_42 rfl (lv_at hl 3 rfl) ?_
          refine lv_icmp_lt (tgt := 49) hx hb dX3_stop_43 (by decide) (fun c5 => ?_) (fun c5 => ?_)
          · have hf := rf_ifp hf c5
            refine lv_iload_n hx hb dX3_stop_49 rfl (lv_at hl 4 rfl) ?_
            refine lv_istore_n (lv' := [(1, .int x3), (4, .int q2.1), (0, .ref a_this), (2, .int x2), (3, .int x3)]) hx hb dX3_stop_50 rfl hl (by decide) rfl (fun ls hl => ?_)
            refine lv_iload hx hb dX3_stop_51 (lv_at hl 1 rfl) ?_
            refine lv_istore_n (lv' := [(2, .int q2.1), (1, .int x3), (4, .int q2.1), (0, .ref a_this), (3, .int x3)]) hx hb dX3_stop_53 rfl hl (by decide) rfl (fun ls hl => ?_)
            obtain ⟨v6, ev6⟩ : ∃ y : Int32, y = x3 + 1 := ⟨_, rfl⟩
            have hf := rf_bindv hf ev6
            refine lv_iinc (v := v6) (lv' := [(3, .int v6), (2, .int q2.1), (1, .int x3), (4, .int q2.1), (0, .ref a_this)]) hx hb dX3_stop_54 hl (k := 4) rfl (by rw [ev6]; rfl) (by decide) rfl (fun ls hl => ?_)
            clear ev6
            refine lv_goto (tgt := 22) hx hb dX3_stop_57 (by decide) ?_
            exact ih x3 q2.1 v6 q2.2.1 q2.2.2 ql hf _ _ _ hP hD hS (lv_sub hl [4, 2, 1, 0] rfl) kx
          · have hf := rf_ifn hf c5
            refine lv_goto (tgt := 54) hx hb dX3_stop_46 (by decide) ?_
            obtain ⟨v7, ev7⟩ : ∃ y : Int32, y = x3 + 1 := ⟨_, rfl⟩
            have hf := rf_bindv hf ev7
            refine lv_iinc (v := v7) (lv' := [(3, .int v7), (4, .int q2.1), (0, .ref a_this), (1, .int x1), (2, .int x2)]) hx hb dX3_stop_54 hl (k := 4) rfl (by rw [ev7]; rfl) (by decide) rfl (fun ls hl => ?_)
            clear ev7
            refine lv_goto (tgt := 22) hx hb dX3_stop_57 (by decide) ?_
            exact ih x1 x2 v7 q2.2.1 q2.2.2 ql hf _ _ _ hP hD hS (lv_sub hl [2, 3, 4, 0] rfl) kx
  rw [f_X3_stop] at hf
  refine lv_aload_n hx hb dX3_stop_0 rfl (lv_at hl 0 rfl) ?_
  obtain ⟨q8, hq8, hf⟩ := rf_bindq hf
  refine rf_Vi (As := []) (rest := []) (wr := [(a_this_mind, .inl (cA, 22, .inl f_this_mind)), (a_this_refused, .inl (cA, 7, .inl f_this_refused))]) (wn := [(a_this, .inr (3, rf_o3 a_this_s a_this_image a_this_read a_this_mind a_this_letters a_this_row a_this_refused a_this_numbers a_this_cost g_this)), (a_this_s, .inl (cA, 22, .inl f_this_s)), (a_this_mind, .inl (cA, 22, .inl f_this_mind)), (a_this_refused, .inl (cA, 7, .inl f_this_refused))]) ⟨hx, hb, hml, hown, hts⟩ hK hP hD hS hA hE (c_X3_isOff l D cA ad a_this a_this_s a_this_image a_this_read a_this_mind a_this_letters a_this_row a_this_refused a_this_numbers a_this_cost s.heap.size g_this f_this_s q8 hq8) (cwV 0 hts gX3_stop_X3_isOff rfl rfl rfl hv_X3_isOff ⟨Nat.le_of_ble_eq_true rfl, Nat.le_of_ble_eq_true rfl⟩) [0, 1] [2, 3] [2, 3, 0, 1] rfl rfl rfl rfl (by decide) rfl rfl 3 0 rfl rfl rfl rfl rfl hl.1 (Nat.le_of_ble_eq_true rfl) dX3_stop_1 ⟨Nat.zero_le _, Nat.zero_le _⟩ (fun H locs hP hD hS => ?_)
  refine lv_if_eq (tgt := 14) hx hb dX3_stop_4 (by decide) (fun c9 => ?_) (fun c9 => ?_)
  · have hf := rf_ifp hf c9
    refine lv_bipush (v := (-9)) hx hb dX3_stop_14 (by decide) ?_
    refine lv_istore_n (lv' := [(1, .int (-9)), (0, .ref a_this)]) hx hb dX3_stop_16 rfl hl (by decide) rfl (fun ls hl => ?_)
    refine lv_ldc hx hb hown (hts _ kX3_stop_0) dX3_stop_17 ?_
    refine lv_istore_n (lv' := [(2, .int 1000000000), (1, .int (-9)), (0, .ref a_this)]) hx hb dX3_stop_19 rfl hl (by decide) rfl (fun ls hl => ?_)
    refine lv_iconst (v := 0) hx hb dX3_stop_20 (by decide) ?_
    refine lv_istore_n (lv' := [(3, .int 0), (2, .int 1000000000), (1, .int (-9)), (0, .ref a_this)]) hx hb dX3_stop_21 rfl hl (by decide) rfl (fun ls hl => ?_)
    obtain ⟨q10, hq10, hf⟩ := rf_bindq hf
    refine key_22 f_this_refused rf_fu (-9) 1000000000 0 f_this_s f_this_mind q10 hq10 _ _ _ hP hD hS (lv_sub hl [3, 2, 1, 0] rfl) (fun H locs ls hP hD hS hl => ?_)
    refine lv_iload_n hx hb dX3_stop_60 rfl (lv_at hl 1 rfl) ?_
    obtain rfl := Option.some.inj hf
    exact W.iret (v := q10.1) hx hb hr (fun t ht hW => ⟨⟨q10.1, (), rfl, rfl, rf_mk ht hP hD⟩, hS.F ht⟩) hS.2.2 dX3_stop_61
  · have hf := rf_ifn hf c9
    refine lv_aload_n hx hb dX3_stop_7 rfl (lv_at hl 0 rfl) ?_
    refine lv_bipush (v := (-3)) hx hb dX3_stop_8 (by decide) ?_
    obtain ⟨q11, hq11, hf⟩ := rf_bindq hf
    refine rf_Vi (As := [.int (-3)]) (rest := []) (wr := [(a_this_s, .inl (cA, 22, .inl f_this_s)), (a_this_mind, .inl (cA, 22, .inl f_this_mind))]) (wn := [(a_this, .inr (3, rf_o3 a_this_s a_this_image a_this_read a_this_mind a_this_letters a_this_row a_this_refused a_this_numbers a_this_cost g_this)), (a_this_s, .inl (cA, 22, .inl f_this_s)), (a_this_mind, .inl (cA, 22, .inl f_this_mind)), (a_this_refused, .inl (cA, 7, .inl q11.2))]) ⟨hx, hb, hml, hown, hts⟩ hK hP hD hS hA hE (c_X3_no l D cA ad a_this a_this_s a_this_image a_this_read a_this_mind a_this_letters a_this_row a_this_refused a_this_numbers a_this_cost H.size g_this f_this_refused (-3) q11 hq11) (cwV 1 hts gX3_stop_X3_no rfl rfl rfl hv_X3_no ⟨Nat.le_of_ble_eq_true rfl, Nat.le_of_ble_eq_true rfl⟩) [0, 3] [1, 2] [2, 0, 1, 3] rfl rfl rfl rfl (by decide) rfl rfl 3 0 rfl rfl rfl rfl rfl hl.1 (Nat.le_of_ble_eq_true rfl) dX3_stop_10 ⟨Nat.zero_le _, Nat.zero_le _⟩ (fun H locs hP hD hS => ?_)
    obtain rfl := Option.some.inj hf
    exact W.iret (v := q11.1) hx hb hr (fun t ht hW => ⟨⟨q11.1, (), rfl, rfl, rf_mk ht hP hD⟩, hS.F ht⟩) hS.2.2 dX3_stop_13
theorem kX3_waited_0 : (.fieldLink RX3 9 "RingAndFingerModel" "s" "[I" : Cond) ∈ wsX3_waited := by decide +kernel
theorem jX3_waited_X3 : ∀ w ∈ u_ws RX3 TX3 16, w ∈ wsX3_waited := by decide +kernel
set_option maxHeartbeats 8000000 in
set_option maxRecDepth 100000 in
theorem c_X3_waited (l : Launch) (D : va_G) (cA : ClassId) (ad : Nat → Nat) (a_this a_this_s a_this_image a_this_read a_this_mind a_this_letters a_this_row a_this_refused a_this_numbers a_this_cost : Nat) (sz : Nat) (g_this f_this_s f_this_refused : Nat → Int32) (p1 : Int32) (q : Int32 × (Nat → Int32)) (hf : f_X3_waited g_this f_this_s f_this_refused p1 = some q) : Met l yX3_waited wsX3_waited ({ frames := 4, cells := 0, slots := 0, locals := 95 } : Room) (va_Pc [.ref a_this, .int p1] (rf_Pre D cA ad [(a_this, .inr (3, rf_o3 a_this_s a_this_image a_this_read a_this_mind a_this_letters a_this_row a_this_refused a_this_numbers a_this_cost g_this)), (a_this_s, .inl (cA, 22, .inl f_this_s)), (a_this_refused, .inl (cA, 7, .inl f_this_refused))] sz)) (va_Qi (fun (r : Int32) (_ : Unit) => r = q.1) (fun _ t => rf_Post D (va_A [(a_this, .inr (3, rf_o3 a_this_s a_this_image a_this_read a_this_mind a_this_letters a_this_row a_this_refused a_this_numbers a_this_cost g_this)), (a_this_s, .inl (cA, 22, .inl f_this_s)), (a_this_refused, .inl (cA, 7, .inl f_this_refused))] sz) [(a_this, .inr (3, rf_o3 a_this_s a_this_image a_this_read a_this_mind a_this_letters a_this_row a_this_refused a_this_numbers a_this_cost g_this)), (a_this_s, .inl (cA, 22, .inl f_this_s)), (a_this_refused, .inl (cA, 7, .inl q.2))] t) (va_A [(a_this, .inr (3, rf_o3 a_this_s a_this_image a_this_read a_this_mind a_this_letters a_this_row a_this_refused a_this_numbers a_this_cost g_this)), (a_this_s, .inl (cA, 22, .inl f_this_s)), (a_this_refused, .inl (cA, 7, .inl f_this_refused))] sz)) 0 0 (va_A [(a_this, .inr (3, rf_o3 a_this_s a_this_image a_this_read a_this_mind a_this_letters a_this_row a_this_refused a_this_numbers a_this_cost g_this)), (a_this_s, .inl (cA, 22, .inl f_this_s)), (a_this_refused, .inl (cA, 7, .inl f_this_refused))] sz) := by
  refine Met.ofW (cc := cX3_waited) (maxL := 4) (ret := (some .int)) (by decide) rfl ?_
  intro p e s m args below meth c s₁ B hml hv
  obtain ⟨rfl, hsz, hP, hK, hD0, hE⟩ := hv
  have hx := B.exec
  have hb := B.bytes
  have hr := B.returns
  have hts := atoms_spec (ws := wsX3_waited) B.pre
  have hown : s.vm.findClass RX3 = some m.cls := findClass_of_methodNamed B.named
  have hlocks := B.notSynchronized
  subst hsz
  have hD := hD0.self (sz := s.heap.size)
  generalize hAe : va_A [(a_this, .inr (3, rf_o3 a_this_s a_this_image a_this_read a_this_mind a_this_letters a_this_row a_this_refused a_this_numbers a_this_cost g_this)), (a_this_s, .inl (cA, 22, .inl f_this_s)), (a_this_refused, .inl (cA, 7, .inl f_this_refused))] s.heap.size = A at hD hE ⊢
  have hA : ∀ q : Nat, s.heap.size ≤ q → A q := fun q h => by rw [← hAe]; exact Or.inr h
  have hS : va_S A s.heap s.heap [] := va_S.rf
  have hP : va_P D vwCl [(a_this, .inr (3, rf_o3 a_this_s a_this_image a_this_read a_this_mind a_this_letters a_this_row a_this_refused a_this_numbers a_this_cost g_this)), (a_this_s, .inl (cA, 22, .inl f_this_s)), (a_this_refused, .inl (cA, 7, .inl f_this_refused))] s.heap := hP
  have hl := lv_entry ([.ref a_this, .int p1]) (n := 4) (Nat.le_of_ble_eq_true rfl)
  rw [lg_entry_eq]
  generalize (lg_sl ([.ref a_this, .int p1]) ++ List.replicate (4 - (lg_sl ([.ref a_this, .int p1])).length) Slot.unset).toArray = ls at hl ⊢
  have hl : lv_has ls 4 [(0, .ref a_this), (1, .int p1)] := hl
  have key_18 : ∀ (yf_this_refused : Nat → Int32) (n : Nat) (x3 : Int32) (ql : (Int32 × (Nat → Int32)) ⊕ (Int32)), f_X3_waited_L18 g_this f_this_s p1 yf_this_refused n x3 = some ql → ∀ (H : Heap) (locs : List Loc) (ls : Array Slot), va_P D vwCl [(a_this, .inr (3, rf_o3 a_this_s a_this_image a_this_read a_this_mind a_this_letters a_this_row a_this_refused a_this_numbers a_this_cost g_this)), (a_this_s, .inl (cA, 22, .inl f_this_s)), (a_this_refused, .inl (cA, 7, .inl yf_this_refused))] H → va_D A [(a_this, .inr (3, rf_o3 a_this_s a_this_image a_this_read a_this_mind a_this_letters a_this_row a_this_refused a_this_numbers a_this_cost g_this)), (a_this_s, .inl (cA, 22, .inl f_this_s)), (a_this_refused, .inl (cA, 7, .inl yf_this_refused))] → va_S A s.heap H locs → lv_has ls 4 [(0, .ref a_this), (1, .int p1), (3, .int x3)] → (∀ r : Int32 × (Nat → Int32), ql = .inl r → r = q) → (∀ (x : Int32), ql = .inr x → ∀ (H : Heap) (locs : List Loc) (ls : Array Slot), va_P D vwCl [(a_this, .inr (3, rf_o3 a_this_s a_this_image a_this_read a_this_mind a_this_letters a_this_row a_this_refused a_this_numbers a_this_cost g_this)), (a_this_s, .inl (cA, 22, .inl f_this_s)), (a_this_refused, .inl (cA, 7, .inl yf_this_refused))] H → va_D A [(a_this, .inr (3, rf_o3 a_this_s a_this_image a_this_read a_this_mind a_this_letters a_this_row a_this_refused a_this_numbers a_this_cost g_this)), (a_this_s, .inl (cA, 22, .inl f_this_s)), (a_this_refused, .inl (cA, 7, .inl yf_this_refused))] → va_S A s.heap H locs → lv_has ls 4 [(0, .ref a_this), (1, .int p1), (3, .int x)] → W p l e (headSpec wsX3_waited ({ frames := 4, cells := 0, slots := 0, locals := 95 } : Room)).room s m ([.ref a_this, .int p1] : List Value).toArray below meth c H locs 0 0 (MQ below (va_Qi (fun (r : Int32) (_ : Unit) => r = q.1) (fun _ t => rf_Post D A [(a_this, .inr (3, rf_o3 a_this_s a_this_image a_this_read a_this_mind a_this_letters a_this_row a_this_refused a_this_numbers a_this_cost g_this)), (a_this_s, .inl (cA, 22, .inl f_this_s)), (a_this_refused, .inl (cA, 7, .inl q.2))] t) A) ([.ref a_this, .int p1] : List Value).toArray s 0 0 A) (F0 m 74 ls [])) → W p l e (headSpec wsX3_waited ({ frames := 4, cells := 0, slots := 0, locals := 95 } : Room)).room s m ([.ref a_this, .int p1] : List Value).toArray below meth c H locs 0 0 (MQ below (va_Qi (fun (r : Int32) (_ : Unit) => r = q.1) (fun _ t => rf_Post D A [(a_this, .inr (3, rf_o3 a_this_s a_this_image a_this_read a_this_mind a_this_letters a_this_row a_this_refused a_this_numbers a_this_cost g_this)), (a_this_s, .inl (cA, 22, .inl f_this_s)), (a_this_refused, .inl (cA, 7, .inl q.2))] t) A) ([.ref a_this, .int p1] : List Value).toArray s 0 0 A) (F0 m 18 ls []) := by
    intro yf_this_refused n
    induction n with
    | zero =>
      intro x3 ql hf H locs ls hP hD hS hl hret kx
      exact absurd (show (none : Option ((Int32 × (Nat → Int32)) ⊕ (Int32))) = some ql from hf) (fun h9 => by cases h9)
    | succ n ih =>
      intro x3 ql hf H locs ls hP hD hS hl hret kx
      rw [f_X3_waited_L18] at hf
      refine lv_iload_n hx hb dX3_waited_18 rfl (lv_at hl 2 rfl) ?_
      refine lv_bipush (v := 60) hx hb dX3_waited_19 (by decide) ?_
      refine lv_icmp_gt (tgt := 74) hx hb dX3_waited_21 (by decide) (fun c1 => ?_) (fun c1 => ?_)
      · have hf := rf_ifp hf c1
        exact kx _ (Option.some.inj hf).symm _ _ _ hP hD hS (lv_sub hl [0, 1, 2] rfl)
      · have hf := rf_ifn hf c1
        refine lv_aload_n hx hb dX3_waited_24 rfl (lv_at hl 0 rfl) ?_
        refine lv_aload_n hx hb dX3_waited_25 rfl (lv_at hl 0 rfl) ?_
        refine va_get (D := D) (ci := 3) (v := .ref a_this_s) (C := RX3) (T := TX3) (N := 16) hx hb hts jX3_waited_X3 hown hK hP 0 rfl rfl 0 (by decide) (hts _ kX3_waited_0) (fun _ h9 => h9) rfl dX3_waited_26 ?_
        refine lv_iconst (v := 3) hx hb dX3_waited_29 (by decide) ?_
        refine rf_ialoadk hx hb hK hP 1 0 rfl rfl (k := 3) (by decide) (by decide) (by decide) dX3_waited_30 ?_
        refine lv_iload_n hx hb dX3_waited_31 rfl (lv_at hl 1 rfl) ?_
        refine lv_iconst (v := 0) hx hb dX3_waited_32 (by decide) ?_
        refine lv_aload_n hx hb dX3_waited_33 rfl (lv_at hl 0 rfl) ?_
        refine va_get (D := D) (ci := 3) (v := .ref a_this_s) (C := RX3) (T := TX3) (N := 16) hx hb hts jX3_waited_X3 hown hK hP 0 rfl rfl 0 (by decide) (hts _ kX3_waited_0) (fun _ h9 => h9) rfl dX3_waited_34 ?_
        refine lv_iconst (v := 4) hx hb dX3_waited_37 (by decide) ?_
        refine rf_ialoadk hx hb hK hP 1 0 rfl rfl (k := 4) (by decide) (by decide) (by decide) dX3_waited_38 ?_
        refine lv_iload_n hx hb dX3_waited_39 rfl (lv_at hl 2 rfl) ?_
        refine lv_iconst (v := 2) hx hb dX3_waited_40 (by decide) ?_
        refine lv_idiv hx hb dX3_waited_41 (by decide) ?_
        refine lv_isub hx hb dX3_waited_42 ?_
        obtain ⟨q2, hq2, hf⟩ := rf_bindq hf
        refine rf_Si (As := [.int 0, .int ((f_this_s 4) - (x3 / 2))]) (rest := [.int p1, .int (f_this_s 3), .ref a_this]) (wr := [(a_this, .inr (3, rf_o3 a_this_s a_this_image a_this_read a_this_mind a_this_letters a_this_row a_this_refused a_this_numbers a_this_cost g_this)), (a_this_s, .inl (cA, 22, .inl f_this_s)), (a_this_refused, .inl (cA, 7, .inl yf_this_refused))]) (wn := [(a_this, .inr (3, rf_o3 a_this_s a_this_image a_this_read a_this_mind a_this_letters a_this_row a_this_refused a_this_numbers a_this_cost g_this)), (a_this_s, .inl (cA, 22, .inl f_this_s)), (a_this_refused, .inl (cA, 7, .inl yf_this_refused))]) ⟨hx, hb, hml, hown, hts⟩ hK hP hD hS hA hE (c_X3_most l D cA ad H.size 0 ((f_this_s 4) - (x3 / 2)) q2 hq2) (va_cwS 2 hts gX3_waited_X3_most rfl rfl rfl hs_X3_most ⟨Nat.le_of_ble_eq_true rfl, Nat.le_of_ble_eq_true rfl⟩) [] [0, 1, 2] [0, 1, 2] rfl rfl rfl rfl (by decide) rfl rfl rfl rfl hl.1 (Nat.le_of_ble_eq_true rfl) dX3_waited_43 ⟨Nat.zero_le _, Nat.zero_le _⟩ (fun H locs hP hD hS => ?_)
        refine lv_iconst (v := 0) hx hb dX3_waited_46 (by decide) ?_
        refine lv_aload_n hx hb dX3_waited_47 rfl (lv_at hl 0 rfl) ?_
        refine va_get (D := D) (ci := 3) (v := .ref a_this_s) (C := RX3) (T := TX3) (N := 16) hx hb hts jX3_waited_X3 hown hK hP 0 rfl rfl 0 (by decide) (hts _ kX3_waited_0) (fun _ h9 => h9) rfl dX3_waited_48 ?_
        refine lv_iconst (v := 5) hx hb dX3_waited_51 (by decide) ?_
        refine rf_ialoadk hx hb hK hP 1 0 rfl rfl (k := 5) (by decide) (by decide) (by decide) dX3_waited_52 ?_
        refine lv_iload_n hx hb dX3_waited_53 rfl (lv_at hl 2 rfl) ?_
        refine lv_iconst (v := 3) hx hb dX3_waited_54 (by decide) ?_
        refine lv_idiv hx hb dX3_waited_55 (by decide) ?_
        refine lv_isub hx hb dX3_waited_56 ?_
        obtain ⟨q3, hq3, hf⟩ := rf_bindq hf
        refine rf_Si (As := [.int 0, .int ((f_this_s 5) - (x3 / 3))]) (rest := [.int q2, .int p1, .int (f_this_s 3), .ref a_this]) (wr := [(a_this, .inr (3, rf_o3 a_this_s a_this_image a_this_read a_this_mind a_this_letters a_this_row a_this_refused a_this_numbers a_this_cost g_this)), (a_this_s, .inl (cA, 22, .inl f_this_s)), (a_this_refused, .inl (cA, 7, .inl yf_this_refused))]) (wn := [(a_this, .inr (3, rf_o3 a_this_s a_this_image a_this_read a_this_mind a_this_letters a_this_row a_this_refused a_this_numbers a_this_cost g_this)), (a_this_s, .inl (cA, 22, .inl f_this_s)), (a_this_refused, .inl (cA, 7, .inl yf_this_refused))]) ⟨hx, hb, hml, hown, hts⟩ hK hP hD hS hA hE (c_X3_most l D cA ad H.size 0 ((f_this_s 5) - (x3 / 3)) q3 hq3) (va_cwS 2 hts gX3_waited_X3_most rfl rfl rfl hs_X3_most ⟨Nat.le_of_ble_eq_true rfl, Nat.le_of_ble_eq_true rfl⟩) [] [0, 1, 2] [0, 1, 2] rfl rfl rfl rfl (by decide) rfl rfl rfl rfl hl.1 (Nat.le_of_ble_eq_true rfl) dX3_waited_57 ⟨Nat.zero_le _, Nat.zero_le _⟩ (fun H locs hP hD hS => ?_)
        obtain ⟨q4, hq4, hf⟩ := rf_bindq hf
        refine rf_Vi (As := [.int (f_this_s 3), .int p1, .int q2, .int q3]) (rest := []) (wr := [(a_this_refused, .inl (cA, 7, .inl yf_this_refused))]) (wn := [(a_this, .inr (3, rf_o3 a_this_s a_this_image a_this_read a_this_mind a_this_letters a_this_row a_this_refused a_this_numbers a_this_cost g_this)), (a_this_s, .inl (cA, 22, .inl f_this_s)), (a_this_refused, .inl (cA, 7, .inl yf_this_refused))]) ⟨hx, hb, hml, hown, hts⟩ hK hP hD hS hA hE (c_X3_goesOver l D cA ad a_this a_this_s a_this_image a_this_read a_this_mind a_this_letters a_this_row a_this_refused a_this_numbers a_this_cost H.size g_this f_this_s (f_this_s 3) p1 q2 q3 q4 hq4) (cwV 4 hts gX3_waited_X3_goesOver rfl rfl rfl hv_X3_goesOver ⟨Nat.le_of_ble_eq_true rfl, Nat.le_of_ble_eq_true rfl⟩) [0, 1] [2] [1, 2, 0] rfl rfl rfl rfl (by decide) rfl rfl 3 0 rfl rfl rfl rfl rfl hl.1 (Nat.le_of_ble_eq_true rfl) dX3_waited_60 ⟨Nat.zero_le _, Nat.zero_le _⟩ (fun H locs hP hD hS => ?_)
        refine lv_if_eq (tgt := 68) hx hb dX3_waited_63 (by decide) (fun c5 => ?_) (fun c5 => ?_)
        · have hf := rf_ifp hf c5
          obtain ⟨v6, ev6⟩ : ∃ y : Int32, y = x3 + 1 := ⟨_, rfl⟩
          have hf := rf_bindv hf ev6
          refine lv_iinc (v := v6) (lv' := [(3, .int v6), (0, .ref a_this), (1, .int p1)]) hx hb dX3_waited_68 hl (k := 2) rfl (by rw [ev6]; rfl) (by decide) rfl (fun ls hl => ?_)
          clear ev6
          refine lv_goto (tgt := 18) hx hb dX3_waited_71 (by decide) ?_
          exact ih v6 ql hf _ _ _ hP hD hS (lv_sub hl [1, 2, 0] rfl) hret kx
        · have hf := rf_ifn hf c5
          refine lv_iload_n hx hb dX3_waited_66 rfl (lv_at hl 2 rfl) ?_
          obtain rfl := hret _ (Option.some.inj hf).symm
          exact W.iret (v := x3) hx hb hr (fun t ht hW => ⟨⟨x3, (), rfl, rfl, rf_mk ht hP hD⟩, hS.F ht⟩) hS.2.2 dX3_waited_67
  rw [f_X3_waited] at hf
  refine lv_aload_n hx hb dX3_waited_0 rfl (lv_at hl 0 rfl) ?_
  refine lv_iload_n hx hb dX3_waited_1 rfl (lv_at hl 1 rfl) ?_
  obtain ⟨q7, hq7, hf⟩ := rf_bindq hf
  refine rf_Vi (As := [.int p1]) (rest := []) (wr := [(a_this_refused, .inl (cA, 7, .inl f_this_refused))]) (wn := [(a_this, .inr (3, rf_o3 a_this_s a_this_image a_this_read a_this_mind a_this_letters a_this_row a_this_refused a_this_numbers a_this_cost g_this)), (a_this_s, .inl (cA, 22, .inl f_this_s)), (a_this_refused, .inl (cA, 7, .inl f_this_refused))]) ⟨hx, hb, hml, hown, hts⟩ hK hP hD hS hA hE (c_X3_wrongTry l D cA ad a_this a_this_s a_this_image a_this_read a_this_mind a_this_letters a_this_row a_this_refused a_this_numbers a_this_cost s.heap.size g_this f_this_s p1 q7 hq7) (cwV 1 hts gX3_waited_X3_wrongTry rfl rfl rfl hv_X3_wrongTry ⟨Nat.le_of_ble_eq_true rfl, Nat.le_of_ble_eq_true rfl⟩) [0, 1] [2] [1, 2, 0] rfl rfl rfl rfl (by decide) rfl rfl 3 0 rfl rfl rfl rfl rfl hl.1 (Nat.le_of_ble_eq_true rfl) dX3_waited_2 ⟨Nat.zero_le _, Nat.zero_le _⟩ (fun H locs hP hD hS => ?_)
  refine lv_istore_n (lv' := [(2, .int q7), (0, .ref a_this), (1, .int p1)]) hx hb dX3_waited_5 rfl hl (by decide) rfl (fun ls hl => ?_)
  refine lv_iload_n hx hb dX3_waited_6 rfl (lv_at hl 0 rfl) ?_
  refine lv_if_eq (tgt := 16) hx hb dX3_waited_7 (by decide) (fun c8 => ?_) (fun c8 => ?_)
  · have hf := rf_ifp hf c8
    refine lv_iconst (v := 0) hx hb dX3_waited_16 (by decide) ?_
    refine lv_istore_n (lv' := [(3, .int 0), (2, .int q7), (0, .ref a_this), (1, .int p1)]) hx hb dX3_waited_17 rfl hl (by decide) rfl (fun ls hl => ?_)
    obtain ⟨q9, hq9, hf⟩ := rf_bindq hf
    refine key_18 f_this_refused rf_fu 0 q9 hq9 _ _ _ hP hD hS (lv_sub hl [2, 3, 0] rfl) (fun r h9 => ?_) (fun x10 h9 H locs ls hP hD hS hl => ?_)
    · subst h9
      exact Option.some.inj hf
    · subst h9
      have hf := rf_sumr hf
      refine lv_bipush (v := (-9)) hx hb dX3_waited_74 (by decide) ?_
      obtain rfl := Option.some.inj hf
      exact W.iret (v := (-9)) hx hb hr (fun t ht hW => ⟨⟨(-9), (), rfl, rfl, rf_mk ht hP hD⟩, hS.F ht⟩) hS.2.2 dX3_waited_76
  · have hf := rf_ifn hf c8
    refine lv_aload_n hx hb dX3_waited_10 rfl (lv_at hl 1 rfl) ?_
    refine lv_iload_n hx hb dX3_waited_11 rfl (lv_at hl 0 rfl) ?_
    obtain ⟨q11, hq11, hf⟩ := rf_bindq hf
    refine rf_Vi (As := [.int q7]) (rest := []) (wr := [(a_this_s, .inl (cA, 22, .inl f_this_s))]) (wn := [(a_this, .inr (3, rf_o3 a_this_s a_this_image a_this_read a_this_mind a_this_letters a_this_row a_this_refused a_this_numbers a_this_cost g_this)), (a_this_s, .inl (cA, 22, .inl f_this_s)), (a_this_refused, .inl (cA, 7, .inl q11.2))]) ⟨hx, hb, hml, hown, hts⟩ hK hP hD hS hA hE (c_X3_no l D cA ad a_this a_this_s a_this_image a_this_read a_this_mind a_this_letters a_this_row a_this_refused a_this_numbers a_this_cost H.size g_this f_this_refused q7 q11 hq11) (cwV 1 hts gX3_waited_X3_no rfl rfl rfl hv_X3_no ⟨Nat.le_of_ble_eq_true rfl, Nat.le_of_ble_eq_true rfl⟩) [0, 2] [1] [1, 0, 2] rfl rfl rfl rfl (by decide) rfl rfl 3 0 rfl rfl rfl rfl rfl hl.1 (Nat.le_of_ble_eq_true rfl) dX3_waited_12 ⟨Nat.zero_le _, Nat.zero_le _⟩ (fun H locs hP hD hS => ?_)
    obtain rfl := Option.some.inj hf
    exact W.iret (v := q11.1) hx hb hr (fun t ht hW => ⟨⟨q11.1, (), rfl, rfl, rf_mk ht hP hD⟩, hS.F ht⟩) hS.2.2 dX3_waited_15

set_option maxHeartbeats 8000000 in
set_option maxRecDepth 100000 in
theorem c_X3_roomOf (l : Launch) (D : va_G) (cA : ClassId) (ad : Nat → Nat) (sz : Nat) (p0 p1 p2 p3 : Int32) (q : Int32) (hf : f_X3_roomOf p0 p1 p2 p3 = some q) : Met l yX3_roomOf wsX3_roomOf ({ frames := 0, cells := 0, slots := 0, locals := 0 } : Room) (va_Pc [.int p0, .int p1, .int p2, .int p3] (rf_Pre D cA ad [] sz)) (va_Qi (fun (r : Int32) (_ : Unit) => r = q) (fun _ t => rf_Post D (va_A [] sz) [] t) (va_A [] sz)) 0 0 (va_A [] sz) := by
  refine Met.ofW (cc := cX3_roomOf) (maxL := 4) (ret := (some .int)) (by decide) rfl ?_
  intro p e s m args below meth c s₁ B hml hv
  obtain ⟨rfl, hsz, hP, hK, hD0, hE⟩ := hv
  have hx := B.exec
  have hb := B.bytes
  have hr := B.returns
  have hts := atoms_spec (ws := wsX3_roomOf) B.pre
  have hown : s.vm.findClass RX3 = some m.cls := findClass_of_methodNamed B.named
  have hlocks := B.notSynchronized
  subst hsz
  have hD := hD0.self (sz := s.heap.size)
  generalize hAe : va_A [] s.heap.size = A at hD hE ⊢
  have hA : ∀ q : Nat, s.heap.size ≤ q → A q := fun q h => by rw [← hAe]; exact Or.inr h
  have hS : va_S A s.heap s.heap [] := va_S.rf
  have hP : va_P D vwCl [] s.heap := hP
  have hl := lv_entry ([.int p0, .int p1, .int p2, .int p3]) (n := 4) (Nat.le_of_ble_eq_true rfl)
  rw [lg_entry_eq]
  generalize (lg_sl ([.int p0, .int p1, .int p2, .int p3]) ++ List.replicate (4 - (lg_sl ([.int p0, .int p1, .int p2, .int p3])).length) Slot.unset).toArray = ls at hl ⊢
  have hl : lv_has ls 4 [(0, .int p0), (1, .int p1), (2, .int p2), (3, .int p3)] := hl
  rw [f_X3_roomOf] at hf
  refine lv_iload_n hx hb dX3_roomOf_0 rfl (lv_at hl 0 rfl) ?_
  refine lv_bipush (v := 21) hx hb dX3_roomOf_1 (by decide) ?_
  refine lv_imul hx hb dX3_roomOf_3 ?_
  refine lv_iload_n hx hb dX3_roomOf_4 rfl (lv_at hl 1 rfl) ?_
  refine lv_iadd hx hb dX3_roomOf_5 ?_
  refine lv_bipush (v := 7) hx hb dX3_roomOf_6 (by decide) ?_
  refine lv_imul hx hb dX3_roomOf_8 ?_
  refine lv_iload_n hx hb dX3_roomOf_9 rfl (lv_at hl 2 rfl) ?_
  refine lv_iadd hx hb dX3_roomOf_10 ?_
  refine lv_iconst (v := 3) hx hb dX3_roomOf_11 (by decide) ?_
  refine lv_imul hx hb dX3_roomOf_12 ?_
  refine lv_iload_n hx hb dX3_roomOf_13 rfl (lv_at hl 3 rfl) ?_
  refine lv_iadd hx hb dX3_roomOf_14 ?_
  obtain rfl := Option.some.inj hf
  exact W.iret (v := ((((((p0 * 21) + p1) * 7) + p2) * 3) + p3)) hx hb hr (fun t ht hW => ⟨⟨((((((p0 * 21) + p1) * 7) + p2) * 3) + p3), (), rfl, rfl, rf_mk ht hP hD⟩, hS.F ht⟩) hS.2.2 dX3_roomOf_15

set_option maxHeartbeats 8000000 in
set_option maxRecDepth 100000 in
theorem c_X3_roomBy (l : Launch) (D : va_G) (cA : ClassId) (ad : Nat → Nat) (a_this a_this_s a_this_image a_this_read a_this_mind a_this_letters a_this_row a_this_refused a_this_numbers a_this_cost : Nat) (sz : Nat) (g_this f_this_s : Nat → Int32) (p1 p2 : Int32) (q : Int32) (hf : f_X3_roomBy g_this f_this_s p1 p2 = some q) : Met l yX3_roomBy wsX3_roomBy ({ frames := 4, cells := 0, slots := 0, locals := 95 } : Room) (va_Pc [.ref a_this, .int p1, .int p2] (rf_Pre D cA ad [(a_this, .inr (3, rf_o3 a_this_s a_this_image a_this_read a_this_mind a_this_letters a_this_row a_this_refused a_this_numbers a_this_cost g_this)), (a_this_s, .inl (cA, 22, .inl f_this_s))] sz)) (va_Qi (fun (r : Int32) (_ : Unit) => r = q) (fun _ t => rf_Post D (va_A [(a_this, .inr (3, rf_o3 a_this_s a_this_image a_this_read a_this_mind a_this_letters a_this_row a_this_refused a_this_numbers a_this_cost g_this)), (a_this_s, .inl (cA, 22, .inl f_this_s))] sz) [(a_this, .inr (3, rf_o3 a_this_s a_this_image a_this_read a_this_mind a_this_letters a_this_row a_this_refused a_this_numbers a_this_cost g_this)), (a_this_s, .inl (cA, 22, .inl f_this_s))] t) (va_A [(a_this, .inr (3, rf_o3 a_this_s a_this_image a_this_read a_this_mind a_this_letters a_this_row a_this_refused a_this_numbers a_this_cost g_this)), (a_this_s, .inl (cA, 22, .inl f_this_s))] sz)) 0 0 (va_A [(a_this, .inr (3, rf_o3 a_this_s a_this_image a_this_read a_this_mind a_this_letters a_this_row a_this_refused a_this_numbers a_this_cost g_this)), (a_this_s, .inl (cA, 22, .inl f_this_s))] sz) := by
  refine Met.ofW (cc := cX3_roomBy) (maxL := 8) (ret := (some .int)) (by decide) rfl ?_
  intro p e s m args below meth c s₁ B hml hv
  obtain ⟨rfl, hsz, hP, hK, hD0, hE⟩ := hv
  have hx := B.exec
  have hb := B.bytes
  have hr := B.returns
  have hts := atoms_spec (ws := wsX3_roomBy) B.pre
  have hown : s.vm.findClass RX3 = some m.cls := findClass_of_methodNamed B.named
  have hlocks := B.notSynchronized
  subst hsz
  have hD := hD0.self (sz := s.heap.size)
  generalize hAe : va_A [(a_this, .inr (3, rf_o3 a_this_s a_this_image a_this_read a_this_mind a_this_letters a_this_row a_this_refused a_this_numbers a_this_cost g_this)), (a_this_s, .inl (cA, 22, .inl f_this_s))] s.heap.size = A at hD hE ⊢
  have hA : ∀ q : Nat, s.heap.size ≤ q → A q := fun q h => by rw [← hAe]; exact Or.inr h
  have hS : va_S A s.heap s.heap [] := va_S.rf
  have hP : va_P D vwCl [(a_this, .inr (3, rf_o3 a_this_s a_this_image a_this_read a_this_mind a_this_letters a_this_row a_this_refused a_this_numbers a_this_cost g_this)), (a_this_s, .inl (cA, 22, .inl f_this_s))] s.heap := hP
  have hl := lv_entry ([.ref a_this, .int p1, .int p2]) (n := 8) (Nat.le_of_ble_eq_true rfl)
  rw [lg_entry_eq]
  generalize (lg_sl ([.ref a_this, .int p1, .int p2]) ++ List.replicate (8 - (lg_sl ([.ref a_this, .int p1, .int p2])).length) Slot.unset).toArray = ls at hl ⊢
  have hl : lv_has ls 8 [(0, .ref a_this), (1, .int p1), (2, .int p2)] := hl
  rw [f_X3_roomBy] at hf
  refine lv_iload_n hx hb dX3_roomBy_0 rfl (lv_at hl 1 rfl) ?_
  refine lv_iconst (v := 3) hx hb dX3_roomBy_1 (by decide) ?_
  refine lv_irem hx hb dX3_roomBy_2 (by decide) ?_
  refine lv_topi (fun v1 ev1 => ?_)
  have hf := rf_bindv hf ev1
  clear ev1
  refine lv_istore_n (lv' := [(3, .int v1), (0, .ref a_this), (1, .int p1), (2, .int p2)]) hx hb dX3_roomBy_3 rfl hl (by decide) rfl (fun ls hl => ?_)
  refine lv_iload_n hx hb dX3_roomBy_4 rfl (lv_at hl 2 rfl) ?_
  refine lv_iconst (v := 3) hx hb dX3_roomBy_5 (by decide) ?_
  refine lv_idiv hx hb dX3_roomBy_6 (by decide) ?_
  refine lv_bipush (v := 7) hx hb dX3_roomBy_7 (by decide) ?_
  refine lv_irem hx hb dX3_roomBy_9 (by decide) ?_
  refine lv_topi (fun v2 ev2 => ?_)
  have hf := rf_bindv hf ev2
  clear ev2
  refine lv_istore (lv' := [(4, .int v2), (3, .int v1), (0, .ref a_this), (1, .int p1), (2, .int p2)]) hx hb dX3_roomBy_10 hl (by decide) rfl (fun ls hl => ?_)
  refine lv_iload_n hx hb dX3_roomBy_12 rfl (lv_at hl 3 rfl) ?_
  refine lv_bipush (v := 21) hx hb dX3_roomBy_13 (by decide) ?_
  refine lv_idiv hx hb dX3_roomBy_15 (by decide) ?_
  refine lv_bipush (v := 21) hx hb dX3_roomBy_16 (by decide) ?_
  refine lv_irem hx hb dX3_roomBy_18 (by decide) ?_
  refine lv_topi (fun v3 ev3 => ?_)
  have hf := rf_bindv hf ev3
  clear ev3
  refine lv_istore (lv' := [(5, .int v3), (4, .int v2), (3, .int v1), (0, .ref a_this), (1, .int p1), (2, .int p2)]) hx hb dX3_roomBy_19 hl (by decide) rfl (fun ls hl => ?_)
  refine lv_iload_n hx hb dX3_roomBy_21 rfl (lv_at hl 4 rfl) ?_
  refine lv_sipush (v := 441) hx hb dX3_roomBy_22 (by decide) ?_
  refine lv_idiv hx hb dX3_roomBy_25 (by decide) ?_
  refine lv_topi (fun v4 ev4 => ?_)
  have hf := rf_bindv hf ev4
  clear ev4
  refine lv_istore (lv' := [(6, .int v4), (5, .int v3), (4, .int v2), (3, .int v1), (0, .ref a_this), (1, .int p1), (2, .int p2)]) hx hb dX3_roomBy_26 hl (by decide) rfl (fun ls hl => ?_)
  refine lv_iload_n hx hb dX3_roomBy_28 rfl (lv_at hl 6 rfl) ?_
  refine lv_bipush (v := 7) hx hb dX3_roomBy_29 (by decide) ?_
  refine lv_icmp_ne (tgt := 57) hx hb dX3_roomBy_31 (by decide) (fun c5 => ?_) (fun c5 => ?_)
  · have hf := rf_ifn hf c5
    refine lv_iload_n hx hb dX3_roomBy_57 rfl (lv_at hl 6 rfl) ?_
    refine lv_iconst (v := 5) hx hb dX3_roomBy_58 (by decide) ?_
    refine lv_icmp_ne (tgt := 70) hx hb dX3_roomBy_59 (by decide) (fun c6 => ?_) (fun c6 => ?_)
    · have hf := rf_ifn hf c6
      refine lv_iload hx hb dX3_roomBy_70 (lv_at hl 2 rfl) ?_
      refine lv_aload_n hx hb dX3_roomBy_72 rfl (lv_at hl 4 rfl) ?_
      refine lv_iload hx hb dX3_roomBy_73 (lv_at hl 2 rfl) ?_
      refine lv_iload_n hx hb dX3_roomBy_75 rfl (lv_at hl 6 rfl) ?_
      refine lv_iload hx hb dX3_roomBy_76 (lv_at hl 0 rfl) ?_
      refine lv_iload hx hb dX3_roomBy_78 (lv_at hl 1 rfl) ?_
      obtain ⟨q7, hq7, hf⟩ := rf_bindq hf
      refine rf_Vi (As := [.int v2, .int p2, .int v4, .int v3]) (rest := [.int v2]) (wr := []) (wn := [(a_this, .inr (3, rf_o3 a_this_s a_this_image a_this_read a_this_mind a_this_letters a_this_row a_this_refused a_this_numbers a_this_cost g_this)), (a_this_s, .inl (cA, 22, .inl f_this_s))]) ⟨hx, hb, hml, hown, hts⟩ hK hP hD hS hA hE (c_X3_goesOver l D cA ad a_this a_this_s a_this_image a_this_read a_this_mind a_this_letters a_this_row a_this_refused a_this_numbers a_this_cost s.heap.size g_this f_this_s v2 p2 v4 v3 q7 hq7) (cwV 4 hts gX3_roomBy_X3_goesOver rfl rfl rfl hv_X3_goesOver ⟨Nat.le_of_ble_eq_true rfl, Nat.le_of_ble_eq_true rfl⟩) [0, 1] [] [0, 1] rfl rfl rfl rfl (by decide) rfl rfl 3 0 rfl rfl rfl rfl rfl hl.1 (Nat.le_of_ble_eq_true rfl) dX3_roomBy_80 ⟨Nat.zero_le _, Nat.zero_le _⟩ (fun H locs hP hD hS => ?_)
      refine lv_if_eq (tgt := 90) hx hb dX3_roomBy_83 (by decide) (fun c8 => ?_) (fun c8 => ?_)
      · have hf := rf_ifp hf c8
        refine lv_iconst (v := 0) hx hb dX3_roomBy_90 (by decide) ?_
        refine lv_iadd hx hb dX3_roomBy_91 ?_
        refine lv_topi (fun v9 ev9 => ?_)
        have hf := rf_bindv hf ev9
        clear ev9
        refine lv_istore (lv' := [(7, .int v9), (6, .int v4), (5, .int v3), (4, .int v2), (3, .int v1), (0, .ref a_this), (1, .int p1), (2, .int p2)]) hx hb dX3_roomBy_92 hl (by decide) rfl (fun ls hl => ?_)
        refine lv_bipush (v := 30) hx hb dX3_roomBy_94 (by decide) ?_
        refine lv_iload hx hb dX3_roomBy_96 (lv_at hl 1 rfl) ?_
        refine lv_iload_n hx hb dX3_roomBy_98 rfl (lv_at hl 7 rfl) ?_
        obtain ⟨q10, hq10, hf⟩ := rf_bindq hf
        refine rf_Si (As := [.int p2]) (rest := [.int v4, .int 30]) (wr := [(a_this, .inr (3, rf_o3 a_this_s a_this_image a_this_read a_this_mind a_this_letters a_this_row a_this_refused a_this_numbers a_this_cost g_this)), (a_this_s, .inl (cA, 22, .inl f_this_s))]) (wn := [(a_this, .inr (3, rf_o3 a_this_s a_this_image a_this_read a_this_mind a_this_letters a_this_row a_this_refused a_this_numbers a_this_cost g_this)), (a_this_s, .inl (cA, 22, .inl f_this_s))]) ⟨hx, hb, hml, hown, hts⟩ hK hP hD hS hA hE (c_X3_swellsBy l D cA ad H.size p2 q10 hq10) (va_cwS 1 hts gX3_roomBy_X3_swellsBy rfl rfl rfl hs_X3_swellsBy ⟨Nat.le_of_ble_eq_true rfl, Nat.le_of_ble_eq_true rfl⟩) [] [0, 1] [0, 1] rfl rfl rfl rfl (by decide) rfl rfl rfl rfl hl.1 (Nat.le_of_ble_eq_true rfl) dX3_roomBy_99 ⟨Nat.zero_le _, Nat.zero_le _⟩ (fun H locs hP hD hS => ?_)
        refine lv_iadd hx hb dX3_roomBy_102 ?_
        obtain ⟨q11, hq11, hf⟩ := rf_bindq hf
        refine rf_Si (As := [.int 30, .int (v4 + q10)]) (rest := []) (wr := [(a_this, .inr (3, rf_o3 a_this_s a_this_image a_this_read a_this_mind a_this_letters a_this_row a_this_refused a_this_numbers a_this_cost g_this)), (a_this_s, .inl (cA, 22, .inl f_this_s))]) (wn := [(a_this, .inr (3, rf_o3 a_this_s a_this_image a_this_read a_this_mind a_this_letters a_this_row a_this_refused a_this_numbers a_this_cost g_this)), (a_this_s, .inl (cA, 22, .inl f_this_s))]) ⟨hx, hb, hml, hown, hts⟩ hK hP hD hS hA hE (c_X3_least l D cA ad H.size 30 (v4 + q10) q11 hq11) (va_cwS 2 hts gX3_roomBy_X3_least rfl rfl rfl hs_X3_least ⟨Nat.le_of_ble_eq_true rfl, Nat.le_of_ble_eq_true rfl⟩) [] [0, 1] [0, 1] rfl rfl rfl rfl (by decide) rfl rfl rfl rfl hl.1 (Nat.le_of_ble_eq_true rfl) dX3_roomBy_103 ⟨Nat.zero_le _, Nat.zero_le _⟩ (fun H locs hP hD hS => ?_)
        refine lv_iload_n hx hb dX3_roomBy_106 rfl (lv_at hl 7 rfl) ?_
        refine lv_iload hx hb dX3_roomBy_107 (lv_at hl 2 rfl) ?_
        obtain ⟨q12, hq12, hf⟩ := rf_bindq hf
        refine rf_Si (As := [.int p2, .int v3]) (rest := [.int q11]) (wr := [(a_this, .inr (3, rf_o3 a_this_s a_this_image a_this_read a_this_mind a_this_letters a_this_row a_this_refused a_this_numbers a_this_cost g_this)), (a_this_s, .inl (cA, 22, .inl f_this_s))]) (wn := [(a_this, .inr (3, rf_o3 a_this_s a_this_image a_this_read a_this_mind a_this_letters a_this_row a_this_refused a_this_numbers a_this_cost g_this)), (a_this_s, .inl (cA, 22, .inl f_this_s))]) ⟨hx, hb, hml, hown, hts⟩ hK hP hD hS hA hE (c_X3_coldBy l D cA ad H.size p2 v3 q12 hq12) (va_cwS 2 hts gX3_roomBy_X3_coldBy rfl rfl rfl hs_X3_coldBy ⟨Nat.le_of_ble_eq_true rfl, Nat.le_of_ble_eq_true rfl⟩) [] [0, 1] [0, 1] rfl rfl rfl rfl (by decide) rfl rfl rfl rfl hl.1 (Nat.le_of_ble_eq_true rfl) dX3_roomBy_109 ⟨Nat.zero_le _, Nat.zero_le _⟩ (fun H locs hP hD hS => ?_)
        refine lv_iload hx hb dX3_roomBy_112 (lv_at hl 0 rfl) ?_
        refine lv_iload_n hx hb dX3_roomBy_114 rfl (lv_at hl 4 rfl) ?_
        refine lv_iload_n hx hb dX3_roomBy_115 rfl (lv_at hl 7 rfl) ?_
        refine lv_iconst (v := 5) hx hb dX3_roomBy_116 (by decide) ?_
        refine lv_icmp_ne (tgt := 124) hx hb dX3_roomBy_117 (by decide) (fun c13 => ?_) (fun c13 => ?_)
        · have hf := rf_ifn hf c13
          refine lv_iconst (v := 0) hx hb dX3_roomBy_124 (by decide) ?_
          refine lv_iadd hx hb dX3_roomBy_125 ?_
          obtain ⟨q14, hq14, hf⟩ := rf_bindq hf
          refine rf_Si (As := [.int q11, .int q12, .int v9, .int (v1 + 0)]) (rest := []) (wr := [(a_this, .inr (3, rf_o3 a_this_s a_this_image a_this_read a_this_mind a_this_letters a_this_row a_this_refused a_this_numbers a_this_cost g_this)), (a_this_s, .inl (cA, 22, .inl f_this_s))]) (wn := [(a_this, .inr (3, rf_o3 a_this_s a_this_image a_this_read a_this_mind a_this_letters a_this_row a_this_refused a_this_numbers a_this_cost g_this)), (a_this_s, .inl (cA, 22, .inl f_this_s))]) ⟨hx, hb, hml, hown, hts⟩ hK hP hD hS hA hE (c_X3_roomOf l D cA ad H.size q11 q12 v9 (v1 + 0) q14 hq14) (va_cwS 4 hts gX3_roomBy_X3_roomOf rfl rfl rfl hs_X3_roomOf ⟨Nat.le_of_ble_eq_true rfl, Nat.le_of_ble_eq_true rfl⟩) [] [0, 1] [0, 1] rfl rfl rfl rfl (by decide) rfl rfl rfl rfl hl.1 (Nat.le_of_ble_eq_true rfl) dX3_roomBy_126 ⟨Nat.zero_le _, Nat.zero_le _⟩ (fun H locs hP hD hS => ?_)
          obtain rfl := Option.some.inj hf
          exact W.iret (v := q14) hx hb hr (fun t ht hW => ⟨⟨q14, (), rfl, rfl, rf_mk ht hP hD⟩, hS.F ht⟩) hS.2.2 dX3_roomBy_129
        · have hf := rf_ifp hf c13
          refine lv_iconst (v := 1) hx hb dX3_roomBy_120 (by decide) ?_
          refine lv_goto (tgt := 125) hx hb dX3_roomBy_121 (by decide) ?_
          refine lv_iadd hx hb dX3_roomBy_125 ?_
          obtain ⟨q15, hq15, hf⟩ := rf_bindq hf
          refine rf_Si (As := [.int q11, .int q12, .int v9, .int (v1 + 1)]) (rest := []) (wr := [(a_this, .inr (3, rf_o3 a_this_s a_this_image a_this_read a_this_mind a_this_letters a_this_row a_this_refused a_this_numbers a_this_cost g_this)), (a_this_s, .inl (cA, 22, .inl f_this_s))]) (wn := [(a_this, .inr (3, rf_o3 a_this_s a_this_image a_this_read a_this_mind a_this_letters a_this_row a_this_refused a_this_numbers a_this_cost g_this)), (a_this_s, .inl (cA, 22, .inl f_this_s))]) ⟨hx, hb, hml, hown, hts⟩ hK hP hD hS hA hE (c_X3_roomOf l D cA ad H.size q11 q12 v9 (v1 + 1) q15 hq15) (va_cwS 4 hts gX3_roomBy_X3_roomOf rfl rfl rfl hs_X3_roomOf ⟨Nat.le_of_ble_eq_true rfl, Nat.le_of_ble_eq_true rfl⟩) [] [0, 1] [0, 1] rfl rfl rfl rfl (by decide) rfl rfl rfl rfl hl.1 (Nat.le_of_ble_eq_true rfl) dX3_roomBy_126 ⟨Nat.zero_le _, Nat.zero_le _⟩ (fun H locs hP hD hS => ?_)
          obtain rfl := Option.some.inj hf
          exact W.iret (v := q15) hx hb hr (fun t ht hW => ⟨⟨q15, (), rfl, rfl, rf_mk ht hP hD⟩, hS.F ht⟩) hS.2.2 dX3_roomBy_129
      · have hf := rf_ifn hf c8
        refine lv_iconst (v := 1) hx hb dX3_roomBy_86 (by decide) ?_
        refine lv_goto (tgt := 91) hx hb dX3_roomBy_87 (by decide) ?_
        refine lv_iadd hx hb dX3_roomBy_91 ?_
        refine lv_topi (fun v16 ev16 => ?_)
        have hf := rf_bindv hf ev16
        clear ev16
        refine lv_istore (lv' := [(7, .int v16), (6, .int v4), (5, .int v3), (4, .int v2), (3, .int v1), (0, .ref a_this), (1, .int p1), (2, .int p2)]) hx hb dX3_roomBy_92 hl (by decide) rfl (fun ls hl => ?_)
        refine lv_bipush (v := 30) hx hb dX3_roomBy_94 (by decide) ?_
        refine lv_iload hx hb dX3_roomBy_96 (lv_at hl 1 rfl) ?_
        refine lv_iload_n hx hb dX3_roomBy_98 rfl (lv_at hl 7 rfl) ?_
        obtain ⟨q17, hq17, hf⟩ := rf_bindq hf
        refine rf_Si (As := [.int p2]) (rest := [.int v4, .int 30]) (wr := [(a_this, .inr (3, rf_o3 a_this_s a_this_image a_this_read a_this_mind a_this_letters a_this_row a_this_refused a_this_numbers a_this_cost g_this)), (a_this_s, .inl (cA, 22, .inl f_this_s))]) (wn := [(a_this, .inr (3, rf_o3 a_this_s a_this_image a_this_read a_this_mind a_this_letters a_this_row a_this_refused a_this_numbers a_this_cost g_this)), (a_this_s, .inl (cA, 22, .inl f_this_s))]) ⟨hx, hb, hml, hown, hts⟩ hK hP hD hS hA hE (c_X3_swellsBy l D cA ad H.size p2 q17 hq17) (va_cwS 1 hts gX3_roomBy_X3_swellsBy rfl rfl rfl hs_X3_swellsBy ⟨Nat.le_of_ble_eq_true rfl, Nat.le_of_ble_eq_true rfl⟩) [] [0, 1] [0, 1] rfl rfl rfl rfl (by decide) rfl rfl rfl rfl hl.1 (Nat.le_of_ble_eq_true rfl) dX3_roomBy_99 ⟨Nat.zero_le _, Nat.zero_le _⟩ (fun H locs hP hD hS => ?_)
        refine lv_iadd hx hb dX3_roomBy_102 ?_
        obtain ⟨q18, hq18, hf⟩ := rf_bindq hf
        refine rf_Si (As := [.int 30, .int (v4 + q17)]) (rest := []) (wr := [(a_this, .inr (3, rf_o3 a_this_s a_this_image a_this_read a_this_mind a_this_letters a_this_row a_this_refused a_this_numbers a_this_cost g_this)), (a_this_s, .inl (cA, 22, .inl f_this_s))]) (wn := [(a_this, .inr (3, rf_o3 a_this_s a_this_image a_this_read a_this_mind a_this_letters a_this_row a_this_refused a_this_numbers a_this_cost g_this)), (a_this_s, .inl (cA, 22, .inl f_this_s))]) ⟨hx, hb, hml, hown, hts⟩ hK hP hD hS hA hE (c_X3_least l D cA ad H.size 30 (v4 + q17) q18 hq18) (va_cwS 2 hts gX3_roomBy_X3_least rfl rfl rfl hs_X3_least ⟨Nat.le_of_ble_eq_true rfl, Nat.le_of_ble_eq_true rfl⟩) [] [0, 1] [0, 1] rfl rfl rfl rfl (by decide) rfl rfl rfl rfl hl.1 (Nat.le_of_ble_eq_true rfl) dX3_roomBy_103 ⟨Nat.zero_le _, Nat.zero_le _⟩ (fun H locs hP hD hS => ?_)
        refine lv_iload_n hx hb dX3_roomBy_106 rfl (lv_at hl 7 rfl) ?_
        refine lv_iload hx hb dX3_roomBy_107 (lv_at hl 2 rfl) ?_
        obtain ⟨q19, hq19, hf⟩ := rf_bindq hf
        refine rf_Si (As := [.int p2, .int v3]) (rest := [.int q18]) (wr := [(a_this, .inr (3, rf_o3 a_this_s a_this_image a_this_read a_this_mind a_this_letters a_this_row a_this_refused a_this_numbers a_this_cost g_this)), (a_this_s, .inl (cA, 22, .inl f_this_s))]) (wn := [(a_this, .inr (3, rf_o3 a_this_s a_this_image a_this_read a_this_mind a_this_letters a_this_row a_this_refused a_this_numbers a_this_cost g_this)), (a_this_s, .inl (cA, 22, .inl f_this_s))]) ⟨hx, hb, hml, hown, hts⟩ hK hP hD hS hA hE (c_X3_coldBy l D cA ad H.size p2 v3 q19 hq19) (va_cwS 2 hts gX3_roomBy_X3_coldBy rfl rfl rfl hs_X3_coldBy ⟨Nat.le_of_ble_eq_true rfl, Nat.le_of_ble_eq_true rfl⟩) [] [0, 1] [0, 1] rfl rfl rfl rfl (by decide) rfl rfl rfl rfl hl.1 (Nat.le_of_ble_eq_true rfl) dX3_roomBy_109 ⟨Nat.zero_le _, Nat.zero_le _⟩ (fun H locs hP hD hS => ?_)
        refine lv_iload hx hb dX3_roomBy_112 (lv_at hl 0 rfl) ?_
        refine lv_iload_n hx hb dX3_roomBy_114 rfl (lv_at hl 4 rfl) ?_
        refine lv_iload_n hx hb dX3_roomBy_115 rfl (lv_at hl 7 rfl) ?_
        refine lv_iconst (v := 5) hx hb dX3_roomBy_116 (by decide) ?_
        refine lv_icmp_ne (tgt := 124) hx hb dX3_roomBy_117 (by decide) (fun c20 => ?_) (fun c20 => ?_)
        · have hf := rf_ifn hf c20
          refine lv_iconst (v := 0) hx hb dX3_roomBy_124 (by decide) ?_
          refine lv_iadd hx hb dX3_roomBy_125 ?_
          obtain ⟨q21, hq21, hf⟩ := rf_bindq hf
          refine rf_Si (As := [.int q18, .int q19, .int v16, .int (v1 + 0)]) (rest := []) (wr := [(a_this, .inr (3, rf_o3 a_this_s a_this_image a_this_read a_this_mind a_this_letters a_this_row a_this_refused a_this_numbers a_this_cost g_this)), (a_this_s, .inl (cA, 22, .inl f_this_s))]) (wn := [(a_this, .inr (3, rf_o3 a_this_s a_this_image a_this_read a_this_mind a_this_letters a_this_row a_this_refused a_this_numbers a_this_cost g_this)), (a_this_s, .inl (cA, 22, .inl f_this_s))]) ⟨hx, hb, hml, hown, hts⟩ hK hP hD hS hA hE (c_X3_roomOf l D cA ad H.size q18 q19 v16 (v1 + 0) q21 hq21) (va_cwS 4 hts gX3_roomBy_X3_roomOf rfl rfl rfl hs_X3_roomOf ⟨Nat.le_of_ble_eq_true rfl, Nat.le_of_ble_eq_true rfl⟩) [] [0, 1] [0, 1] rfl rfl rfl rfl (by decide) rfl rfl rfl rfl hl.1 (Nat.le_of_ble_eq_true rfl) dX3_roomBy_126 ⟨Nat.zero_le _, Nat.zero_le _⟩ (fun H locs hP hD hS => ?_)
          obtain rfl := Option.some.inj hf
          exact W.iret (v := q21) hx hb hr (fun t ht hW => ⟨⟨q21, (), rfl, rfl, rf_mk ht hP hD⟩, hS.F ht⟩) hS.2.2 dX3_roomBy_129
        · have hf := rf_ifp hf c20
          refine lv_iconst (v := 1) hx hb dX3_roomBy_120 (by decide) ?_
          refine lv_goto (tgt := 125) hx hb dX3_roomBy_121 (by decide) ?_
          refine lv_iadd hx hb dX3_roomBy_125 ?_
          obtain ⟨q22, hq22, hf⟩ := rf_bindq hf
          refine rf_Si (As := [.int q18, .int q19, .int v16, .int (v1 + 1)]) (rest := []) (wr := [(a_this, .inr (3, rf_o3 a_this_s a_this_image a_this_read a_this_mind a_this_letters a_this_row a_this_refused a_this_numbers a_this_cost g_this)), (a_this_s, .inl (cA, 22, .inl f_this_s))]) (wn := [(a_this, .inr (3, rf_o3 a_this_s a_this_image a_this_read a_this_mind a_this_letters a_this_row a_this_refused a_this_numbers a_this_cost g_this)), (a_this_s, .inl (cA, 22, .inl f_this_s))]) ⟨hx, hb, hml, hown, hts⟩ hK hP hD hS hA hE (c_X3_roomOf l D cA ad H.size q18 q19 v16 (v1 + 1) q22 hq22) (va_cwS 4 hts gX3_roomBy_X3_roomOf rfl rfl rfl hs_X3_roomOf ⟨Nat.le_of_ble_eq_true rfl, Nat.le_of_ble_eq_true rfl⟩) [] [0, 1] [0, 1] rfl rfl rfl rfl (by decide) rfl rfl rfl rfl hl.1 (Nat.le_of_ble_eq_true rfl) dX3_roomBy_126 ⟨Nat.zero_le _, Nat.zero_le _⟩ (fun H locs hP hD hS => ?_)
          obtain rfl := Option.some.inj hf
          exact W.iret (v := q22) hx hb hr (fun t ht hW => ⟨⟨q22, (), rfl, rfl, rf_mk ht hP hD⟩, hS.F ht⟩) hS.2.2 dX3_roomBy_129
    · have hf := rf_ifp hf c6
      refine lv_iload_n hx hb dX3_roomBy_62 rfl (lv_at hl 3 rfl) ?_
      refine lv_iconst (v := 2) hx hb dX3_roomBy_63 (by decide) ?_
      refine lv_icmp_ne (tgt := 70) hx hb dX3_roomBy_64 (by decide) (fun c23 => ?_) (fun c23 => ?_)
      · have hf := rf_ifn hf c23
        refine lv_iload hx hb dX3_roomBy_70 (lv_at hl 2 rfl) ?_
        refine lv_aload_n hx hb dX3_roomBy_72 rfl (lv_at hl 4 rfl) ?_
        refine lv_iload hx hb dX3_roomBy_73 (lv_at hl 2 rfl) ?_
        refine lv_iload_n hx hb dX3_roomBy_75 rfl (lv_at hl 6 rfl) ?_
        refine lv_iload hx hb dX3_roomBy_76 (lv_at hl 0 rfl) ?_
        refine lv_iload hx hb dX3_roomBy_78 (lv_at hl 1 rfl) ?_
        obtain ⟨q24, hq24, hf⟩ := rf_bindq hf
        refine rf_Vi (As := [.int v2, .int p2, .int v4, .int v3]) (rest := [.int v2]) (wr := []) (wn := [(a_this, .inr (3, rf_o3 a_this_s a_this_image a_this_read a_this_mind a_this_letters a_this_row a_this_refused a_this_numbers a_this_cost g_this)), (a_this_s, .inl (cA, 22, .inl f_this_s))]) ⟨hx, hb, hml, hown, hts⟩ hK hP hD hS hA hE (c_X3_goesOver l D cA ad a_this a_this_s a_this_image a_this_read a_this_mind a_this_letters a_this_row a_this_refused a_this_numbers a_this_cost s.heap.size g_this f_this_s v2 p2 v4 v3 q24 hq24) (cwV 4 hts gX3_roomBy_X3_goesOver rfl rfl rfl hv_X3_goesOver ⟨Nat.le_of_ble_eq_true rfl, Nat.le_of_ble_eq_true rfl⟩) [0, 1] [] [0, 1] rfl rfl rfl rfl (by decide) rfl rfl 3 0 rfl rfl rfl rfl rfl hl.1 (Nat.le_of_ble_eq_true rfl) dX3_roomBy_80 ⟨Nat.zero_le _, Nat.zero_le _⟩ (fun H locs hP hD hS => ?_)
        refine lv_if_eq (tgt := 90) hx hb dX3_roomBy_83 (by decide) (fun c25 => ?_) (fun c25 => ?_)
        · have hf := rf_ifp hf c25
          refine lv_iconst (v := 0) hx hb dX3_roomBy_90 (by decide) ?_
          refine lv_iadd hx hb dX3_roomBy_91 ?_
          refine lv_topi (fun v26 ev26 => ?_)
          have hf := rf_bindv hf ev26
          clear ev26
          refine lv_istore (lv' := [(7, .int v26), (6, .int v4), (5, .int v3), (4, .int v2), (3, .int v1), (0, .ref a_this), (1, .int p1), (2, .int p2)]) hx hb dX3_roomBy_92 hl (by decide) rfl (fun ls hl => ?_)
          refine lv_bipush (v := 30) hx hb dX3_roomBy_94 (by decide) ?_
          refine lv_iload hx hb dX3_roomBy_96 (lv_at hl 1 rfl) ?_
          refine lv_iload_n hx hb dX3_roomBy_98 rfl (lv_at hl 7 rfl) ?_
          obtain ⟨q27, hq27, hf⟩ := rf_bindq hf
          refine rf_Si (As := [.int p2]) (rest := [.int v4, .int 30]) (wr := [(a_this, .inr (3, rf_o3 a_this_s a_this_image a_this_read a_this_mind a_this_letters a_this_row a_this_refused a_this_numbers a_this_cost g_this)), (a_this_s, .inl (cA, 22, .inl f_this_s))]) (wn := [(a_this, .inr (3, rf_o3 a_this_s a_this_image a_this_read a_this_mind a_this_letters a_this_row a_this_refused a_this_numbers a_this_cost g_this)), (a_this_s, .inl (cA, 22, .inl f_this_s))]) ⟨hx, hb, hml, hown, hts⟩ hK hP hD hS hA hE (c_X3_swellsBy l D cA ad H.size p2 q27 hq27) (va_cwS 1 hts gX3_roomBy_X3_swellsBy rfl rfl rfl hs_X3_swellsBy ⟨Nat.le_of_ble_eq_true rfl, Nat.le_of_ble_eq_true rfl⟩) [] [0, 1] [0, 1] rfl rfl rfl rfl (by decide) rfl rfl rfl rfl hl.1 (Nat.le_of_ble_eq_true rfl) dX3_roomBy_99 ⟨Nat.zero_le _, Nat.zero_le _⟩ (fun H locs hP hD hS => ?_)
          refine lv_iadd hx hb dX3_roomBy_102 ?_
          obtain ⟨q28, hq28, hf⟩ := rf_bindq hf
          refine rf_Si (As := [.int 30, .int (v4 + q27)]) (rest := []) (wr := [(a_this, .inr (3, rf_o3 a_this_s a_this_image a_this_read a_this_mind a_this_letters a_this_row a_this_refused a_this_numbers a_this_cost g_this)), (a_this_s, .inl (cA, 22, .inl f_this_s))]) (wn := [(a_this, .inr (3, rf_o3 a_this_s a_this_image a_this_read a_this_mind a_this_letters a_this_row a_this_refused a_this_numbers a_this_cost g_this)), (a_this_s, .inl (cA, 22, .inl f_this_s))]) ⟨hx, hb, hml, hown, hts⟩ hK hP hD hS hA hE (c_X3_least l D cA ad H.size 30 (v4 + q27) q28 hq28) (va_cwS 2 hts gX3_roomBy_X3_least rfl rfl rfl hs_X3_least ⟨Nat.le_of_ble_eq_true rfl, Nat.le_of_ble_eq_true rfl⟩) [] [0, 1] [0, 1] rfl rfl rfl rfl (by decide) rfl rfl rfl rfl hl.1 (Nat.le_of_ble_eq_true rfl) dX3_roomBy_103 ⟨Nat.zero_le _, Nat.zero_le _⟩ (fun H locs hP hD hS => ?_)
          refine lv_iload_n hx hb dX3_roomBy_106 rfl (lv_at hl 7 rfl) ?_
          refine lv_iload hx hb dX3_roomBy_107 (lv_at hl 2 rfl) ?_
          obtain ⟨q29, hq29, hf⟩ := rf_bindq hf
          refine rf_Si (As := [.int p2, .int v3]) (rest := [.int q28]) (wr := [(a_this, .inr (3, rf_o3 a_this_s a_this_image a_this_read a_this_mind a_this_letters a_this_row a_this_refused a_this_numbers a_this_cost g_this)), (a_this_s, .inl (cA, 22, .inl f_this_s))]) (wn := [(a_this, .inr (3, rf_o3 a_this_s a_this_image a_this_read a_this_mind a_this_letters a_this_row a_this_refused a_this_numbers a_this_cost g_this)), (a_this_s, .inl (cA, 22, .inl f_this_s))]) ⟨hx, hb, hml, hown, hts⟩ hK hP hD hS hA hE (c_X3_coldBy l D cA ad H.size p2 v3 q29 hq29) (va_cwS 2 hts gX3_roomBy_X3_coldBy rfl rfl rfl hs_X3_coldBy ⟨Nat.le_of_ble_eq_true rfl, Nat.le_of_ble_eq_true rfl⟩) [] [0, 1] [0, 1] rfl rfl rfl rfl (by decide) rfl rfl rfl rfl hl.1 (Nat.le_of_ble_eq_true rfl) dX3_roomBy_109 ⟨Nat.zero_le _, Nat.zero_le _⟩ (fun H locs hP hD hS => ?_)
          refine lv_iload hx hb dX3_roomBy_112 (lv_at hl 0 rfl) ?_
          refine lv_iload_n hx hb dX3_roomBy_114 rfl (lv_at hl 4 rfl) ?_
          refine lv_iload_n hx hb dX3_roomBy_115 rfl (lv_at hl 7 rfl) ?_
          refine lv_iconst (v := 5) hx hb dX3_roomBy_116 (by decide) ?_
          refine lv_icmp_ne (tgt := 124) hx hb dX3_roomBy_117 (by decide) (fun c30 => ?_) (fun c30 => ?_)
          · have hf := rf_ifn hf c30
            refine lv_iconst (v := 0) hx hb dX3_roomBy_124 (by decide) ?_
            refine lv_iadd hx hb dX3_roomBy_125 ?_
            obtain ⟨q31, hq31, hf⟩ := rf_bindq hf
            refine rf_Si (As := [.int q28, .int q29, .int v26, .int (v1 + 0)]) (rest := []) (wr := [(a_this, .inr (3, rf_o3 a_this_s a_this_image a_this_read a_this_mind a_this_letters a_this_row a_this_refused a_this_numbers a_this_cost g_this)), (a_this_s, .inl (cA, 22, .inl f_this_s))]) (wn := [(a_this, .inr (3, rf_o3 a_this_s a_this_image a_this_read a_this_mind a_this_letters a_this_row a_this_refused a_this_numbers a_this_cost g_this)), (a_this_s, .inl (cA, 22, .inl f_this_s))]) ⟨hx, hb, hml, hown, hts⟩ hK hP hD hS hA hE (c_X3_roomOf l D cA ad H.size q28 q29 v26 (v1 + 0) q31 hq31) (va_cwS 4 hts gX3_roomBy_X3_roomOf rfl rfl rfl hs_X3_roomOf ⟨Nat.le_of_ble_eq_true rfl, Nat.le_of_ble_eq_true rfl⟩) [] [0, 1] [0, 1] rfl rfl rfl rfl (by decide) rfl rfl rfl rfl hl.1 (Nat.le_of_ble_eq_true rfl) dX3_roomBy_126 ⟨Nat.zero_le _, Nat.zero_le _⟩ (fun H locs hP hD hS => ?_)
            obtain rfl := Option.some.inj hf
            exact W.iret (v := q31) hx hb hr (fun t ht hW => ⟨⟨q31, (), rfl, rfl, rf_mk ht hP hD⟩, hS.F ht⟩) hS.2.2 dX3_roomBy_129
          · have hf := rf_ifp hf c30
            refine lv_iconst (v := 1) hx hb dX3_roomBy_120 (by decide) ?_
            refine lv_goto (tgt := 125) hx hb dX3_roomBy_121 (by decide) ?_
            refine lv_iadd hx hb dX3_roomBy_125 ?_
            obtain ⟨q32, hq32, hf⟩ := rf_bindq hf
            refine rf_Si (As := [.int q28, .int q29, .int v26, .int (v1 + 1)]) (rest := []) (wr := [(a_this, .inr (3, rf_o3 a_this_s a_this_image a_this_read a_this_mind a_this_letters a_this_row a_this_refused a_this_numbers a_this_cost g_this)), (a_this_s, .inl (cA, 22, .inl f_this_s))]) (wn := [(a_this, .inr (3, rf_o3 a_this_s a_this_image a_this_read a_this_mind a_this_letters a_this_row a_this_refused a_this_numbers a_this_cost g_this)), (a_this_s, .inl (cA, 22, .inl f_this_s))]) ⟨hx, hb, hml, hown, hts⟩ hK hP hD hS hA hE (c_X3_roomOf l D cA ad H.size q28 q29 v26 (v1 + 1) q32 hq32) (va_cwS 4 hts gX3_roomBy_X3_roomOf rfl rfl rfl hs_X3_roomOf ⟨Nat.le_of_ble_eq_true rfl, Nat.le_of_ble_eq_true rfl⟩) [] [0, 1] [0, 1] rfl rfl rfl rfl (by decide) rfl rfl rfl rfl hl.1 (Nat.le_of_ble_eq_true rfl) dX3_roomBy_126 ⟨Nat.zero_le _, Nat.zero_le _⟩ (fun H locs hP hD hS => ?_)
            obtain rfl := Option.some.inj hf
            exact W.iret (v := q32) hx hb hr (fun t ht hW => ⟨⟨q32, (), rfl, rfl, rf_mk ht hP hD⟩, hS.F ht⟩) hS.2.2 dX3_roomBy_129
        · have hf := rf_ifn hf c25
          refine lv_iconst (v := 1) hx hb dX3_roomBy_86 (by decide) ?_
          refine lv_goto (tgt := 91) hx hb dX3_roomBy_87 (by decide) ?_
          refine lv_iadd hx hb dX3_roomBy_91 ?_
          refine lv_topi (fun v33 ev33 => ?_)
          have hf := rf_bindv hf ev33
          clear ev33
          refine lv_istore (lv' := [(7, .int v33), (6, .int v4), (5, .int v3), (4, .int v2), (3, .int v1), (0, .ref a_this), (1, .int p1), (2, .int p2)]) hx hb dX3_roomBy_92 hl (by decide) rfl (fun ls hl => ?_)
          refine lv_bipush (v := 30) hx hb dX3_roomBy_94 (by decide) ?_
          refine lv_iload hx hb dX3_roomBy_96 (lv_at hl 1 rfl) ?_
          refine lv_iload_n hx hb dX3_roomBy_98 rfl (lv_at hl 7 rfl) ?_
          obtain ⟨q34, hq34, hf⟩ := rf_bindq hf
          refine rf_Si (As := [.int p2]) (rest := [.int v4, .int 30]) (wr := [(a_this, .inr (3, rf_o3 a_this_s a_this_image a_this_read a_this_mind a_this_letters a_this_row a_this_refused a_this_numbers a_this_cost g_this)), (a_this_s, .inl (cA, 22, .inl f_this_s))]) (wn := [(a_this, .inr (3, rf_o3 a_this_s a_this_image a_this_read a_this_mind a_this_letters a_this_row a_this_refused a_this_numbers a_this_cost g_this)), (a_this_s, .inl (cA, 22, .inl f_this_s))]) ⟨hx, hb, hml, hown, hts⟩ hK hP hD hS hA hE (c_X3_swellsBy l D cA ad H.size p2 q34 hq34) (va_cwS 1 hts gX3_roomBy_X3_swellsBy rfl rfl rfl hs_X3_swellsBy ⟨Nat.le_of_ble_eq_true rfl, Nat.le_of_ble_eq_true rfl⟩) [] [0, 1] [0, 1] rfl rfl rfl rfl (by decide) rfl rfl rfl rfl hl.1 (Nat.le_of_ble_eq_true rfl) dX3_roomBy_99 ⟨Nat.zero_le _, Nat.zero_le _⟩ (fun H locs hP hD hS => ?_)
          refine lv_iadd hx hb dX3_roomBy_102 ?_
          obtain ⟨q35, hq35, hf⟩ := rf_bindq hf
          refine rf_Si (As := [.int 30, .int (v4 + q34)]) (rest := []) (wr := [(a_this, .inr (3, rf_o3 a_this_s a_this_image a_this_read a_this_mind a_this_letters a_this_row a_this_refused a_this_numbers a_this_cost g_this)), (a_this_s, .inl (cA, 22, .inl f_this_s))]) (wn := [(a_this, .inr (3, rf_o3 a_this_s a_this_image a_this_read a_this_mind a_this_letters a_this_row a_this_refused a_this_numbers a_this_cost g_this)), (a_this_s, .inl (cA, 22, .inl f_this_s))]) ⟨hx, hb, hml, hown, hts⟩ hK hP hD hS hA hE (c_X3_least l D cA ad H.size 30 (v4 + q34) q35 hq35) (va_cwS 2 hts gX3_roomBy_X3_least rfl rfl rfl hs_X3_least ⟨Nat.le_of_ble_eq_true rfl, Nat.le_of_ble_eq_true rfl⟩) [] [0, 1] [0, 1] rfl rfl rfl rfl (by decide) rfl rfl rfl rfl hl.1 (Nat.le_of_ble_eq_true rfl) dX3_roomBy_103 ⟨Nat.zero_le _, Nat.zero_le _⟩ (fun H locs hP hD hS => ?_)
          refine lv_iload_n hx hb dX3_roomBy_106 rfl (lv_at hl 7 rfl) ?_
          refine lv_iload hx hb dX3_roomBy_107 (lv_at hl 2 rfl) ?_
          obtain ⟨q36, hq36, hf⟩ := rf_bindq hf
          refine rf_Si (As := [.int p2, .int v3]) (rest := [.int q35]) (wr := [(a_this, .inr (3, rf_o3 a_this_s a_this_image a_this_read a_this_mind a_this_letters a_this_row a_this_refused a_this_numbers a_this_cost g_this)), (a_this_s, .inl (cA, 22, .inl f_this_s))]) (wn := [(a_this, .inr (3, rf_o3 a_this_s a_this_image a_this_read a_this_mind a_this_letters a_this_row a_this_refused a_this_numbers a_this_cost g_this)), (a_this_s, .inl (cA, 22, .inl f_this_s))]) ⟨hx, hb, hml, hown, hts⟩ hK hP hD hS hA hE (c_X3_coldBy l D cA ad H.size p2 v3 q36 hq36) (va_cwS 2 hts gX3_roomBy_X3_coldBy rfl rfl rfl hs_X3_coldBy ⟨Nat.le_of_ble_eq_true rfl, Nat.le_of_ble_eq_true rfl⟩) [] [0, 1] [0, 1] rfl rfl rfl rfl (by decide) rfl rfl rfl rfl hl.1 (Nat.le_of_ble_eq_true rfl) dX3_roomBy_109 ⟨Nat.zero_le _, Nat.zero_le _⟩ (fun H locs hP hD hS => ?_)
          refine lv_iload hx hb dX3_roomBy_112 (lv_at hl 0 rfl) ?_
          refine lv_iload_n hx hb dX3_roomBy_114 rfl (lv_at hl 4 rfl) ?_
          refine lv_iload_n hx hb dX3_roomBy_115 rfl (lv_at hl 7 rfl) ?_
          refine lv_iconst (v := 5) hx hb dX3_roomBy_116 (by decide) ?_
          refine lv_icmp_ne (tgt := 124) hx hb dX3_roomBy_117 (by decide) (fun c37 => ?_) (fun c37 => ?_)
          · have hf := rf_ifn hf c37
            refine lv_iconst (v := 0) hx hb dX3_roomBy_124 (by decide) ?_
            refine lv_iadd hx hb dX3_roomBy_125 ?_
            obtain ⟨q38, hq38, hf⟩ := rf_bindq hf
            refine rf_Si (As := [.int q35, .int q36, .int v33, .int (v1 + 0)]) (rest := []) (wr := [(a_this, .inr (3, rf_o3 a_this_s a_this_image a_this_read a_this_mind a_this_letters a_this_row a_this_refused a_this_numbers a_this_cost g_this)), (a_this_s, .inl (cA, 22, .inl f_this_s))]) (wn := [(a_this, .inr (3, rf_o3 a_this_s a_this_image a_this_read a_this_mind a_this_letters a_this_row a_this_refused a_this_numbers a_this_cost g_this)), (a_this_s, .inl (cA, 22, .inl f_this_s))]) ⟨hx, hb, hml, hown, hts⟩ hK hP hD hS hA hE (c_X3_roomOf l D cA ad H.size q35 q36 v33 (v1 + 0) q38 hq38) (va_cwS 4 hts gX3_roomBy_X3_roomOf rfl rfl rfl hs_X3_roomOf ⟨Nat.le_of_ble_eq_true rfl, Nat.le_of_ble_eq_true rfl⟩) [] [0, 1] [0, 1] rfl rfl rfl rfl (by decide) rfl rfl rfl rfl hl.1 (Nat.le_of_ble_eq_true rfl) dX3_roomBy_126 ⟨Nat.zero_le _, Nat.zero_le _⟩ (fun H locs hP hD hS => ?_)
            obtain rfl := Option.some.inj hf
            exact W.iret (v := q38) hx hb hr (fun t ht hW => ⟨⟨q38, (), rfl, rfl, rf_mk ht hP hD⟩, hS.F ht⟩) hS.2.2 dX3_roomBy_129
          · have hf := rf_ifp hf c37
            refine lv_iconst (v := 1) hx hb dX3_roomBy_120 (by decide) ?_
            refine lv_goto (tgt := 125) hx hb dX3_roomBy_121 (by decide) ?_
            refine lv_iadd hx hb dX3_roomBy_125 ?_
            obtain ⟨q39, hq39, hf⟩ := rf_bindq hf
            refine rf_Si (As := [.int q35, .int q36, .int v33, .int (v1 + 1)]) (rest := []) (wr := [(a_this, .inr (3, rf_o3 a_this_s a_this_image a_this_read a_this_mind a_this_letters a_this_row a_this_refused a_this_numbers a_this_cost g_this)), (a_this_s, .inl (cA, 22, .inl f_this_s))]) (wn := [(a_this, .inr (3, rf_o3 a_this_s a_this_image a_this_read a_this_mind a_this_letters a_this_row a_this_refused a_this_numbers a_this_cost g_this)), (a_this_s, .inl (cA, 22, .inl f_this_s))]) ⟨hx, hb, hml, hown, hts⟩ hK hP hD hS hA hE (c_X3_roomOf l D cA ad H.size q35 q36 v33 (v1 + 1) q39 hq39) (va_cwS 4 hts gX3_roomBy_X3_roomOf rfl rfl rfl hs_X3_roomOf ⟨Nat.le_of_ble_eq_true rfl, Nat.le_of_ble_eq_true rfl⟩) [] [0, 1] [0, 1] rfl rfl rfl rfl (by decide) rfl rfl rfl rfl hl.1 (Nat.le_of_ble_eq_true rfl) dX3_roomBy_126 ⟨Nat.zero_le _, Nat.zero_le _⟩ (fun H locs hP hD hS => ?_)
            obtain rfl := Option.some.inj hf
            exact W.iret (v := q39) hx hb hr (fun t ht hW => ⟨⟨q39, (), rfl, rfl, rf_mk ht hP hD⟩, hS.F ht⟩) hS.2.2 dX3_roomBy_129
      · have hf := rf_ifp hf c23
        refine lv_bipush (v := (-9)) hx hb dX3_roomBy_67 (by decide) ?_
        obtain rfl := Option.some.inj hf
        exact W.iret (v := (-9)) hx hb hr (fun t ht hW => ⟨⟨(-9), (), rfl, rfl, rf_mk ht hP hD⟩, hS.F ht⟩) hS.2.2 dX3_roomBy_69
  · have hf := rf_ifp hf c5
    refine lv_iconst (v := 0) hx hb dX3_roomBy_34 (by decide) ?_
    refine lv_iload hx hb dX3_roomBy_35 (lv_at hl 0 rfl) ?_
    refine lv_iconst (v := 2) hx hb dX3_roomBy_37 (by decide) ?_
    refine lv_isub hx hb dX3_roomBy_38 ?_
    obtain ⟨q40, hq40, hf⟩ := rf_bindq hf
    refine rf_Si (As := [.int 0, .int (v4 - 2)]) (rest := []) (wr := [(a_this, .inr (3, rf_o3 a_this_s a_this_image a_this_read a_this_mind a_this_letters a_this_row a_this_refused a_this_numbers a_this_cost g_this)), (a_this_s, .inl (cA, 22, .inl f_this_s))]) (wn := [(a_this, .inr (3, rf_o3 a_this_s a_this_image a_this_read a_this_mind a_this_letters a_this_row a_this_refused a_this_numbers a_this_cost g_this)), (a_this_s, .inl (cA, 22, .inl f_this_s))]) ⟨hx, hb, hml, hown, hts⟩ hK hP hD hS hA hE (c_X3_most l D cA ad s.heap.size 0 (v4 - 2) q40 hq40) (va_cwS 2 hts gX3_roomBy_X3_most rfl rfl rfl hs_X3_most ⟨Nat.le_of_ble_eq_true rfl, Nat.le_of_ble_eq_true rfl⟩) [] [0, 1] [0, 1] rfl rfl rfl rfl (by decide) rfl rfl rfl rfl hl.1 (Nat.le_of_ble_eq_true rfl) dX3_roomBy_39 ⟨Nat.zero_le _, Nat.zero_le _⟩ (fun H locs hP hD hS => ?_)
    refine lv_iconst (v := 0) hx hb dX3_roomBy_42 (by decide) ?_
    refine lv_iload hx hb dX3_roomBy_43 (lv_at hl 1 rfl) ?_
    refine lv_iconst (v := 1) hx hb dX3_roomBy_45 (by decide) ?_
    refine lv_isub hx hb dX3_roomBy_46 ?_
    obtain ⟨q41, hq41, hf⟩ := rf_bindq hf
    refine rf_Si (As := [.int 0, .int (v3 - 1)]) (rest := [.int q40]) (wr := [(a_this, .inr (3, rf_o3 a_this_s a_this_image a_this_read a_this_mind a_this_letters a_this_row a_this_refused a_this_numbers a_this_cost g_this)), (a_this_s, .inl (cA, 22, .inl f_this_s))]) (wn := [(a_this, .inr (3, rf_o3 a_this_s a_this_image a_this_read a_this_mind a_this_letters a_this_row a_this_refused a_this_numbers a_this_cost g_this)), (a_this_s, .inl (cA, 22, .inl f_this_s))]) ⟨hx, hb, hml, hown, hts⟩ hK hP hD hS hA hE (c_X3_most l D cA ad H.size 0 (v3 - 1) q41 hq41) (va_cwS 2 hts gX3_roomBy_X3_most rfl rfl rfl hs_X3_most ⟨Nat.le_of_ble_eq_true rfl, Nat.le_of_ble_eq_true rfl⟩) [] [0, 1] [0, 1] rfl rfl rfl rfl (by decide) rfl rfl rfl rfl hl.1 (Nat.le_of_ble_eq_true rfl) dX3_roomBy_47 ⟨Nat.zero_le _, Nat.zero_le _⟩ (fun H locs hP hD hS => ?_)
    refine lv_iload hx hb dX3_roomBy_50 (lv_at hl 2 rfl) ?_
    refine lv_iload_n hx hb dX3_roomBy_52 rfl (lv_at hl 3 rfl) ?_
    obtain ⟨q42, hq42, hf⟩ := rf_bindq hf
    refine rf_Si (As := [.int q40, .int q41, .int v2, .int v1]) (rest := []) (wr := [(a_this, .inr (3, rf_o3 a_this_s a_this_image a_this_read a_this_mind a_this_letters a_this_row a_this_refused a_this_numbers a_this_cost g_this)), (a_this_s, .inl (cA, 22, .inl f_this_s))]) (wn := [(a_this, .inr (3, rf_o3 a_this_s a_this_image a_this_read a_this_mind a_this_letters a_this_row a_this_refused a_this_numbers a_this_cost g_this)), (a_this_s, .inl (cA, 22, .inl f_this_s))]) ⟨hx, hb, hml, hown, hts⟩ hK hP hD hS hA hE (c_X3_roomOf l D cA ad H.size q40 q41 v2 v1 q42 hq42) (va_cwS 4 hts gX3_roomBy_X3_roomOf rfl rfl rfl hs_X3_roomOf ⟨Nat.le_of_ble_eq_true rfl, Nat.le_of_ble_eq_true rfl⟩) [] [0, 1] [0, 1] rfl rfl rfl rfl (by decide) rfl rfl rfl rfl hl.1 (Nat.le_of_ble_eq_true rfl) dX3_roomBy_53 ⟨Nat.zero_le _, Nat.zero_le _⟩ (fun H locs hP hD hS => ?_)
    obtain rfl := Option.some.inj hf
    exact W.iret (v := q42) hx hb hr (fun t ht hW => ⟨⟨q42, (), rfl, rfl, rf_mk ht hP hD⟩, hS.F ht⟩) hS.2.2 dX3_roomBy_56

set_option maxHeartbeats 8000000 in
set_option maxRecDepth 100000 in
theorem c_X3_costOf (l : Launch) (D : va_G) (cA : ClassId) (ad : Nat → Nat) (sz : Nat) (p0 p1 : Int32) (q : Int32) (hf : f_X3_costOf p0 p1 = some q) : Met l yX3_costOf wsX3_costOf ({ frames := 1, cells := 0, slots := 0, locals := 20 } : Room) (va_Pc [.int p0, .int p1] (rf_Pre D cA ad [] sz)) (va_Qi (fun (r : Int32) (_ : Unit) => r = q) (fun _ t => rf_Post D (va_A [] sz) [] t) (va_A [] sz)) 0 0 (va_A [] sz) := by
  refine Met.ofW (cc := cX3_costOf) (maxL := 2) (ret := (some .int)) (by decide) rfl ?_
  intro p e s m args below meth c s₁ B hml hv
  obtain ⟨rfl, hsz, hP, hK, hD0, hE⟩ := hv
  have hx := B.exec
  have hb := B.bytes
  have hr := B.returns
  have hts := atoms_spec (ws := wsX3_costOf) B.pre
  have hown : s.vm.findClass RX3 = some m.cls := findClass_of_methodNamed B.named
  have hlocks := B.notSynchronized
  subst hsz
  have hD := hD0.self (sz := s.heap.size)
  generalize hAe : va_A [] s.heap.size = A at hD hE ⊢
  have hA : ∀ q : Nat, s.heap.size ≤ q → A q := fun q h => by rw [← hAe]; exact Or.inr h
  have hS : va_S A s.heap s.heap [] := va_S.rf
  have hP : va_P D vwCl [] s.heap := hP
  have hl := lv_entry ([.int p0, .int p1]) (n := 2) (Nat.le_of_ble_eq_true rfl)
  rw [lg_entry_eq]
  generalize (lg_sl ([.int p0, .int p1]) ++ List.replicate (2 - (lg_sl ([.int p0, .int p1])).length) Slot.unset).toArray = ls at hl ⊢
  have hl : lv_has ls 2 [(0, .int p0), (1, .int p1)] := hl
  rw [f_X3_costOf] at hf
  refine lv_iload_n hx hb dX3_costOf_0 rfl (lv_at hl 0 rfl) ?_
  refine lv_bipush (v := 7) hx hb dX3_costOf_1 (by decide) ?_
  refine lv_icmp_ne (tgt := 18) hx hb dX3_costOf_3 (by decide) (fun c1 => ?_) (fun c1 => ?_)
  · have hf := rf_ifn hf c1
    refine lv_iload_n hx hb dX3_costOf_18 rfl (lv_at hl 1 rfl) ?_
    refine lv_if_eq (tgt := 29) hx hb dX3_costOf_19 (by decide) (fun c2 => ?_) (fun c2 => ?_)
    · have hf := rf_ifp hf c2
      refine lv_iload_n hx hb dX3_costOf_29 rfl (lv_at hl 0 rfl) ?_
      obtain ⟨q3, hq3, hf⟩ := rf_bindq hf
      refine rf_Si (As := [.int p0]) (rest := []) (wr := []) (wn := []) ⟨hx, hb, hml, hown, hts⟩ hK hP hD hS hA hE (c_X3_minutesOf l D cA ad s.heap.size p0 q3 hq3) (va_cwS 1 hts gX3_costOf_X3_minutesOf rfl rfl rfl hs_X3_minutesOf ⟨Nat.le_of_ble_eq_true rfl, Nat.le_of_ble_eq_true rfl⟩) [] [] [] rfl rfl rfl rfl (by decide) rfl rfl rfl rfl hl.1 (Nat.le_of_ble_eq_true rfl) dX3_costOf_30 ⟨Nat.zero_le _, Nat.zero_le _⟩ (fun H locs hP hD hS => ?_)
      obtain rfl := Option.some.inj hf
      exact W.iret (v := q3) hx hb hr (fun t ht hW => ⟨⟨q3, (), rfl, rfl, rf_mk ht hP hD⟩, hS.F ht⟩) hS.2.2 dX3_costOf_33
    · have hf := rf_ifn hf c2
      refine lv_iload_n hx hb dX3_costOf_22 rfl (lv_at hl 0 rfl) ?_
      obtain ⟨q4, hq4, hf⟩ := rf_bindq hf
      refine rf_Si (As := [.int p0]) (rest := []) (wr := []) (wn := []) ⟨hx, hb, hml, hown, hts⟩ hK hP hD hS hA hE (c_X3_harmOf l D cA ad s.heap.size p0 q4 hq4) (va_cwS 1 hts gX3_costOf_X3_harmOf rfl rfl rfl hs_X3_harmOf ⟨Nat.le_of_ble_eq_true rfl, Nat.le_of_ble_eq_true rfl⟩) [] [] [] rfl rfl rfl rfl (by decide) rfl rfl rfl rfl hl.1 (Nat.le_of_ble_eq_true rfl) dX3_costOf_23 ⟨Nat.zero_le _, Nat.zero_le _⟩ (fun H locs hP hD hS => ?_)
      refine lv_goto (tgt := 33) hx hb dX3_costOf_26 (by decide) ?_
      obtain rfl := Option.some.inj hf
      exact W.iret (v := q4) hx hb hr (fun t ht hW => ⟨⟨q4, (), rfl, rfl, rf_mk ht hP hD⟩, hS.F ht⟩) hS.2.2 dX3_costOf_33
  · have hf := rf_ifp hf c1
    refine lv_iload_n hx hb dX3_costOf_6 rfl (lv_at hl 1 rfl) ?_
    refine lv_if_eq (tgt := 14) hx hb dX3_costOf_7 (by decide) (fun c5 => ?_) (fun c5 => ?_)
    · have hf := rf_ifp hf c5
      refine lv_iconst (v := 5) hx hb dX3_costOf_14 (by decide) ?_
      refine lv_goto (tgt := 33) hx hb dX3_costOf_15 (by decide) ?_
      obtain rfl := Option.some.inj hf
      exact W.iret (v := 5) hx hb hr (fun t ht hW => ⟨⟨5, (), rfl, rfl, rf_mk ht hP hD⟩, hS.F ht⟩) hS.2.2 dX3_costOf_33
    · have hf := rf_ifn hf c5
      refine lv_iconst (v := 0) hx hb dX3_costOf_10 (by decide) ?_
      refine lv_goto (tgt := 33) hx hb dX3_costOf_11 (by decide) ?_
      obtain rfl := Option.some.inj hf
      exact W.iret (v := 0) hx hb hr (fun t ht hW => ⟨⟨0, (), rfl, rfl, rf_mk ht hP hD⟩, hS.F ht⟩) hS.2.2 dX3_costOf_33
