theorem hs_X3_monthsOf : yX3_monthsOf.cls ≠ "java/lang/invoke/MethodHandle" ∧ yX3_monthsOf.cls ≠ "java/lang/invoke/VarHandle" ∧ (parseMethodDescriptor yX3_monthsOf.desc).map (fun d => d.parameters.length) = some 2 := by decide +kernel
theorem hs_X3_wrongMonths : yX3_wrongMonths.cls ≠ "java/lang/invoke/MethodHandle" ∧ yX3_wrongMonths.cls ≠ "java/lang/invoke/VarHandle" ∧ (parseMethodDescriptor yX3_wrongMonths.desc).map (fun d => d.parameters.length) = some 4 := by decide +kernel
theorem hv_X3_far : yX3_far.cls = RX3 ∧ yX3_far.cls ≠ "java/lang/invoke/MethodHandle" ∧ yX3_far.cls ≠ "java/lang/invoke/VarHandle" ∧ (parseMethodDescriptor yX3_far.desc).map (fun d => d.parameters.length) = some 1 := by decide +kernel
theorem hv_X3_goesOverAll : yX3_goesOverAll.cls = RX3 ∧ yX3_goesOverAll.cls ≠ "java/lang/invoke/MethodHandle" ∧ yX3_goesOverAll.cls ≠ "java/lang/invoke/VarHandle" ∧ (parseMethodDescriptor yX3_goesOverAll.desc).map (fun d => d.parameters.length) = some 2 := by decide +kernel

set_option maxHeartbeats 8000000 in
set_option maxRecDepth 100000 in
theorem c_X3_wrongMonths (l : Launch) (D : va_G) (cA : ClassId) (ad : Nat → Nat) (sz : Nat) (p0 p1 p2 p3 : Int32) (q : Int32) (hf : f_X3_wrongMonths p0 p1 p2 p3 = some q) : Met l yX3_wrongMonths wsX3_wrongMonths ({ frames := 0, cells := 0, slots := 0, locals := 0 } : Room) (va_Pc [.int p0, .int p1, .int p2, .int p3] (rf_Pre D cA ad [] sz)) (va_Qi (fun (r : Int32) (_ : Unit) => r = q) (fun _ t => rf_Post D (va_A [] sz) [] t) (va_A [] sz)) 0 0 (va_A [] sz) := by
  refine Met.ofW (cc := cX3_wrongMonths) (maxL := 4) (ret := (some .int)) (by decide) rfl ?_
  intro p e s m args below meth c s₁ B hml hv
  obtain ⟨rfl, hsz, hP, hK, hD0, hE⟩ := hv
  have hx := B.exec
  have hb := B.bytes
  have hr := B.returns
  have hts := atoms_spec (ws := wsX3_wrongMonths) B.pre
  have hown : s.vm.findClass RX3 = some m.cls := findClass_of_methodNamed B.named
  have hlocks := B.notSynchronized
  subst hsz
  have hD := hD0.self (sz := s.heap.size)
  generalize hAe : va_A [] s.heap.size = A at hD hE ⊢
  have hA : ∀ q : Nat, s.heap.size ≤ q → A q := fun q h => by rw [← hAe]; exact Or.inr h
  have hS : va_S A s.heap s.heap [] := va_S.rf
  have hP : va_P D vwCl [] s.heap := hP
  have hl := lv_entry ([.int p0, .int p1, .int p2, .int p3]) (n := 4) (Nat.le_of_ble_eq_true rfl)
  rw [lg_entry_eq]
  generalize (lg_sl ([.int p0, .int p1, .int p2, .int p3]) ++ List.replicate (4 - (lg_sl ([.int p0, .int p1, .int p2, .int p3])).length) Slot.unset).toArray = ls at hl ⊢
  have hl : lv_has ls 4 [(0, .int p0), (1, .int p1), (2, .int p2), (3, .int p3)] := hl
  rw [f_X3_wrongMonths] at hf
  refine lv_iload_n hx hb dX3_wrongMonths_0 rfl (lv_at hl 0 rfl) ?_
  refine lv_if_lt (tgt := 16) hx hb dX3_wrongMonths_1 (by decide) (fun c1 => ?_) (fun c1 => ?_)
  · have hf := rf_ifp hf c1
    refine lv_bipush (v := (-4)) hx hb dX3_wrongMonths_16 (by decide) ?_
    obtain rfl := Option.some.inj hf
    exact W.iret (v := (-4)) hx hb hr (fun t ht hW => ⟨⟨(-4), (), rfl, rfl, rf_mk ht hP hD⟩, hS.F ht⟩) hS.2.2 dX3_wrongMonths_18
  · have hf := rf_ifn hf c1
    refine lv_iload_n hx hb dX3_wrongMonths_4 rfl (lv_at hl 1 rfl) ?_
    refine lv_if_lt (tgt := 16) hx hb dX3_wrongMonths_5 (by decide) (fun c2 => ?_) (fun c2 => ?_)
    · have hf := rf_ifp hf c2
      refine lv_bipush (v := (-4)) hx hb dX3_wrongMonths_16 (by decide) ?_
      obtain rfl := Option.some.inj hf
      exact W.iret (v := (-4)) hx hb hr (fun t ht hW => ⟨⟨(-4), (), rfl, rfl, rf_mk ht hP hD⟩, hS.F ht⟩) hS.2.2 dX3_wrongMonths_18
    · have hf := rf_ifn hf c2
      refine lv_iload_n hx hb dX3_wrongMonths_8 rfl (lv_at hl 2 rfl) ?_
      refine lv_if_lt (tgt := 16) hx hb dX3_wrongMonths_9 (by decide) (fun c3 => ?_) (fun c3 => ?_)
      · have hf := rf_ifp hf c3
        refine lv_bipush (v := (-4)) hx hb dX3_wrongMonths_16 (by decide) ?_
        obtain rfl := Option.some.inj hf
        exact W.iret (v := (-4)) hx hb hr (fun t ht hW => ⟨⟨(-4), (), rfl, rfl, rf_mk ht hP hD⟩, hS.F ht⟩) hS.2.2 dX3_wrongMonths_18
      · have hf := rf_ifn hf c3
        refine lv_iload_n hx hb dX3_wrongMonths_12 rfl (lv_at hl 3 rfl) ?_
        refine lv_if_ge (tgt := 19) hx hb dX3_wrongMonths_13 (by decide) (fun c4 => ?_) (fun c4 => ?_)
        · have hf := rf_ifp hf c4
          refine lv_iload_n hx hb dX3_wrongMonths_19 rfl (lv_at hl 0 rfl) ?_
          refine lv_bipush (v := 12) hx hb dX3_wrongMonths_20 (by decide) ?_
          refine lv_icmp_gt (tgt := 48) hx hb dX3_wrongMonths_22 (by decide) (fun c5 => ?_) (fun c5 => ?_)
          · have hf := rf_ifp hf c5
            refine lv_bipush (v := (-6)) hx hb dX3_wrongMonths_48 (by decide) ?_
            refine lv_goto (tgt := 54) hx hb dX3_wrongMonths_50 (by decide) ?_
            obtain rfl := Option.some.inj hf
            exact W.iret (v := (-6)) hx hb hr (fun t ht hW => ⟨⟨(-6), (), rfl, rfl, rf_mk ht hP hD⟩, hS.F ht⟩) hS.2.2 dX3_wrongMonths_54
          · have hf := rf_ifn hf c5
            refine lv_iload_n hx hb dX3_wrongMonths_25 rfl (lv_at hl 1 rfl) ?_
            refine lv_bipush (v := 12) hx hb dX3_wrongMonths_26 (by decide) ?_
            refine lv_icmp_gt (tgt := 48) hx hb dX3_wrongMonths_28 (by decide) (fun c6 => ?_) (fun c6 => ?_)
            · have hf := rf_ifp hf c6
              refine lv_bipush (v := (-6)) hx hb dX3_wrongMonths_48 (by decide) ?_
              refine lv_goto (tgt := 54) hx hb dX3_wrongMonths_50 (by decide) ?_
              obtain rfl := Option.some.inj hf
              exact W.iret (v := (-6)) hx hb hr (fun t ht hW => ⟨⟨(-6), (), rfl, rfl, rf_mk ht hP hD⟩, hS.F ht⟩) hS.2.2 dX3_wrongMonths_54
            · have hf := rf_ifn hf c6
              refine lv_iload_n hx hb dX3_wrongMonths_31 rfl (lv_at hl 0 rfl) ?_
              refine lv_iload_n hx hb dX3_wrongMonths_32 rfl (lv_at hl 1 rfl) ?_
              refine lv_icmp_gt (tgt := 48) hx hb dX3_wrongMonths_33 (by decide) (fun c7 => ?_) (fun c7 => ?_)
              · have hf := rf_ifp hf c7
                refine lv_bipush (v := (-6)) hx hb dX3_wrongMonths_48 (by decide) ?_
                refine lv_goto (tgt := 54) hx hb dX3_wrongMonths_50 (by decide) ?_
                obtain rfl := Option.some.inj hf
                exact W.iret (v := (-6)) hx hb hr (fun t ht hW => ⟨⟨(-6), (), rfl, rfl, rf_mk ht hP hD⟩, hS.F ht⟩) hS.2.2 dX3_wrongMonths_54
              · have hf := rf_ifn hf c7
                refine lv_iload_n hx hb dX3_wrongMonths_36 rfl (lv_at hl 2 rfl) ?_
                refine lv_bipush (v := 99) hx hb dX3_wrongMonths_37 (by decide) ?_
                refine lv_icmp_gt (tgt := 48) hx hb dX3_wrongMonths_39 (by decide) (fun c8 => ?_) (fun c8 => ?_)
                · have hf := rf_ifp hf c8
                  refine lv_bipush (v := (-6)) hx hb dX3_wrongMonths_48 (by decide) ?_
                  refine lv_goto (tgt := 54) hx hb dX3_wrongMonths_50 (by decide) ?_
                  obtain rfl := Option.some.inj hf
                  exact W.iret (v := (-6)) hx hb hr (fun t ht hW => ⟨⟨(-6), (), rfl, rfl, rf_mk ht hP hD⟩, hS.F ht⟩) hS.2.2 dX3_wrongMonths_54
                · have hf := rf_ifn hf c8
                  refine lv_iload_n hx hb dX3_wrongMonths_42 rfl (lv_at hl 3 rfl) ?_
                  refine lv_bipush (v := 99) hx hb dX3_wrongMonths_43 (by decide) ?_
                  refine lv_icmp_le (tgt := 53) hx hb dX3_wrongMonths_45 (by decide) (fun c9 => ?_) (fun c9 => ?_)
                  · have hf := rf_ifp hf c9
                    refine lv_iconst (v := 0) hx hb dX3_wrongMonths_53 (by decide) ?_
                    obtain rfl := Option.some.inj hf
                    exact W.iret (v := 0) hx hb hr (fun t ht hW => ⟨⟨0, (), rfl, rfl, rf_mk ht hP hD⟩, hS.F ht⟩) hS.2.2 dX3_wrongMonths_54
                  · have hf := rf_ifn hf c9
                    refine lv_bipush (v := (-6)) hx hb dX3_wrongMonths_48 (by decide) ?_
                    refine lv_goto (tgt := 54) hx hb dX3_wrongMonths_50 (by decide) ?_
                    obtain rfl := Option.some.inj hf
                    exact W.iret (v := (-6)) hx hb hr (fun t ht hW => ⟨⟨(-6), (), rfl, rfl, rf_mk ht hP hD⟩, hS.F ht⟩) hS.2.2 dX3_wrongMonths_54
        · have hf := rf_ifn hf c4
          refine lv_bipush (v := (-4)) hx hb dX3_wrongMonths_16 (by decide) ?_
          obtain rfl := Option.some.inj hf
          exact W.iret (v := (-4)) hx hb hr (fun t ht hW => ⟨⟨(-4), (), rfl, rfl, rf_mk ht hP hD⟩, hS.F ht⟩) hS.2.2 dX3_wrongMonths_18

set_option maxHeartbeats 8000000 in
set_option maxRecDepth 100000 in
theorem c_X3_monthsOf (l : Launch) (D : va_G) (cA : ClassId) (ad : Nat → Nat) (sz : Nat) (p0 p1 : Int32) (q : Int32) (hf : f_X3_monthsOf p0 p1 = some q) : Met l yX3_monthsOf wsX3_monthsOf ({ frames := 0, cells := 0, slots := 0, locals := 0 } : Room) (va_Pc [.int p0, .int p1] (rf_Pre D cA ad [] sz)) (va_Qi (fun (r : Int32) (_ : Unit) => r = q) (fun _ t => rf_Post D (va_A [] sz) [] t) (va_A [] sz)) 0 0 (va_A [] sz) := by
  refine Met.ofW (cc := cX3_monthsOf) (maxL := 2) (ret := (some .int)) (by decide) rfl ?_
  intro p e s m args below meth c s₁ B hml hv
  obtain ⟨rfl, hsz, hP, hK, hD0, hE⟩ := hv
  have hx := B.exec
  have hb := B.bytes
  have hr := B.returns
  have hts := atoms_spec (ws := wsX3_monthsOf) B.pre
  have hown : s.vm.findClass RX3 = some m.cls := findClass_of_methodNamed B.named
  have hlocks := B.notSynchronized
  subst hsz
  have hD := hD0.self (sz := s.heap.size)
  generalize hAe : va_A [] s.heap.size = A at hD hE ⊢
  have hA : ∀ q : Nat, s.heap.size ≤ q → A q := fun q h => by rw [← hAe]; exact Or.inr h
  have hS : va_S A s.heap s.heap [] := va_S.rf
  have hP : va_P D vwCl [] s.heap := hP
  have hl := lv_entry ([.int p0, .int p1]) (n := 2) (Nat.le_of_ble_eq_true rfl)
  rw [lg_entry_eq]
  generalize (lg_sl ([.int p0, .int p1]) ++ List.replicate (2 - (lg_sl ([.int p0, .int p1])).length) Slot.unset).toArray = ls at hl ⊢
  have hl : lv_has ls 2 [(0, .int p0), (1, .int p1)] := hl
  rw [f_X3_monthsOf] at hf
  refine lv_iconst (v := 1) hx hb dX3_monthsOf_0 (by decide) ?_
  refine lv_iload_n hx hb dX3_monthsOf_1 rfl (lv_at hl 1 rfl) ?_
  refine lv_ishl hx hb dX3_monthsOf_2 ?_
  refine lv_iconst (v := 1) hx hb dX3_monthsOf_3 (by decide) ?_
  refine lv_iload_n hx hb dX3_monthsOf_4 rfl (lv_at hl 0 rfl) ?_
  refine lv_ishl hx hb dX3_monthsOf_5 ?_
  refine lv_isub hx hb dX3_monthsOf_6 ?_
  obtain rfl := Option.some.inj hf
  exact W.iret (v := ((1 <<< (p1 &&& 31)) - (1 <<< (p0 &&& 31)))) hx hb hr (fun t ht hW => ⟨⟨((1 <<< (p1 &&& 31)) - (1 <<< (p0 &&& 31))), (), rfl, rfl, rf_mk ht hP hD⟩, hS.F ht⟩) hS.2.2 dX3_monthsOf_7
theorem kX3_two_0 : (.fieldLink RX3 179 "RingAndFingerModel" "bestCost" "I" : Cond) ∈ wsX3_two := by decide +kernel
theorem kX3_two_1 : (.fieldLink RX3 176 "RingAndFingerModel" "bestSize" "I" : Cond) ∈ wsX3_two := by decide +kernel
theorem jX3_two_X3 : ∀ w ∈ u_ws RX3 TX3 16, w ∈ wsX3_two := by decide +kernel
set_option maxHeartbeats 8000000 in
set_option maxRecDepth 100000 in
theorem c_X3_two (l : Launch) (D : va_G) (cA : ClassId) (ad : Nat → Nat) (a_this a_this_s a_this_image a_this_read a_this_mind a_this_letters a_this_row a_this_refused a_this_numbers a_this_cost : Nat) (sz : Nat) (g_this f_this_s f_this_row f_this_refused : Nat → Int32) (p1 p2 p3 p4 p5 : Int32) (q : Int32 × (Nat → Int32) × (Nat → Int32)) (hf : f_X3_two g_this f_this_s f_this_row f_this_refused p1 p2 p3 p4 p5 = some q) : Met l yX3_two wsX3_two ({ frames := 5, cells := 0, slots := 0, locals := 121 } : Room) (va_Pc [.ref a_this, .int p1, .int p2, .int p3, .int p4, .int p5] (rf_Pre D cA ad [(a_this, .inr (3, rf_o3 a_this_s a_this_image a_this_read a_this_mind a_this_letters a_this_row a_this_refused a_this_numbers a_this_cost g_this)), (a_this_s, .inl (cA, 22, .inl f_this_s)), (a_this_row, .inl (cA, 12, .inl f_this_row)), (a_this_refused, .inl (cA, 7, .inl f_this_refused))] sz)) (va_Qi (fun (r : Int32) (_ : Unit) => r = q.1) (fun _ t => rf_Post D (va_A [(a_this, .inr (3, rf_o3 a_this_s a_this_image a_this_read a_this_mind a_this_letters a_this_row a_this_refused a_this_numbers a_this_cost g_this)), (a_this_s, .inl (cA, 22, .inl f_this_s)), (a_this_row, .inl (cA, 12, .inl f_this_row)), (a_this_refused, .inl (cA, 7, .inl f_this_refused))] sz) [(a_this, .inr (3, rf_o3 a_this_s a_this_image a_this_read a_this_mind a_this_letters a_this_row a_this_refused a_this_numbers a_this_cost q.2.1)), (a_this_s, .inl (cA, 22, .inl f_this_s)), (a_this_row, .inl (cA, 12, .inl f_this_row)), (a_this_refused, .inl (cA, 7, .inl q.2.2))] t) (va_A [(a_this, .inr (3, rf_o3 a_this_s a_this_image a_this_read a_this_mind a_this_letters a_this_row a_this_refused a_this_numbers a_this_cost g_this)), (a_this_s, .inl (cA, 22, .inl f_this_s)), (a_this_row, .inl (cA, 12, .inl f_this_row)), (a_this_refused, .inl (cA, 7, .inl f_this_refused))] sz)) 0 0 (va_A [(a_this, .inr (3, rf_o3 a_this_s a_this_image a_this_read a_this_mind a_this_letters a_this_row a_this_refused a_this_numbers a_this_cost g_this)), (a_this_s, .inl (cA, 22, .inl f_this_s)), (a_this_row, .inl (cA, 12, .inl f_this_row)), (a_this_refused, .inl (cA, 7, .inl f_this_refused))] sz) := by
  refine Met.ofW (cc := cX3_two) (maxL := 8) (ret := (some .int)) (by decide) rfl ?_
  intro p e s m args below meth c s₁ B hml hv
  obtain ⟨rfl, hsz, hP, hK, hD0, hE⟩ := hv
  have hx := B.exec
  have hb := B.bytes
  have hr := B.returns
  have hts := atoms_spec (ws := wsX3_two) B.pre
  have hown : s.vm.findClass RX3 = some m.cls := findClass_of_methodNamed B.named
  have hlocks := B.notSynchronized
  subst hsz
  have hD := hD0.self (sz := s.heap.size)
  generalize hAe : va_A [(a_this, .inr (3, rf_o3 a_this_s a_this_image a_this_read a_this_mind a_this_letters a_this_row a_this_refused a_this_numbers a_this_cost g_this)), (a_this_s, .inl (cA, 22, .inl f_this_s)), (a_this_row, .inl (cA, 12, .inl f_this_row)), (a_this_refused, .inl (cA, 7, .inl f_this_refused))] s.heap.size = A at hD hE ⊢
  have hA : ∀ q : Nat, s.heap.size ≤ q → A q := fun q h => by rw [← hAe]; exact Or.inr h
  have hS : va_S A s.heap s.heap [] := va_S.rf
  have hP : va_P D vwCl [(a_this, .inr (3, rf_o3 a_this_s a_this_image a_this_read a_this_mind a_this_letters a_this_row a_this_refused a_this_numbers a_this_cost g_this)), (a_this_s, .inl (cA, 22, .inl f_this_s)), (a_this_row, .inl (cA, 12, .inl f_this_row)), (a_this_refused, .inl (cA, 7, .inl f_this_refused))] s.heap := hP
  have hl := lv_entry ([.ref a_this, .int p1, .int p2, .int p3, .int p4, .int p5]) (n := 8) (Nat.le_of_ble_eq_true rfl)
  rw [lg_entry_eq]
  generalize (lg_sl ([.ref a_this, .int p1, .int p2, .int p3, .int p4, .int p5]) ++ List.replicate (8 - (lg_sl ([.ref a_this, .int p1, .int p2, .int p3, .int p4, .int p5])).length) Slot.unset).toArray = ls at hl ⊢
  have hl : lv_has ls 8 [(0, .ref a_this), (1, .int p1), (2, .int p2), (3, .int p3), (4, .int p4), (5, .int p5)] := hl
  rw [f_X3_two] at hf
  refine lv_iload_n hx hb dX3_two_0 rfl (lv_at hl 1 rfl) ?_
  refine lv_iload_n hx hb dX3_two_1 rfl (lv_at hl 2 rfl) ?_
  refine lv_iload_n hx hb dX3_two_2 rfl (lv_at hl 3 rfl) ?_
  refine lv_iload hx hb dX3_two_3 (lv_at hl 4 rfl) ?_
  obtain ⟨q1, hq1, hf⟩ := rf_bindq hf
  refine rf_Si (As := [.int p1, .int p2, .int p3, .int p4]) (rest := []) (wr := [(a_this, .inr (3, rf_o3 a_this_s a_this_image a_this_read a_this_mind a_this_letters a_this_row a_this_refused a_this_numbers a_this_cost g_this)), (a_this_s, .inl (cA, 22, .inl f_this_s)), (a_this_row, .inl (cA, 12, .inl f_this_row)), (a_this_refused, .inl (cA, 7, .inl f_this_refused))]) (wn := [(a_this, .inr (3, rf_o3 a_this_s a_this_image a_this_read a_this_mind a_this_letters a_this_row a_this_refused a_this_numbers a_this_cost g_this)), (a_this_s, .inl (cA, 22, .inl f_this_s)), (a_this_row, .inl (cA, 12, .inl f_this_row)), (a_this_refused, .inl (cA, 7, .inl f_this_refused))]) ⟨hx, hb, hml, hown, hts⟩ hK hP hD hS hA hE (c_X3_wrongMonths l D cA ad s.heap.size p1 p2 p3 p4 q1 hq1) (va_cwS 4 hts gX3_two_X3_wrongMonths rfl rfl rfl hs_X3_wrongMonths ⟨Nat.le_of_ble_eq_true rfl, Nat.le_of_ble_eq_true rfl⟩) [] [0, 1, 2, 3] [0, 1, 2, 3] rfl rfl rfl rfl (by decide) rfl rfl rfl rfl hl.1 (Nat.le_of_ble_eq_true rfl) dX3_two_5 ⟨Nat.zero_le _, Nat.zero_le _⟩ (fun H locs hP hD hS => ?_)
  refine lv_istore (lv' := [(6, .int q1), (0, .ref a_this), (1, .int p1), (2, .int p2), (3, .int p3), (4, .int p4), (5, .int p5)]) hx hb dX3_two_8 hl (by decide) rfl (fun ls hl => ?_)
  refine lv_iload hx hb dX3_two_10 (lv_at hl 0 rfl) ?_
  refine lv_if_ne (tgt := 29) hx hb dX3_two_12 (by decide) (fun c2 => ?_) (fun c2 => ?_)
  · have hf := rf_ifn hf c2
    refine lv_iload hx hb dX3_two_29 (lv_at hl 0 rfl) ?_
    refine lv_if_ne (tgt := 45) hx hb dX3_two_31 (by decide) (fun c3 => ?_) (fun c3 => ?_)
    · have hf := rf_ifn hf c3
      refine lv_iload hx hb dX3_two_45 (lv_at hl 0 rfl) ?_
      refine lv_if_eq (tgt := 57) hx hb dX3_two_47 (by decide) (fun c4 => ?_) (fun c4 => ?_)
      · have hf := rf_ifp hf c4
        refine lv_aload_n hx hb dX3_two_57 rfl (lv_at hl 1 rfl) ?_
        refine lv_iload_n hx hb dX3_two_58 rfl (lv_at hl 2 rfl) ?_
        refine lv_iload_n hx hb dX3_two_59 rfl (lv_at hl 3 rfl) ?_
        obtain ⟨q5, hq5, hf⟩ := rf_bindq hf
        refine rf_Si (As := [.int p1, .int p2]) (rest := [.ref a_this]) (wr := [(a_this, .inr (3, rf_o3 a_this_s a_this_image a_this_read a_this_mind a_this_letters a_this_row a_this_refused a_this_numbers a_this_cost g_this)), (a_this_s, .inl (cA, 22, .inl f_this_s)), (a_this_row, .inl (cA, 12, .inl f_this_row)), (a_this_refused, .inl (cA, 7, .inl f_this_refused))]) (wn := [(a_this, .inr (3, rf_o3 a_this_s a_this_image a_this_read a_this_mind a_this_letters a_this_row a_this_refused a_this_numbers a_this_cost g_this)), (a_this_s, .inl (cA, 22, .inl f_this_s)), (a_this_row, .inl (cA, 12, .inl f_this_row)), (a_this_refused, .inl (cA, 7, .inl f_this_refused))]) ⟨hx, hb, hml, hown, hts⟩ hK hP hD hS hA hE (c_X3_monthsOf l D cA ad H.size p1 p2 q5 hq5) (va_cwS 2 hts gX3_two_X3_monthsOf rfl rfl rfl hs_X3_monthsOf ⟨Nat.le_of_ble_eq_true rfl, Nat.le_of_ble_eq_true rfl⟩) [] [0, 1, 2, 3] [0, 1, 2, 3] rfl rfl rfl rfl (by decide) rfl rfl rfl rfl hl.1 (Nat.le_of_ble_eq_true rfl) dX3_two_60 ⟨Nat.zero_le _, Nat.zero_le _⟩ (fun H locs hP hD hS => ?_)
        refine lv_iload_n hx hb dX3_two_63 rfl (lv_at hl 4 rfl) ?_
        refine lv_iload hx hb dX3_two_64 (lv_at hl 5 rfl) ?_
        obtain ⟨q6, hq6, hf⟩ := rf_bindq hf
        refine rf_Vv (As := [.int q5, .int p3, .int p4]) (rest := []) (wr := [(a_this_refused, .inl (cA, 7, .inl f_this_refused))]) (wn := [(a_this, .inr (3, rf_o3 a_this_s a_this_image a_this_read a_this_mind a_this_letters a_this_row a_this_refused a_this_numbers a_this_cost q6)), (a_this_s, .inl (cA, 22, .inl f_this_s)), (a_this_row, .inl (cA, 12, .inl f_this_row)), (a_this_refused, .inl (cA, 7, .inl f_this_refused))]) ⟨hx, hb, hml, hown, hts⟩ hK hP hD hS hA hE (c_X3_finds l D cA ad a_this a_this_s a_this_image a_this_read a_this_mind a_this_letters a_this_row a_this_refused a_this_numbers a_this_cost H.size g_this f_this_s f_this_row q5 p3 p4 q6 hq6) (cwV 3 hts gX3_two_X3_finds rfl rfl rfl hv_X3_finds ⟨Nat.le_of_ble_eq_true rfl, Nat.le_of_ble_eq_true rfl⟩) [0, 1, 2] [3] [1, 2, 3, 0] rfl rfl rfl rfl (by decide) rfl rfl 3 0 rfl rfl rfl rfl rfl hl.1 (Nat.le_of_ble_eq_true rfl) dX3_two_66 ⟨Nat.zero_le _, Nat.zero_le _⟩ (fun H locs hP hD hS => ?_)
        refine lv_iload hx hb dX3_two_69 (lv_at hl 6 rfl) ?_
        refine lv_if_ne (tgt := 79) hx hb dX3_two_71 (by decide) (fun c7 => ?_) (fun c7 => ?_)
        · have hf := rf_ifn hf c7
          refine lv_aload_n hx hb dX3_two_79 rfl (lv_at hl 1 rfl) ?_
          refine va_get (D := D) (ci := 3) (v := .int (q6 5)) (C := RX3) (T := TX3) (N := 16) hx hb hts jX3_two_X3 hown hK hP 0 rfl rfl 14 (by decide) (hts _ kX3_two_0) (fun _ h9 => h9) rfl dX3_two_80 ?_
          refine lv_topi (fun v8 ev8 => ?_)
          have hf := rf_bindv hf ev8
          clear ev8
          refine lv_istore (lv' := [(7, .int v8), (6, .int q1), (0, .ref a_this), (1, .int p1), (2, .int p2), (3, .int p3), (4, .int p4), (5, .int p5)]) hx hb dX3_two_83 hl (by decide) rfl (fun ls hl => ?_)
          refine lv_aload_n hx hb dX3_two_85 rfl (lv_at hl 2 rfl) ?_
          refine lv_sipush (v := 4095) hx hb dX3_two_86 (by decide) ?_
          refine lv_iload_n hx hb dX3_two_89 rfl (lv_at hl 3 rfl) ?_
          refine lv_iload_n hx hb dX3_two_90 rfl (lv_at hl 4 rfl) ?_
          obtain ⟨q9, hq9, hf⟩ := rf_bindq hf
          refine rf_Si (As := [.int p1, .int p2]) (rest := [.int 4095, .ref a_this]) (wr := [(a_this, .inr (3, rf_o3 a_this_s a_this_image a_this_read a_this_mind a_this_letters a_this_row a_this_refused a_this_numbers a_this_cost q6)), (a_this_s, .inl (cA, 22, .inl f_this_s)), (a_this_row, .inl (cA, 12, .inl f_this_row)), (a_this_refused, .inl (cA, 7, .inl f_this_refused))]) (wn := [(a_this, .inr (3, rf_o3 a_this_s a_this_image a_this_read a_this_mind a_this_letters a_this_row a_this_refused a_this_numbers a_this_cost q6)), (a_this_s, .inl (cA, 22, .inl f_this_s)), (a_this_row, .inl (cA, 12, .inl f_this_row)), (a_this_refused, .inl (cA, 7, .inl f_this_refused))]) ⟨hx, hb, hml, hown, hts⟩ hK hP hD hS hA hE (c_X3_monthsOf l D cA ad H.size p1 p2 q9 hq9) (va_cwS 2 hts gX3_two_X3_monthsOf rfl rfl rfl hs_X3_monthsOf ⟨Nat.le_of_ble_eq_true rfl, Nat.le_of_ble_eq_true rfl⟩) [] [0, 1, 2, 3] [0, 1, 2, 3] rfl rfl rfl rfl (by decide) rfl rfl rfl rfl hl.1 (Nat.le_of_ble_eq_true rfl) dX3_two_91 ⟨Nat.zero_le _, Nat.zero_le _⟩ (fun H locs hP hD hS => ?_)
          refine lv_iconst (v := (-1)) hx hb dX3_two_94 (by decide) ?_
          refine lv_ixor hx hb dX3_two_95 ?_
          refine lv_iand hx hb dX3_two_96 ?_
          refine lv_iload_n hx hb dX3_two_97 rfl (lv_at hl 5 rfl) ?_
          refine lv_iload hx hb dX3_two_98 (lv_at hl 6 rfl) ?_
          obtain ⟨q10, hq10, hf⟩ := rf_bindq hf
          refine rf_Vv (As := [.int (4095 &&& (q9 ^^^ (-1))), .int p3, .int p4]) (rest := []) (wr := [(a_this_refused, .inl (cA, 7, .inl f_this_refused))]) (wn := [(a_this, .inr (3, rf_o3 a_this_s a_this_image a_this_read a_this_mind a_this_letters a_this_row a_this_refused a_this_numbers a_this_cost q10)), (a_this_s, .inl (cA, 22, .inl f_this_s)), (a_this_row, .inl (cA, 12, .inl f_this_row)), (a_this_refused, .inl (cA, 7, .inl f_this_refused))]) ⟨hx, hb, hml, hown, hts⟩ hK hP hD hS hA hE (c_X3_finds l D cA ad a_this a_this_s a_this_image a_this_read a_this_mind a_this_letters a_this_row a_this_refused a_this_numbers a_this_cost H.size q6 f_this_s f_this_row (4095 &&& (q9 ^^^ (-1))) p3 p4 q10 hq10) (cwV 3 hts gX3_two_X3_finds rfl rfl rfl hv_X3_finds ⟨Nat.le_of_ble_eq_true rfl, Nat.le_of_ble_eq_true rfl⟩) [0, 1, 2] [3] [1, 2, 3, 0] rfl rfl rfl rfl (by decide) rfl rfl 3 0 rfl rfl rfl rfl rfl hl.1 (Nat.le_of_ble_eq_true rfl) dX3_two_100 ⟨Nat.zero_le _, Nat.zero_le _⟩ (fun H locs hP hD hS => ?_)
          refine lv_iload hx hb dX3_two_103 (lv_at hl 7 rfl) ?_
          refine lv_iconst (v := 1) hx hb dX3_two_105 (by decide) ?_
          refine lv_icmp_ne (tgt := 116) hx hb dX3_two_106 (by decide) (fun c11 => ?_) (fun c11 => ?_)
          · have hf := rf_ifn hf c11
            refine lv_iload hx hb dX3_two_116 (lv_at hl 0 rfl) ?_
            refine lv_aload_n hx hb dX3_two_118 rfl (lv_at hl 2 rfl) ?_
            refine va_get (D := D) (ci := 3) (v := .int (q10 5)) (C := RX3) (T := TX3) (N := 16) hx hb hts jX3_two_X3 hown hK hP 0 rfl rfl 14 (by decide) (hts _ kX3_two_0) (fun _ h9 => h9) rfl dX3_two_119 ?_
            refine lv_iadd hx hb dX3_two_122 ?_
            obtain rfl := Option.some.inj hf
            exact W.iret (v := (v8 + (q10 5))) hx hb hr (fun t ht hW => ⟨⟨(v8 + (q10 5)), (), rfl, rfl, rf_mk ht hP hD⟩, hS.F ht⟩) hS.2.2 dX3_two_123
          · have hf := rf_ifp hf c11
            refine lv_aload_n hx hb dX3_two_109 rfl (lv_at hl 2 rfl) ?_
            refine va_get (D := D) (ci := 3) (v := .int (q10 4)) (C := RX3) (T := TX3) (N := 16) hx hb hts jX3_two_X3 hown hK hP 0 rfl rfl 13 (by decide) (hts _ kX3_two_1) (fun _ h9 => h9) rfl dX3_two_110 ?_
            refine lv_goto (tgt := 123) hx hb dX3_two_113 (by decide) ?_
            obtain rfl := Option.some.inj hf
            exact W.iret (v := (q10 4)) hx hb hr (fun t ht hW => ⟨⟨(q10 4), (), rfl, rfl, rf_mk ht hP hD⟩, hS.F ht⟩) hS.2.2 dX3_two_123
        · have hf := rf_ifp hf c7
          refine lv_aload_n hx hb dX3_two_74 rfl (lv_at hl 1 rfl) ?_
          refine va_get (D := D) (ci := 3) (v := .int (q6 4)) (C := RX3) (T := TX3) (N := 16) hx hb hts jX3_two_X3 hown hK hP 0 rfl rfl 13 (by decide) (hts _ kX3_two_1) (fun _ h9 => h9) rfl dX3_two_75 ?_
          obtain rfl := Option.some.inj hf
          exact W.iret (v := (q6 4)) hx hb hr (fun t ht hW => ⟨⟨(q6 4), (), rfl, rfl, rf_mk ht hP hD⟩, hS.F ht⟩) hS.2.2 dX3_two_78
      · have hf := rf_ifn hf c4
        refine lv_aload_n hx hb dX3_two_50 rfl (lv_at hl 1 rfl) ?_
        refine lv_iload hx hb dX3_two_51 (lv_at hl 0 rfl) ?_
        obtain ⟨q12, hq12, hf⟩ := rf_bindq hf
        refine rf_Vi (As := [.int q1]) (rest := []) (wr := [(a_this_s, .inl (cA, 22, .inl f_this_s)), (a_this_row, .inl (cA, 12, .inl f_this_row))]) (wn := [(a_this, .inr (3, rf_o3 a_this_s a_this_image a_this_read a_this_mind a_this_letters a_this_row a_this_refused a_this_numbers a_this_cost g_this)), (a_this_s, .inl (cA, 22, .inl f_this_s)), (a_this_row, .inl (cA, 12, .inl f_this_row)), (a_this_refused, .inl (cA, 7, .inl q12.2))]) ⟨hx, hb, hml, hown, hts⟩ hK hP hD hS hA hE (c_X3_no l D cA ad a_this a_this_s a_this_image a_this_read a_this_mind a_this_letters a_this_row a_this_refused a_this_numbers a_this_cost H.size g_this f_this_refused q1 q12 hq12) (cwV 1 hts gX3_two_X3_no rfl rfl rfl hv_X3_no ⟨Nat.le_of_ble_eq_true rfl, Nat.le_of_ble_eq_true rfl⟩) [0, 3] [1, 2] [2, 0, 1, 3] rfl rfl rfl rfl (by decide) rfl rfl 3 0 rfl rfl rfl rfl rfl hl.1 (Nat.le_of_ble_eq_true rfl) dX3_two_53 ⟨Nat.zero_le _, Nat.zero_le _⟩ (fun H locs hP hD hS => ?_)
        obtain rfl := Option.some.inj hf
        exact W.iret (v := q12.1) hx hb hr (fun t ht hW => ⟨⟨q12.1, (), rfl, rfl, rf_mk ht hP hD⟩, hS.F ht⟩) hS.2.2 dX3_two_56
    · have hf := rf_ifp hf c3
      refine lv_aload_n hx hb dX3_two_34 rfl (lv_at hl 1 rfl) ?_
      obtain ⟨q13, hq13, hf⟩ := rf_bindq hf
      refine rf_Vi (As := []) (rest := []) (wr := [(a_this_s, .inl (cA, 22, .inl f_this_s)), (a_this_refused, .inl (cA, 7, .inl f_this_refused))]) (wn := [(a_this, .inr (3, rf_o3 a_this_s a_this_image a_this_read a_this_mind a_this_letters a_this_row a_this_refused a_this_numbers a_this_cost g_this)), (a_this_s, .inl (cA, 22, .inl f_this_s)), (a_this_row, .inl (cA, 12, .inl f_this_row)), (a_this_refused, .inl (cA, 7, .inl f_this_refused))]) ⟨hx, hb, hml, hown, hts⟩ hK hP hD hS hA hE (c_X3_areHeats l D cA ad a_this a_this_s a_this_image a_this_read a_this_mind a_this_letters a_this_row a_this_refused a_this_numbers a_this_cost H.size g_this f_this_row q13 hq13) (cwV 0 hts gX3_two_X3_areHeats rfl rfl rfl hv_X3_areHeats ⟨Nat.le_of_ble_eq_true rfl, Nat.le_of_ble_eq_true rfl⟩) [0, 2] [1, 3] [2, 0, 3, 1] rfl rfl rfl rfl (by decide) rfl rfl 3 0 rfl rfl rfl rfl rfl hl.1 (Nat.le_of_ble_eq_true rfl) dX3_two_35 ⟨Nat.zero_le _, Nat.zero_le _⟩ (fun H locs hP hD hS => ?_)
      refine lv_if_ne (tgt := 45) hx hb dX3_two_38 (by decide) (fun c14 => ?_) (fun c14 => ?_)
      · have hf := rf_ifn hf c14
        refine lv_iload hx hb dX3_two_45 (lv_at hl 0 rfl) ?_
        refine lv_if_eq (tgt := 57) hx hb dX3_two_47 (by decide) (fun c15 => ?_) (fun c15 => ?_)
        · have hf := rf_ifp hf c15
          refine lv_aload_n hx hb dX3_two_57 rfl (lv_at hl 1 rfl) ?_
          refine lv_iload_n hx hb dX3_two_58 rfl (lv_at hl 2 rfl) ?_
          refine lv_iload_n hx hb dX3_two_59 rfl (lv_at hl 3 rfl) ?_
          obtain ⟨q16, hq16, hf⟩ := rf_bindq hf
          refine rf_Si (As := [.int p1, .int p2]) (rest := [.ref a_this]) (wr := [(a_this, .inr (3, rf_o3 a_this_s a_this_image a_this_read a_this_mind a_this_letters a_this_row a_this_refused a_this_numbers a_this_cost g_this)), (a_this_s, .inl (cA, 22, .inl f_this_s)), (a_this_row, .inl (cA, 12, .inl f_this_row)), (a_this_refused, .inl (cA, 7, .inl f_this_refused))]) (wn := [(a_this, .inr (3, rf_o3 a_this_s a_this_image a_this_read a_this_mind a_this_letters a_this_row a_this_refused a_this_numbers a_this_cost g_this)), (a_this_s, .inl (cA, 22, .inl f_this_s)), (a_this_row, .inl (cA, 12, .inl f_this_row)), (a_this_refused, .inl (cA, 7, .inl f_this_refused))]) ⟨hx, hb, hml, hown, hts⟩ hK hP hD hS hA hE (c_X3_monthsOf l D cA ad H.size p1 p2 q16 hq16) (va_cwS 2 hts gX3_two_X3_monthsOf rfl rfl rfl hs_X3_monthsOf ⟨Nat.le_of_ble_eq_true rfl, Nat.le_of_ble_eq_true rfl⟩) [] [0, 1, 2, 3] [0, 1, 2, 3] rfl rfl rfl rfl (by decide) rfl rfl rfl rfl hl.1 (Nat.le_of_ble_eq_true rfl) dX3_two_60 ⟨Nat.zero_le _, Nat.zero_le _⟩ (fun H locs hP hD hS => ?_)
          refine lv_iload_n hx hb dX3_two_63 rfl (lv_at hl 4 rfl) ?_
          refine lv_iload hx hb dX3_two_64 (lv_at hl 5 rfl) ?_
          obtain ⟨q17, hq17, hf⟩ := rf_bindq hf
          refine rf_Vv (As := [.int q16, .int p3, .int p4]) (rest := []) (wr := [(a_this_refused, .inl (cA, 7, .inl f_this_refused))]) (wn := [(a_this, .inr (3, rf_o3 a_this_s a_this_image a_this_read a_this_mind a_this_letters a_this_row a_this_refused a_this_numbers a_this_cost q17)), (a_this_s, .inl (cA, 22, .inl f_this_s)), (a_this_row, .inl (cA, 12, .inl f_this_row)), (a_this_refused, .inl (cA, 7, .inl f_this_refused))]) ⟨hx, hb, hml, hown, hts⟩ hK hP hD hS hA hE (c_X3_finds l D cA ad a_this a_this_s a_this_image a_this_read a_this_mind a_this_letters a_this_row a_this_refused a_this_numbers a_this_cost H.size g_this f_this_s f_this_row q16 p3 p4 q17 hq17) (cwV 3 hts gX3_two_X3_finds rfl rfl rfl hv_X3_finds ⟨Nat.le_of_ble_eq_true rfl, Nat.le_of_ble_eq_true rfl⟩) [0, 1, 2] [3] [1, 2, 3, 0] rfl rfl rfl rfl (by decide) rfl rfl 3 0 rfl rfl rfl rfl rfl hl.1 (Nat.le_of_ble_eq_true rfl) dX3_two_66 ⟨Nat.zero_le _, Nat.zero_le _⟩ (fun H locs hP hD hS => ?_)
          refine lv_iload hx hb dX3_two_69 (lv_at hl 6 rfl) ?_
          refine lv_if_ne (tgt := 79) hx hb dX3_two_71 (by decide) (fun c18 => ?_) (fun c18 => ?_)
          · have hf := rf_ifn hf c18
            refine lv_aload_n hx hb dX3_two_79 rfl (lv_at hl 1 rfl) ?_
            refine va_get (D := D) (ci := 3) (v := .int (q17 5)) (C := RX3) (T := TX3) (N := 16) hx hb hts jX3_two_X3 hown hK hP 0 rfl rfl 14 (by decide) (hts _ kX3_two_0) (fun _ h9 => h9) rfl dX3_two_80 ?_
            refine lv_topi (fun v19 ev19 => ?_)
            have hf := rf_bindv hf ev19
            clear ev19
            refine lv_istore (lv' := [(7, .int v19), (6, .int q1), (0, .ref a_this), (1, .int p1), (2, .int p2), (3, .int p3), (4, .int p4), (5, .int p5)]) hx hb dX3_two_83 hl (by decide) rfl (fun ls hl => ?_)
            refine lv_aload_n hx hb dX3_two_85 rfl (lv_at hl 2 rfl) ?_
            refine lv_sipush (v := 4095) hx hb dX3_two_86 (by decide) ?_
            refine lv_iload_n hx hb dX3_two_89 rfl (lv_at hl 3 rfl) ?_
            refine lv_iload_n hx hb dX3_two_90 rfl (lv_at hl 4 rfl) ?_
            obtain ⟨q20, hq20, hf⟩ := rf_bindq hf
            refine rf_Si (As := [.int p1, .int p2]) (rest := [.int 4095, .ref a_this]) (wr := [(a_this, .inr (3, rf_o3 a_this_s a_this_image a_this_read a_this_mind a_this_letters a_this_row a_this_refused a_this_numbers a_this_cost q17)), (a_this_s, .inl (cA, 22, .inl f_this_s)), (a_this_row, .inl (cA, 12, .inl f_this_row)), (a_this_refused, .inl (cA, 7, .inl f_this_refused))]) (wn := [(a_this, .inr (3, rf_o3 a_this_s a_this_image a_this_read a_this_mind a_this_letters a_this_row a_this_refused a_this_numbers a_this_cost q17)), (a_this_s, .inl (cA, 22, .inl f_this_s)), (a_this_row, .inl (cA, 12, .inl f_this_row)), (a_this_refused, .inl (cA, 7, .inl f_this_refused))]) ⟨hx, hb, hml, hown, hts⟩ hK hP hD hS hA hE (c_X3_monthsOf l D cA ad H.size p1 p2 q20 hq20) (va_cwS 2 hts gX3_two_X3_monthsOf rfl rfl rfl hs_X3_monthsOf ⟨Nat.le_of_ble_eq_true rfl, Nat.le_of_ble_eq_true rfl⟩) [] [0, 1, 2, 3] [0, 1, 2, 3] rfl rfl rfl rfl (by decide) rfl rfl rfl rfl hl.1 (Nat.le_of_ble_eq_true rfl) dX3_two_91 ⟨Nat.zero_le _, Nat.zero_le _⟩ (fun H locs hP hD hS => ?_)
            refine lv_iconst (v := (-1)) hx hb dX3_two_94 (by decide) ?_
            refine lv_ixor hx hb dX3_two_95 ?_
            refine lv_iand hx hb dX3_two_96 ?_
            refine lv_iload_n hx hb dX3_two_97 rfl (lv_at hl 5 rfl) ?_
            refine lv_iload hx hb dX3_two_98 (lv_at hl 6 rfl) ?_
            obtain ⟨q21, hq21, hf⟩ := rf_bindq hf
            refine rf_Vv (As := [.int (4095 &&& (q20 ^^^ (-1))), .int p3, .int p4]) (rest := []) (wr := [(a_this_refused, .inl (cA, 7, .inl f_this_refused))]) (wn := [(a_this, .inr (3, rf_o3 a_this_s a_this_image a_this_read a_this_mind a_this_letters a_this_row a_this_refused a_this_numbers a_this_cost q21)), (a_this_s, .inl (cA, 22, .inl f_this_s)), (a_this_row, .inl (cA, 12, .inl f_this_row)), (a_this_refused, .inl (cA, 7, .inl f_this_refused))]) ⟨hx, hb, hml, hown, hts⟩ hK hP hD hS hA hE (c_X3_finds l D cA ad a_this a_this_s a_this_image a_this_read a_this_mind a_this_letters a_this_row a_this_refused a_this_numbers a_this_cost H.size q17 f_this_s f_this_row (4095 &&& (q20 ^^^ (-1))) p3 p4 q21 hq21) (cwV 3 hts gX3_two_X3_finds rfl rfl rfl hv_X3_finds ⟨Nat.le_of_ble_eq_true rfl, Nat.le_of_ble_eq_true rfl⟩) [0, 1, 2] [3] [1, 2, 3, 0] rfl rfl rfl rfl (by decide) rfl rfl 3 0 rfl rfl rfl rfl rfl hl.1 (Nat.le_of_ble_eq_true rfl) dX3_two_100 ⟨Nat.zero_le _, Nat.zero_le _⟩ (fun H locs hP hD hS => ?_)
            refine lv_iload hx hb dX3_two_103 (lv_at hl 7 rfl) ?_
            refine lv_iconst (v := 1) hx hb dX3_two_105 (by decide) ?_
            refine lv_icmp_ne (tgt := 116) hx hb dX3_two_106 (by decide) (fun c22 => ?_) (fun c22 => ?_)
            · have hf := rf_ifn hf c22
              refine lv_iload hx hb dX3_two_116 (lv_at hl 0 rfl) ?_
              refine lv_aload_n hx hb dX3_two_118 rfl (lv_at hl 2 rfl) ?_
              refine va_get (D := D) (ci := 3) (v := .int (q21 5)) (C := RX3) (T := TX3) (N := 16) hx hb hts jX3_two_X3 hown hK hP 0 rfl rfl 14 (by decide) (hts _ kX3_two_0) (fun _ h9 => h9) rfl dX3_two_119 ?_
              refine lv_iadd hx hb dX3_two_122 ?_
              obtain rfl := Option.some.inj hf
              exact W.iret (v := (v19 + (q21 5))) hx hb hr (fun t ht hW => ⟨⟨(v19 + (q21 5)), (), rfl, rfl, rf_mk ht hP hD⟩, hS.F ht⟩) hS.2.2 dX3_two_123
            · have hf := rf_ifp hf c22
              refine lv_aload_n hx hb dX3_two_109 rfl (lv_at hl 2 rfl) ?_
              refine va_get (D := D) (ci := 3) (v := .int (q21 4)) (C := RX3) (T := TX3) (N := 16) hx hb hts jX3_two_X3 hown hK hP 0 rfl rfl 13 (by decide) (hts _ kX3_two_1) (fun _ h9 => h9) rfl dX3_two_110 ?_
              refine lv_goto (tgt := 123) hx hb dX3_two_113 (by decide) ?_
              obtain rfl := Option.some.inj hf
              exact W.iret (v := (q21 4)) hx hb hr (fun t ht hW => ⟨⟨(q21 4), (), rfl, rfl, rf_mk ht hP hD⟩, hS.F ht⟩) hS.2.2 dX3_two_123
          · have hf := rf_ifp hf c18
            refine lv_aload_n hx hb dX3_two_74 rfl (lv_at hl 1 rfl) ?_
            refine va_get (D := D) (ci := 3) (v := .int (q17 4)) (C := RX3) (T := TX3) (N := 16) hx hb hts jX3_two_X3 hown hK hP 0 rfl rfl 13 (by decide) (hts _ kX3_two_1) (fun _ h9 => h9) rfl dX3_two_75 ?_
            obtain rfl := Option.some.inj hf
            exact W.iret (v := (q17 4)) hx hb hr (fun t ht hW => ⟨⟨(q17 4), (), rfl, rfl, rf_mk ht hP hD⟩, hS.F ht⟩) hS.2.2 dX3_two_78
        · have hf := rf_ifn hf c15
          refine lv_aload_n hx hb dX3_two_50 rfl (lv_at hl 1 rfl) ?_
          refine lv_iload hx hb dX3_two_51 (lv_at hl 0 rfl) ?_
          obtain ⟨q23, hq23, hf⟩ := rf_bindq hf
          refine rf_Vi (As := [.int q1]) (rest := []) (wr := [(a_this_s, .inl (cA, 22, .inl f_this_s)), (a_this_row, .inl (cA, 12, .inl f_this_row))]) (wn := [(a_this, .inr (3, rf_o3 a_this_s a_this_image a_this_read a_this_mind a_this_letters a_this_row a_this_refused a_this_numbers a_this_cost g_this)), (a_this_s, .inl (cA, 22, .inl f_this_s)), (a_this_row, .inl (cA, 12, .inl f_this_row)), (a_this_refused, .inl (cA, 7, .inl q23.2))]) ⟨hx, hb, hml, hown, hts⟩ hK hP hD hS hA hE (c_X3_no l D cA ad a_this a_this_s a_this_image a_this_read a_this_mind a_this_letters a_this_row a_this_refused a_this_numbers a_this_cost H.size g_this f_this_refused q1 q23 hq23) (cwV 1 hts gX3_two_X3_no rfl rfl rfl hv_X3_no ⟨Nat.le_of_ble_eq_true rfl, Nat.le_of_ble_eq_true rfl⟩) [0, 3] [1, 2] [2, 0, 1, 3] rfl rfl rfl rfl (by decide) rfl rfl 3 0 rfl rfl rfl rfl rfl hl.1 (Nat.le_of_ble_eq_true rfl) dX3_two_53 ⟨Nat.zero_le _, Nat.zero_le _⟩ (fun H locs hP hD hS => ?_)
          obtain rfl := Option.some.inj hf
          exact W.iret (v := q23.1) hx hb hr (fun t ht hW => ⟨⟨q23.1, (), rfl, rfl, rf_mk ht hP hD⟩, hS.F ht⟩) hS.2.2 dX3_two_56
      · have hf := rf_ifp hf c14
        refine lv_bipush (v := (-3)) hx hb dX3_two_41 (by decide) ?_
        refine lv_istore (lv' := [(6, .int (-3)), (0, .ref a_this), (1, .int p1), (2, .int p2), (3, .int p3), (4, .int p4), (5, .int p5)]) hx hb dX3_two_43 hl (by decide) rfl (fun ls hl => ?_)
        refine lv_iload hx hb dX3_two_45 (lv_at hl 0 rfl) ?_
        refine lv_if_eq (tgt := 57) hx hb dX3_two_47 (by decide) (fun c24 => ?_) (fun c24 => ?_)
        · exact absurd c24 (by decide)
        · refine lv_aload_n hx hb dX3_two_50 rfl (lv_at hl 1 rfl) ?_
          refine lv_iload hx hb dX3_two_51 (lv_at hl 0 rfl) ?_
          obtain ⟨q25, hq25, hf⟩ := rf_bindq hf
          refine rf_Vi (As := [.int (-3)]) (rest := []) (wr := [(a_this_s, .inl (cA, 22, .inl f_this_s)), (a_this_row, .inl (cA, 12, .inl f_this_row))]) (wn := [(a_this, .inr (3, rf_o3 a_this_s a_this_image a_this_read a_this_mind a_this_letters a_this_row a_this_refused a_this_numbers a_this_cost g_this)), (a_this_s, .inl (cA, 22, .inl f_this_s)), (a_this_row, .inl (cA, 12, .inl f_this_row)), (a_this_refused, .inl (cA, 7, .inl q25.2))]) ⟨hx, hb, hml, hown, hts⟩ hK hP hD hS hA hE (c_X3_no l D cA ad a_this a_this_s a_this_image a_this_read a_this_mind a_this_letters a_this_row a_this_refused a_this_numbers a_this_cost H.size g_this f_this_refused (-3) q25 hq25) (cwV 1 hts gX3_two_X3_no rfl rfl rfl hv_X3_no ⟨Nat.le_of_ble_eq_true rfl, Nat.le_of_ble_eq_true rfl⟩) [0, 3] [1, 2] [2, 0, 1, 3] rfl rfl rfl rfl (by decide) rfl rfl 3 0 rfl rfl rfl rfl rfl hl.1 (Nat.le_of_ble_eq_true rfl) dX3_two_53 ⟨Nat.zero_le _, Nat.zero_le _⟩ (fun H locs hP hD hS => ?_)
          obtain rfl := Option.some.inj hf
          exact W.iret (v := q25.1) hx hb hr (fun t ht hW => ⟨⟨q25.1, (), rfl, rfl, rf_mk ht hP hD⟩, hS.F ht⟩) hS.2.2 dX3_two_56
  · have hf := rf_ifp hf c2
    refine lv_iload hx hb dX3_two_15 (lv_at hl 6 rfl) ?_
    refine lv_iconst (v := 0) hx hb dX3_two_17 (by decide) ?_
    refine lv_iconst (v := 2) hx hb dX3_two_18 (by decide) ?_
    obtain ⟨q26, hq26, hf⟩ := rf_bindq hf
    refine rf_Si (As := [.int p5, .int 0, .int 2]) (rest := []) (wr := [(a_this, .inr (3, rf_o3 a_this_s a_this_image a_this_read a_this_mind a_this_letters a_this_row a_this_refused a_this_numbers a_this_cost g_this)), (a_this_s, .inl (cA, 22, .inl f_this_s)), (a_this_row, .inl (cA, 12, .inl f_this_row)), (a_this_refused, .inl (cA, 7, .inl f_this_refused))]) (wn := [(a_this, .inr (3, rf_o3 a_this_s a_this_image a_this_read a_this_mind a_this_letters a_this_row a_this_refused a_this_numbers a_this_cost g_this)), (a_this_s, .inl (cA, 22, .inl f_this_s)), (a_this_row, .inl (cA, 12, .inl f_this_row)), (a_this_refused, .inl (cA, 7, .inl f_this_refused))]) ⟨hx, hb, hml, hown, hts⟩ hK hP hD hS hA hE (c_X3_isIn l D cA ad H.size p5 0 2 q26 hq26) (va_cwS 3 hts gX3_two_X3_isIn rfl rfl rfl hs_X3_isIn ⟨Nat.le_of_ble_eq_true rfl, Nat.le_of_ble_eq_true rfl⟩) [] [0, 1, 2, 3] [0, 1, 2, 3] rfl rfl rfl rfl (by decide) rfl rfl rfl rfl hl.1 (Nat.le_of_ble_eq_true rfl) dX3_two_19 ⟨Nat.zero_le _, Nat.zero_le _⟩ (fun H locs hP hD hS => ?_)
    refine lv_if_ne (tgt := 29) hx hb dX3_two_22 (by decide) (fun c27 => ?_) (fun c27 => ?_)
    · have hf := rf_ifn hf c27
      refine lv_iload hx hb dX3_two_29 (lv_at hl 0 rfl) ?_
      refine lv_if_ne (tgt := 45) hx hb dX3_two_31 (by decide) (fun c28 => ?_) (fun c28 => ?_)
      · have hf := rf_ifn hf c28
        refine lv_iload hx hb dX3_two_45 (lv_at hl 0 rfl) ?_
        refine lv_if_eq (tgt := 57) hx hb dX3_two_47 (by decide) (fun c29 => ?_) (fun c29 => ?_)
        · have hf := rf_ifp hf c29
          refine lv_aload_n hx hb dX3_two_57 rfl (lv_at hl 1 rfl) ?_
          refine lv_iload_n hx hb dX3_two_58 rfl (lv_at hl 2 rfl) ?_
          refine lv_iload_n hx hb dX3_two_59 rfl (lv_at hl 3 rfl) ?_
          obtain ⟨q30, hq30, hf⟩ := rf_bindq hf
          refine rf_Si (As := [.int p1, .int p2]) (rest := [.ref a_this]) (wr := [(a_this, .inr (3, rf_o3 a_this_s a_this_image a_this_read a_this_mind a_this_letters a_this_row a_this_refused a_this_numbers a_this_cost g_this)), (a_this_s, .inl (cA, 22, .inl f_this_s)), (a_this_row, .inl (cA, 12, .inl f_this_row)), (a_this_refused, .inl (cA, 7, .inl f_this_refused))]) (wn := [(a_this, .inr (3, rf_o3 a_this_s a_this_image a_this_read a_this_mind a_this_letters a_this_row a_this_refused a_this_numbers a_this_cost g_this)), (a_this_s, .inl (cA, 22, .inl f_this_s)), (a_this_row, .inl (cA, 12, .inl f_this_row)), (a_this_refused, .inl (cA, 7, .inl f_this_refused))]) ⟨hx, hb, hml, hown, hts⟩ hK hP hD hS hA hE (c_X3_monthsOf l D cA ad H.size p1 p2 q30 hq30) (va_cwS 2 hts gX3_two_X3_monthsOf rfl rfl rfl hs_X3_monthsOf ⟨Nat.le_of_ble_eq_true rfl, Nat.le_of_ble_eq_true rfl⟩) [] [0, 1, 2, 3] [0, 1, 2, 3] rfl rfl rfl rfl (by decide) rfl rfl rfl rfl hl.1 (Nat.le_of_ble_eq_true rfl) dX3_two_60 ⟨Nat.zero_le _, Nat.zero_le _⟩ (fun H locs hP hD hS => ?_)
          refine lv_iload_n hx hb dX3_two_63 rfl (lv_at hl 4 rfl) ?_
          refine lv_iload hx hb dX3_two_64 (lv_at hl 5 rfl) ?_
          obtain ⟨q31, hq31, hf⟩ := rf_bindq hf
          refine rf_Vv (As := [.int q30, .int p3, .int p4]) (rest := []) (wr := [(a_this_refused, .inl (cA, 7, .inl f_this_refused))]) (wn := [(a_this, .inr (3, rf_o3 a_this_s a_this_image a_this_read a_this_mind a_this_letters a_this_row a_this_refused a_this_numbers a_this_cost q31)), (a_this_s, .inl (cA, 22, .inl f_this_s)), (a_this_row, .inl (cA, 12, .inl f_this_row)), (a_this_refused, .inl (cA, 7, .inl f_this_refused))]) ⟨hx, hb, hml, hown, hts⟩ hK hP hD hS hA hE (c_X3_finds l D cA ad a_this a_this_s a_this_image a_this_read a_this_mind a_this_letters a_this_row a_this_refused a_this_numbers a_this_cost H.size g_this f_this_s f_this_row q30 p3 p4 q31 hq31) (cwV 3 hts gX3_two_X3_finds rfl rfl rfl hv_X3_finds ⟨Nat.le_of_ble_eq_true rfl, Nat.le_of_ble_eq_true rfl⟩) [0, 1, 2] [3] [1, 2, 3, 0] rfl rfl rfl rfl (by decide) rfl rfl 3 0 rfl rfl rfl rfl rfl hl.1 (Nat.le_of_ble_eq_true rfl) dX3_two_66 ⟨Nat.zero_le _, Nat.zero_le _⟩ (fun H locs hP hD hS => ?_)
          refine lv_iload hx hb dX3_two_69 (lv_at hl 6 rfl) ?_
          refine lv_if_ne (tgt := 79) hx hb dX3_two_71 (by decide) (fun c32 => ?_) (fun c32 => ?_)
          · have hf := rf_ifn hf c32
            refine lv_aload_n hx hb dX3_two_79 rfl (lv_at hl 1 rfl) ?_
            refine va_get (D := D) (ci := 3) (v := .int (q31 5)) (C := RX3) (T := TX3) (N := 16) hx hb hts jX3_two_X3 hown hK hP 0 rfl rfl 14 (by decide) (hts _ kX3_two_0) (fun _ h9 => h9) rfl dX3_two_80 ?_
            refine lv_topi (fun v33 ev33 => ?_)
            have hf := rf_bindv hf ev33
            clear ev33
            refine lv_istore (lv' := [(7, .int v33), (6, .int q1), (0, .ref a_this), (1, .int p1), (2, .int p2), (3, .int p3), (4, .int p4), (5, .int p5)]) hx hb dX3_two_83 hl (by decide) rfl (fun ls hl => ?_)
            refine lv_aload_n hx hb dX3_two_85 rfl (lv_at hl 2 rfl) ?_
            refine lv_sipush (v := 4095) hx hb dX3_two_86 (by decide) ?_
            refine lv_iload_n hx hb dX3_two_89 rfl (lv_at hl 3 rfl) ?_
            refine lv_iload_n hx hb dX3_two_90 rfl (lv_at hl 4 rfl) ?_
            obtain ⟨q34, hq34, hf⟩ := rf_bindq hf
            refine rf_Si (As := [.int p1, .int p2]) (rest := [.int 4095, .ref a_this]) (wr := [(a_this, .inr (3, rf_o3 a_this_s a_this_image a_this_read a_this_mind a_this_letters a_this_row a_this_refused a_this_numbers a_this_cost q31)), (a_this_s, .inl (cA, 22, .inl f_this_s)), (a_this_row, .inl (cA, 12, .inl f_this_row)), (a_this_refused, .inl (cA, 7, .inl f_this_refused))]) (wn := [(a_this, .inr (3, rf_o3 a_this_s a_this_image a_this_read a_this_mind a_this_letters a_this_row a_this_refused a_this_numbers a_this_cost q31)), (a_this_s, .inl (cA, 22, .inl f_this_s)), (a_this_row, .inl (cA, 12, .inl f_this_row)), (a_this_refused, .inl (cA, 7, .inl f_this_refused))]) ⟨hx, hb, hml, hown, hts⟩ hK hP hD hS hA hE (c_X3_monthsOf l D cA ad H.size p1 p2 q34 hq34) (va_cwS 2 hts gX3_two_X3_monthsOf rfl rfl rfl hs_X3_monthsOf ⟨Nat.le_of_ble_eq_true rfl, Nat.le_of_ble_eq_true rfl⟩) [] [0, 1, 2, 3] [0, 1, 2, 3] rfl rfl rfl rfl (by decide) rfl rfl rfl rfl hl.1 (Nat.le_of_ble_eq_true rfl) dX3_two_91 ⟨Nat.zero_le _, Nat.zero_le _⟩ (fun H locs hP hD hS => ?_)
            refine lv_iconst (v := (-1)) hx hb dX3_two_94 (by decide) ?_
            refine lv_ixor hx hb dX3_two_95 ?_
            refine lv_iand hx hb dX3_two_96 ?_
            refine lv_iload_n hx hb dX3_two_97 rfl (lv_at hl 5 rfl) ?_
            refine lv_iload hx hb dX3_two_98 (lv_at hl 6 rfl) ?_
            obtain ⟨q35, hq35, hf⟩ := rf_bindq hf
            refine rf_Vv (As := [.int (4095 &&& (q34 ^^^ (-1))), .int p3, .int p4]) (rest := []) (wr := [(a_this_refused, .inl (cA, 7, .inl f_this_refused))]) (wn := [(a_this, .inr (3, rf_o3 a_this_s a_this_image a_this_read a_this_mind a_this_letters a_this_row a_this_refused a_this_numbers a_this_cost q35)), (a_this_s, .inl (cA, 22, .inl f_this_s)), (a_this_row, .inl (cA, 12, .inl f_this_row)), (a_this_refused, .inl (cA, 7, .inl f_this_refused))]) ⟨hx, hb, hml, hown, hts⟩ hK hP hD hS hA hE (c_X3_finds l D cA ad a_this a_this_s a_this_image a_this_read a_this_mind a_this_letters a_this_row a_this_refused a_this_numbers a_this_cost H.size q31 f_this_s f_this_row (4095 &&& (q34 ^^^ (-1))) p3 p4 q35 hq35) (cwV 3 hts gX3_two_X3_finds rfl rfl rfl hv_X3_finds ⟨Nat.le_of_ble_eq_true rfl, Nat.le_of_ble_eq_true rfl⟩) [0, 1, 2] [3] [1, 2, 3, 0] rfl rfl rfl rfl (by decide) rfl rfl 3 0 rfl rfl rfl rfl rfl hl.1 (Nat.le_of_ble_eq_true rfl) dX3_two_100 ⟨Nat.zero_le _, Nat.zero_le _⟩ (fun H locs hP hD hS => ?_)
            refine lv_iload hx hb dX3_two_103 (lv_at hl 7 rfl) ?_
            refine lv_iconst (v := 1) hx hb dX3_two_105 (by decide) ?_
            refine lv_icmp_ne (tgt := 116) hx hb dX3_two_106 (by decide) (fun c36 => ?_) (fun c36 => ?_)
            · have hf := rf_ifn hf c36
              refine lv_iload hx hb dX3_two_116 (lv_at hl 0 rfl) ?_
              refine lv_aload_n hx hb dX3_two_118 rfl (lv_at hl 2 rfl) ?_
              refine va_get (D := D) (ci := 3) (v := .int (q35 5)) (C := RX3) (T := TX3) (N := 16) hx hb hts jX3_two_X3 hown hK hP 0 rfl rfl 14 (by decide) (hts _ kX3_two_0) (fun _ h9 => h9) rfl dX3_two_119 ?_
              refine lv_iadd hx hb dX3_two_122 ?_
              obtain rfl := Option.some.inj hf
              exact W.iret (v := (v33 + (q35 5))) hx hb hr (fun t ht hW => ⟨⟨(v33 + (q35 5)), (), rfl, rfl, rf_mk ht hP hD⟩, hS.F ht⟩) hS.2.2 dX3_two_123
            · have hf := rf_ifp hf c36
              refine lv_aload_n hx hb dX3_two_109 rfl (lv_at hl 2 rfl) ?_
              refine va_get (D := D) (ci := 3) (v := .int (q35 4)) (C := RX3) (T := TX3) (N := 16) hx hb hts jX3_two_X3 hown hK hP 0 rfl rfl 13 (by decide) (hts _ kX3_two_1) (fun _ h9 => h9) rfl dX3_two_110 ?_
              refine lv_goto (tgt := 123) hx hb dX3_two_113 (by decide) ?_
              obtain rfl := Option.some.inj hf
              exact W.iret (v := (q35 4)) hx hb hr (fun t ht hW => ⟨⟨(q35 4), (), rfl, rfl, rf_mk ht hP hD⟩, hS.F ht⟩) hS.2.2 dX3_two_123
          · have hf := rf_ifp hf c32
            refine lv_aload_n hx hb dX3_two_74 rfl (lv_at hl 1 rfl) ?_
            refine va_get (D := D) (ci := 3) (v := .int (q31 4)) (C := RX3) (T := TX3) (N := 16) hx hb hts jX3_two_X3 hown hK hP 0 rfl rfl 13 (by decide) (hts _ kX3_two_1) (fun _ h9 => h9) rfl dX3_two_75 ?_
            obtain rfl := Option.some.inj hf
            exact W.iret (v := (q31 4)) hx hb hr (fun t ht hW => ⟨⟨(q31 4), (), rfl, rfl, rf_mk ht hP hD⟩, hS.F ht⟩) hS.2.2 dX3_two_78
        · have hf := rf_ifn hf c29
          refine lv_aload_n hx hb dX3_two_50 rfl (lv_at hl 1 rfl) ?_
          refine lv_iload hx hb dX3_two_51 (lv_at hl 0 rfl) ?_
          obtain ⟨q37, hq37, hf⟩ := rf_bindq hf
          refine rf_Vi (As := [.int q1]) (rest := []) (wr := [(a_this_s, .inl (cA, 22, .inl f_this_s)), (a_this_row, .inl (cA, 12, .inl f_this_row))]) (wn := [(a_this, .inr (3, rf_o3 a_this_s a_this_image a_this_read a_this_mind a_this_letters a_this_row a_this_refused a_this_numbers a_this_cost g_this)), (a_this_s, .inl (cA, 22, .inl f_this_s)), (a_this_row, .inl (cA, 12, .inl f_this_row)), (a_this_refused, .inl (cA, 7, .inl q37.2))]) ⟨hx, hb, hml, hown, hts⟩ hK hP hD hS hA hE (c_X3_no l D cA ad a_this a_this_s a_this_image a_this_read a_this_mind a_this_letters a_this_row a_this_refused a_this_numbers a_this_cost H.size g_this f_this_refused q1 q37 hq37) (cwV 1 hts gX3_two_X3_no rfl rfl rfl hv_X3_no ⟨Nat.le_of_ble_eq_true rfl, Nat.le_of_ble_eq_true rfl⟩) [0, 3] [1, 2] [2, 0, 1, 3] rfl rfl rfl rfl (by decide) rfl rfl 3 0 rfl rfl rfl rfl rfl hl.1 (Nat.le_of_ble_eq_true rfl) dX3_two_53 ⟨Nat.zero_le _, Nat.zero_le _⟩ (fun H locs hP hD hS => ?_)
          obtain rfl := Option.some.inj hf
          exact W.iret (v := q37.1) hx hb hr (fun t ht hW => ⟨⟨q37.1, (), rfl, rfl, rf_mk ht hP hD⟩, hS.F ht⟩) hS.2.2 dX3_two_56
      · have hf := rf_ifp hf c28
        refine lv_aload_n hx hb dX3_two_34 rfl (lv_at hl 1 rfl) ?_
        obtain ⟨q38, hq38, hf⟩ := rf_bindq hf
        refine rf_Vi (As := []) (rest := []) (wr := [(a_this_s, .inl (cA, 22, .inl f_this_s)), (a_this_refused, .inl (cA, 7, .inl f_this_refused))]) (wn := [(a_this, .inr (3, rf_o3 a_this_s a_this_image a_this_read a_this_mind a_this_letters a_this_row a_this_refused a_this_numbers a_this_cost g_this)), (a_this_s, .inl (cA, 22, .inl f_this_s)), (a_this_row, .inl (cA, 12, .inl f_this_row)), (a_this_refused, .inl (cA, 7, .inl f_this_refused))]) ⟨hx, hb, hml, hown, hts⟩ hK hP hD hS hA hE (c_X3_areHeats l D cA ad a_this a_this_s a_this_image a_this_read a_this_mind a_this_letters a_this_row a_this_refused a_this_numbers a_this_cost H.size g_this f_this_row q38 hq38) (cwV 0 hts gX3_two_X3_areHeats rfl rfl rfl hv_X3_areHeats ⟨Nat.le_of_ble_eq_true rfl, Nat.le_of_ble_eq_true rfl⟩) [0, 2] [1, 3] [2, 0, 3, 1] rfl rfl rfl rfl (by decide) rfl rfl 3 0 rfl rfl rfl rfl rfl hl.1 (Nat.le_of_ble_eq_true rfl) dX3_two_35 ⟨Nat.zero_le _, Nat.zero_le _⟩ (fun H locs hP hD hS => ?_)
        refine lv_if_ne (tgt := 45) hx hb dX3_two_38 (by decide) (fun c39 => ?_) (fun c39 => ?_)
        · have hf := rf_ifn hf c39
          refine lv_iload hx hb dX3_two_45 (lv_at hl 0 rfl) ?_
          refine lv_if_eq (tgt := 57) hx hb dX3_two_47 (by decide) (fun c40 => ?_) (fun c40 => ?_)
          · have hf := rf_ifp hf c40
            refine lv_aload_n hx hb dX3_two_57 rfl (lv_at hl 1 rfl) ?_
            refine lv_iload_n hx hb dX3_two_58 rfl (lv_at hl 2 rfl) ?_
            refine lv_iload_n hx hb dX3_two_59 rfl (lv_at hl 3 rfl) ?_
            obtain ⟨q41, hq41, hf⟩ := rf_bindq hf
            refine rf_Si (As := [.int p1, .int p2]) (rest := [.ref a_this]) (wr := [(a_this, .inr (3, rf_o3 a_this_s a_this_image a_this_read a_this_mind a_this_letters a_this_row a_this_refused a_this_numbers a_this_cost g_this)), (a_this_s, .inl (cA, 22, .inl f_this_s)), (a_this_row, .inl (cA, 12, .inl f_this_row)), (a_this_refused, .inl (cA, 7, .inl f_this_refused))]) (wn := [(a_this, .inr (3, rf_o3 a_this_s a_this_image a_this_read a_this_mind a_this_letters a_this_row a_this_refused a_this_numbers a_this_cost g_this)), (a_this_s, .inl (cA, 22, .inl f_this_s)), (a_this_row, .inl (cA, 12, .inl f_this_row)), (a_this_refused, .inl (cA, 7, .inl f_this_refused))]) ⟨hx, hb, hml, hown, hts⟩ hK hP hD hS hA hE (c_X3_monthsOf l D cA ad H.size p1 p2 q41 hq41) (va_cwS 2 hts gX3_two_X3_monthsOf rfl rfl rfl hs_X3_monthsOf ⟨Nat.le_of_ble_eq_true rfl, Nat.le_of_ble_eq_true rfl⟩) [] [0, 1, 2, 3] [0, 1, 2, 3] rfl rfl rfl rfl (by decide) rfl rfl rfl rfl hl.1 (Nat.le_of_ble_eq_true rfl) dX3_two_60 ⟨Nat.zero_le _, Nat.zero_le _⟩ (fun H locs hP hD hS => ?_)
            refine lv_iload_n hx hb dX3_two_63 rfl (lv_at hl 4 rfl) ?_
            refine lv_iload hx hb dX3_two_64 (lv_at hl 5 rfl) ?_
            obtain ⟨q42, hq42, hf⟩ := rf_bindq hf
            refine rf_Vv (As := [.int q41, .int p3, .int p4]) (rest := []) (wr := [(a_this_refused, .inl (cA, 7, .inl f_this_refused))]) (wn := [(a_this, .inr (3, rf_o3 a_this_s a_this_image a_this_read a_this_mind a_this_letters a_this_row a_this_refused a_this_numbers a_this_cost q42)), (a_this_s, .inl (cA, 22, .inl f_this_s)), (a_this_row, .inl (cA, 12, .inl f_this_row)), (a_this_refused, .inl (cA, 7, .inl f_this_refused))]) ⟨hx, hb, hml, hown, hts⟩ hK hP hD hS hA hE (c_X3_finds l D cA ad a_this a_this_s a_this_image a_this_read a_this_mind a_this_letters a_this_row a_this_refused a_this_numbers a_this_cost H.size g_this f_this_s f_this_row q41 p3 p4 q42 hq42) (cwV 3 hts gX3_two_X3_finds rfl rfl rfl hv_X3_finds ⟨Nat.le_of_ble_eq_true rfl, Nat.le_of_ble_eq_true rfl⟩) [0, 1, 2] [3] [1, 2, 3, 0] rfl rfl rfl rfl (by decide) rfl rfl 3 0 rfl rfl rfl rfl rfl hl.1 (Nat.le_of_ble_eq_true rfl) dX3_two_66 ⟨Nat.zero_le _, Nat.zero_le _⟩ (fun H locs hP hD hS => ?_)
            refine lv_iload hx hb dX3_two_69 (lv_at hl 6 rfl) ?_
            refine lv_if_ne (tgt := 79) hx hb dX3_two_71 (by decide) (fun c43 => ?_) (fun c43 => ?_)
            · have hf := rf_ifn hf c43
              refine lv_aload_n hx hb dX3_two_79 rfl (lv_at hl 1 rfl) ?_
              refine va_get (D := D) (ci := 3) (v := .int (q42 5)) (C := RX3) (T := TX3) (N := 16) hx hb hts jX3_two_X3 hown hK hP 0 rfl rfl 14 (by decide) (hts _ kX3_two_0) (fun _ h9 => h9) rfl dX3_two_80 ?_
              refine lv_topi (fun v44 ev44 => ?_)
              have hf := rf_bindv hf ev44
              clear ev44
              refine lv_istore (lv' := [(7, .int v44), (6, .int q1), (0, .ref a_this), (1, .int p1), (2, .int p2), (3, .int p3), (4, .int p4), (5, .int p5)]) hx hb dX3_two_83 hl (by decide) rfl (fun ls hl => ?_)
              refine lv_aload_n hx hb dX3_two_85 rfl (lv_at hl 2 rfl) ?_
              refine lv_sipush (v := 4095) hx hb dX3_two_86 (by decide) ?_
              refine lv_iload_n hx hb dX3_two_89 rfl (lv_at hl 3 rfl) ?_
              refine lv_iload_n hx hb dX3_two_90 rfl (lv_at hl 4 rfl) ?_
              obtain ⟨q45, hq45, hf⟩ := rf_bindq hf
              refine rf_Si (As := [.int p1, .int p2]) (rest := [.int 4095, .ref a_this]) (wr := [(a_this, .inr (3, rf_o3 a_this_s a_this_image a_this_read a_this_mind a_this_letters a_this_row a_this_refused a_this_numbers a_this_cost q42)), (a_this_s, .inl (cA, 22, .inl f_this_s)), (a_this_row, .inl (cA, 12, .inl f_this_row)), (a_this_refused, .inl (cA, 7, .inl f_this_refused))]) (wn := [(a_this, .inr (3, rf_o3 a_this_s a_this_image a_this_read a_this_mind a_this_letters a_this_row a_this_refused a_this_numbers a_this_cost q42)), (a_this_s, .inl (cA, 22, .inl f_this_s)), (a_this_row, .inl (cA, 12, .inl f_this_row)), (a_this_refused, .inl (cA, 7, .inl f_this_refused))]) ⟨hx, hb, hml, hown, hts⟩ hK hP hD hS hA hE (c_X3_monthsOf l D cA ad H.size p1 p2 q45 hq45) (va_cwS 2 hts gX3_two_X3_monthsOf rfl rfl rfl hs_X3_monthsOf ⟨Nat.le_of_ble_eq_true rfl, Nat.le_of_ble_eq_true rfl⟩) [] [0, 1, 2, 3] [0, 1, 2, 3] rfl rfl rfl rfl (by decide) rfl rfl rfl rfl hl.1 (Nat.le_of_ble_eq_true rfl) dX3_two_91 ⟨Nat.zero_le _, Nat.zero_le _⟩ (fun H locs hP hD hS => ?_)
              refine lv_iconst (v := (-1)) hx hb dX3_two_94 (by decide) ?_
              refine lv_ixor hx hb dX3_two_95 ?_
              refine lv_iand hx hb dX3_two_96 ?_
              refine lv_iload_n hx hb dX3_two_97 rfl (lv_at hl 5 rfl) ?_
              refine lv_iload hx hb dX3_two_98 (lv_at hl 6 rfl) ?_
              obtain ⟨q46, hq46, hf⟩ := rf_bindq hf
              refine rf_Vv (As := [.int (4095 &&& (q45 ^^^ (-1))), .int p3, .int p4]) (rest := []) (wr := [(a_this_refused, .inl (cA, 7, .inl f_this_refused))]) (wn := [(a_this, .inr (3, rf_o3 a_this_s a_this_image a_this_read a_this_mind a_this_letters a_this_row a_this_refused a_this_numbers a_this_cost q46)), (a_this_s, .inl (cA, 22, .inl f_this_s)), (a_this_row, .inl (cA, 12, .inl f_this_row)), (a_this_refused, .inl (cA, 7, .inl f_this_refused))]) ⟨hx, hb, hml, hown, hts⟩ hK hP hD hS hA hE (c_X3_finds l D cA ad a_this a_this_s a_this_image a_this_read a_this_mind a_this_letters a_this_row a_this_refused a_this_numbers a_this_cost H.size q42 f_this_s f_this_row (4095 &&& (q45 ^^^ (-1))) p3 p4 q46 hq46) (cwV 3 hts gX3_two_X3_finds rfl rfl rfl hv_X3_finds ⟨Nat.le_of_ble_eq_true rfl, Nat.le_of_ble_eq_true rfl⟩) [0, 1, 2] [3] [1, 2, 3, 0] rfl rfl rfl rfl (by decide) rfl rfl 3 0 rfl rfl rfl rfl rfl hl.1 (Nat.le_of_ble_eq_true rfl) dX3_two_100 ⟨Nat.zero_le _, Nat.zero_le _⟩ (fun H locs hP hD hS => ?_)
              refine lv_iload hx hb dX3_two_103 (lv_at hl 7 rfl) ?_
              refine lv_iconst (v := 1) hx hb dX3_two_105 (by decide) ?_
              refine lv_icmp_ne (tgt := 116) hx hb dX3_two_106 (by decide) (fun c47 => ?_) (fun c47 => ?_)
              · have hf := rf_ifn hf c47
                refine lv_iload hx hb dX3_two_116 (lv_at hl 0 rfl) ?_
                refine lv_aload_n hx hb dX3_two_118 rfl (lv_at hl 2 rfl) ?_
                refine va_get (D := D) (ci := 3) (v := .int (q46 5)) (C := RX3) (T := TX3) (N := 16) hx hb hts jX3_two_X3 hown hK hP 0 rfl rfl 14 (by decide) (hts _ kX3_two_0) (fun _ h9 => h9) rfl dX3_two_119 ?_
                refine lv_iadd hx hb dX3_two_122 ?_
                obtain rfl := Option.some.inj hf
                exact W.iret (v := (v44 + (q46 5))) hx hb hr (fun t ht hW => ⟨⟨(v44 + (q46 5)), (), rfl, rfl, rf_mk ht hP hD⟩, hS.F ht⟩) hS.2.2 dX3_two_123
              · have hf := rf_ifp hf c47
                refine lv_aload_n hx hb dX3_two_109 rfl (lv_at hl 2 rfl) ?_
                refine va_get (D := D) (ci := 3) (v := .int (q46 4)) (C := RX3) (T := TX3) (N := 16) hx hb hts jX3_two_X3 hown hK hP 0 rfl rfl 13 (by decide) (hts _ kX3_two_1) (fun _ h9 => h9) rfl dX3_two_110 ?_
                refine lv_goto (tgt := 123) hx hb dX3_two_113 (by decide) ?_
                obtain rfl := Option.some.inj hf
                exact W.iret (v := (q46 4)) hx hb hr (fun t ht hW => ⟨⟨(q46 4), (), rfl, rfl, rf_mk ht hP hD⟩, hS.F ht⟩) hS.2.2 dX3_two_123
            · have hf := rf_ifp hf c43
              refine lv_aload_n hx hb dX3_two_74 rfl (lv_at hl 1 rfl) ?_
              refine va_get (D := D) (ci := 3) (v := .int (q42 4)) (C := RX3) (T := TX3) (N := 16) hx hb hts jX3_two_X3 hown hK hP 0 rfl rfl 13 (by decide) (hts _ kX3_two_1) (fun _ h9 => h9) rfl dX3_two_75 ?_
              obtain rfl := Option.some.inj hf
              exact W.iret (v := (q42 4)) hx hb hr (fun t ht hW => ⟨⟨(q42 4), (), rfl, rfl, rf_mk ht hP hD⟩, hS.F ht⟩) hS.2.2 dX3_two_78
          · have hf := rf_ifn hf c40
            refine lv_aload_n hx hb dX3_two_50 rfl (lv_at hl 1 rfl) ?_
            refine lv_iload hx hb dX3_two_51 (lv_at hl 0 rfl) ?_
            obtain ⟨q48, hq48, hf⟩ := rf_bindq hf
            refine rf_Vi (As := [.int q1]) (rest := []) (wr := [(a_this_s, .inl (cA, 22, .inl f_this_s)), (a_this_row, .inl (cA, 12, .inl f_this_row))]) (wn := [(a_this, .inr (3, rf_o3 a_this_s a_this_image a_this_read a_this_mind a_this_letters a_this_row a_this_refused a_this_numbers a_this_cost g_this)), (a_this_s, .inl (cA, 22, .inl f_this_s)), (a_this_row, .inl (cA, 12, .inl f_this_row)), (a_this_refused, .inl (cA, 7, .inl q48.2))]) ⟨hx, hb, hml, hown, hts⟩ hK hP hD hS hA hE (c_X3_no l D cA ad a_this a_this_s a_this_image a_this_read a_this_mind a_this_letters a_this_row a_this_refused a_this_numbers a_this_cost H.size g_this f_this_refused q1 q48 hq48) (cwV 1 hts gX3_two_X3_no rfl rfl rfl hv_X3_no ⟨Nat.le_of_ble_eq_true rfl, Nat.le_of_ble_eq_true rfl⟩) [0, 3] [1, 2] [2, 0, 1, 3] rfl rfl rfl rfl (by decide) rfl rfl 3 0 rfl rfl rfl rfl rfl hl.1 (Nat.le_of_ble_eq_true rfl) dX3_two_53 ⟨Nat.zero_le _, Nat.zero_le _⟩ (fun H locs hP hD hS => ?_)
            obtain rfl := Option.some.inj hf
            exact W.iret (v := q48.1) hx hb hr (fun t ht hW => ⟨⟨q48.1, (), rfl, rfl, rf_mk ht hP hD⟩, hS.F ht⟩) hS.2.2 dX3_two_56
        · have hf := rf_ifp hf c39
          refine lv_bipush (v := (-3)) hx hb dX3_two_41 (by decide) ?_
          refine lv_istore (lv' := [(6, .int (-3)), (0, .ref a_this), (1, .int p1), (2, .int p2), (3, .int p3), (4, .int p4), (5, .int p5)]) hx hb dX3_two_43 hl (by decide) rfl (fun ls hl => ?_)
          refine lv_iload hx hb dX3_two_45 (lv_at hl 0 rfl) ?_
          refine lv_if_eq (tgt := 57) hx hb dX3_two_47 (by decide) (fun c49 => ?_) (fun c49 => ?_)
          · exact absurd c49 (by decide)
          · refine lv_aload_n hx hb dX3_two_50 rfl (lv_at hl 1 rfl) ?_
            refine lv_iload hx hb dX3_two_51 (lv_at hl 0 rfl) ?_
            obtain ⟨q50, hq50, hf⟩ := rf_bindq hf
            refine rf_Vi (As := [.int (-3)]) (rest := []) (wr := [(a_this_s, .inl (cA, 22, .inl f_this_s)), (a_this_row, .inl (cA, 12, .inl f_this_row))]) (wn := [(a_this, .inr (3, rf_o3 a_this_s a_this_image a_this_read a_this_mind a_this_letters a_this_row a_this_refused a_this_numbers a_this_cost g_this)), (a_this_s, .inl (cA, 22, .inl f_this_s)), (a_this_row, .inl (cA, 12, .inl f_this_row)), (a_this_refused, .inl (cA, 7, .inl q50.2))]) ⟨hx, hb, hml, hown, hts⟩ hK hP hD hS hA hE (c_X3_no l D cA ad a_this a_this_s a_this_image a_this_read a_this_mind a_this_letters a_this_row a_this_refused a_this_numbers a_this_cost H.size g_this f_this_refused (-3) q50 hq50) (cwV 1 hts gX3_two_X3_no rfl rfl rfl hv_X3_no ⟨Nat.le_of_ble_eq_true rfl, Nat.le_of_ble_eq_true rfl⟩) [0, 3] [1, 2] [2, 0, 1, 3] rfl rfl rfl rfl (by decide) rfl rfl 3 0 rfl rfl rfl rfl rfl hl.1 (Nat.le_of_ble_eq_true rfl) dX3_two_53 ⟨Nat.zero_le _, Nat.zero_le _⟩ (fun H locs hP hD hS => ?_)
            obtain rfl := Option.some.inj hf
            exact W.iret (v := q50.1) hx hb hr (fun t ht hW => ⟨⟨q50.1, (), rfl, rfl, rf_mk ht hP hD⟩, hS.F ht⟩) hS.2.2 dX3_two_56
    · have hf := rf_ifp hf c27
      refine lv_bipush (v := (-2)) hx hb dX3_two_25 (by decide) ?_
      refine lv_istore (lv' := [(6, .int (-2)), (0, .ref a_this), (1, .int p1), (2, .int p2), (3, .int p3), (4, .int p4), (5, .int p5)]) hx hb dX3_two_27 hl (by decide) rfl (fun ls hl => ?_)
      refine lv_iload hx hb dX3_two_29 (lv_at hl 0 rfl) ?_
      refine lv_if_ne (tgt := 45) hx hb dX3_two_31 (by decide) (fun c51 => ?_) (fun c51 => ?_)
      · refine lv_iload hx hb dX3_two_45 (lv_at hl 0 rfl) ?_
        refine lv_if_eq (tgt := 57) hx hb dX3_two_47 (by decide) (fun c52 => ?_) (fun c52 => ?_)
        · exact absurd c52 (by decide)
        · refine lv_aload_n hx hb dX3_two_50 rfl (lv_at hl 1 rfl) ?_
          refine lv_iload hx hb dX3_two_51 (lv_at hl 0 rfl) ?_
          obtain ⟨q53, hq53, hf⟩ := rf_bindq hf
          refine rf_Vi (As := [.int (-2)]) (rest := []) (wr := [(a_this_s, .inl (cA, 22, .inl f_this_s)), (a_this_row, .inl (cA, 12, .inl f_this_row))]) (wn := [(a_this, .inr (3, rf_o3 a_this_s a_this_image a_this_read a_this_mind a_this_letters a_this_row a_this_refused a_this_numbers a_this_cost g_this)), (a_this_s, .inl (cA, 22, .inl f_this_s)), (a_this_row, .inl (cA, 12, .inl f_this_row)), (a_this_refused, .inl (cA, 7, .inl q53.2))]) ⟨hx, hb, hml, hown, hts⟩ hK hP hD hS hA hE (c_X3_no l D cA ad a_this a_this_s a_this_image a_this_read a_this_mind a_this_letters a_this_row a_this_refused a_this_numbers a_this_cost H.size g_this f_this_refused (-2) q53 hq53) (cwV 1 hts gX3_two_X3_no rfl rfl rfl hv_X3_no ⟨Nat.le_of_ble_eq_true rfl, Nat.le_of_ble_eq_true rfl⟩) [0, 3] [1, 2] [2, 0, 1, 3] rfl rfl rfl rfl (by decide) rfl rfl 3 0 rfl rfl rfl rfl rfl hl.1 (Nat.le_of_ble_eq_true rfl) dX3_two_53 ⟨Nat.zero_le _, Nat.zero_le _⟩ (fun H locs hP hD hS => ?_)
          obtain rfl := Option.some.inj hf
          exact W.iret (v := q53.1) hx hb hr (fun t ht hW => ⟨⟨q53.1, (), rfl, rfl, rf_mk ht hP hD⟩, hS.F ht⟩) hS.2.2 dX3_two_56
      · exact absurd c51 (by decide)
theorem kX3_worth_0 : (.fieldLink RX3 179 "RingAndFingerModel" "bestCost" "I" : Cond) ∈ wsX3_worth := by decide +kernel
theorem jX3_worth_X3 : ∀ w ∈ u_ws RX3 TX3 16, w ∈ wsX3_worth := by decide +kernel
set_option maxHeartbeats 8000000 in
set_option maxRecDepth 100000 in
theorem c_X3_worth (l : Launch) (D : va_G) (cA : ClassId) (ad : Nat → Nat) (a_this a_this_s a_this_image a_this_read a_this_mind a_this_letters a_this_row a_this_refused a_this_numbers a_this_cost : Nat) (sz : Nat) (g_this f_this_s f_this_row f_this_refused : Nat → Int32) (p1 p2 p3 p4 : Int32) (q : Int32 × (Nat → Int32) × (Nat → Int32)) (hf : f_X3_worth g_this f_this_s f_this_row f_this_refused p1 p2 p3 p4 = some q) : Met l yX3_worth wsX3_worth ({ frames := 5, cells := 0, slots := 0, locals := 121 } : Room) (va_Pc [.ref a_this, .int p1, .int p2, .int p3, .int p4] (rf_Pre D cA ad [(a_this, .inr (3, rf_o3 a_this_s a_this_image a_this_read a_this_mind a_this_letters a_this_row a_this_refused a_this_numbers a_this_cost g_this)), (a_this_s, .inl (cA, 22, .inl f_this_s)), (a_this_row, .inl (cA, 12, .inl f_this_row)), (a_this_refused, .inl (cA, 7, .inl f_this_refused))] sz)) (va_Qi (fun (r : Int32) (_ : Unit) => r = q.1) (fun _ t => rf_Post D (va_A [(a_this, .inr (3, rf_o3 a_this_s a_this_image a_this_read a_this_mind a_this_letters a_this_row a_this_refused a_this_numbers a_this_cost g_this)), (a_this_s, .inl (cA, 22, .inl f_this_s)), (a_this_row, .inl (cA, 12, .inl f_this_row)), (a_this_refused, .inl (cA, 7, .inl f_this_refused))] sz) [(a_this, .inr (3, rf_o3 a_this_s a_this_image a_this_read a_this_mind a_this_letters a_this_row a_this_refused a_this_numbers a_this_cost q.2.1)), (a_this_s, .inl (cA, 22, .inl f_this_s)), (a_this_row, .inl (cA, 12, .inl f_this_row)), (a_this_refused, .inl (cA, 7, .inl q.2.2))] t) (va_A [(a_this, .inr (3, rf_o3 a_this_s a_this_image a_this_read a_this_mind a_this_letters a_this_row a_this_refused a_this_numbers a_this_cost g_this)), (a_this_s, .inl (cA, 22, .inl f_this_s)), (a_this_row, .inl (cA, 12, .inl f_this_row)), (a_this_refused, .inl (cA, 7, .inl f_this_refused))] sz)) 0 0 (va_A [(a_this, .inr (3, rf_o3 a_this_s a_this_image a_this_read a_this_mind a_this_letters a_this_row a_this_refused a_this_numbers a_this_cost g_this)), (a_this_s, .inl (cA, 22, .inl f_this_s)), (a_this_row, .inl (cA, 12, .inl f_this_row)), (a_this_refused, .inl (cA, 7, .inl f_this_refused))] sz) := by
  refine Met.ofW (cc := cX3_worth) (maxL := 8) (ret := (some .int)) (by decide) rfl ?_
  intro p e s m args below meth c s₁ B hml hv
  obtain ⟨rfl, hsz, hP, hK, hD0, hE⟩ := hv
  have hx := B.exec
  have hb := B.bytes
  have hr := B.returns
  have hts := atoms_spec (ws := wsX3_worth) B.pre
  have hown : s.vm.findClass RX3 = some m.cls := findClass_of_methodNamed B.named
  have hlocks := B.notSynchronized
  subst hsz
  have hD := hD0.self (sz := s.heap.size)
  generalize hAe : va_A [(a_this, .inr (3, rf_o3 a_this_s a_this_image a_this_read a_this_mind a_this_letters a_this_row a_this_refused a_this_numbers a_this_cost g_this)), (a_this_s, .inl (cA, 22, .inl f_this_s)), (a_this_row, .inl (cA, 12, .inl f_this_row)), (a_this_refused, .inl (cA, 7, .inl f_this_refused))] s.heap.size = A at hD hE ⊢
  have hA : ∀ q : Nat, s.heap.size ≤ q → A q := fun q h => by rw [← hAe]; exact Or.inr h
  have hS : va_S A s.heap s.heap [] := va_S.rf
  have hP : va_P D vwCl [(a_this, .inr (3, rf_o3 a_this_s a_this_image a_this_read a_this_mind a_this_letters a_this_row a_this_refused a_this_numbers a_this_cost g_this)), (a_this_s, .inl (cA, 22, .inl f_this_s)), (a_this_row, .inl (cA, 12, .inl f_this_row)), (a_this_refused, .inl (cA, 7, .inl f_this_refused))] s.heap := hP
  have hl := lv_entry ([.ref a_this, .int p1, .int p2, .int p3, .int p4]) (n := 8) (Nat.le_of_ble_eq_true rfl)
  rw [lg_entry_eq]
  generalize (lg_sl ([.ref a_this, .int p1, .int p2, .int p3, .int p4]) ++ List.replicate (8 - (lg_sl ([.ref a_this, .int p1, .int p2, .int p3, .int p4])).length) Slot.unset).toArray = ls at hl ⊢
  have hl : lv_has ls 8 [(0, .ref a_this), (1, .int p1), (2, .int p2), (3, .int p3), (4, .int p4)] := hl
  rw [f_X3_worth] at hf
  refine lv_iload_n hx hb dX3_worth_0 rfl (lv_at hl 1 rfl) ?_
  refine lv_iload_n hx hb dX3_worth_1 rfl (lv_at hl 2 rfl) ?_
  refine lv_iload_n hx hb dX3_worth_2 rfl (lv_at hl 3 rfl) ?_
  refine lv_iload hx hb dX3_worth_3 (lv_at hl 4 rfl) ?_
  obtain ⟨q1, hq1, hf⟩ := rf_bindq hf
  refine rf_Si (As := [.int p1, .int p2, .int p3, .int p4]) (rest := []) (wr := [(a_this, .inr (3, rf_o3 a_this_s a_this_image a_this_read a_this_mind a_this_letters a_this_row a_this_refused a_this_numbers a_this_cost g_this)), (a_this_s, .inl (cA, 22, .inl f_this_s)), (a_this_row, .inl (cA, 12, .inl f_this_row)), (a_this_refused, .inl (cA, 7, .inl f_this_refused))]) (wn := [(a_this, .inr (3, rf_o3 a_this_s a_this_image a_this_read a_this_mind a_this_letters a_this_row a_this_refused a_this_numbers a_this_cost g_this)), (a_this_s, .inl (cA, 22, .inl f_this_s)), (a_this_row, .inl (cA, 12, .inl f_this_row)), (a_this_refused, .inl (cA, 7, .inl f_this_refused))]) ⟨hx, hb, hml, hown, hts⟩ hK hP hD hS hA hE (c_X3_wrongMonths l D cA ad s.heap.size p1 p2 p3 p4 q1 hq1) (va_cwS 4 hts gX3_worth_X3_wrongMonths rfl rfl rfl hs_X3_wrongMonths ⟨Nat.le_of_ble_eq_true rfl, Nat.le_of_ble_eq_true rfl⟩) [] [0, 1, 2, 3] [0, 1, 2, 3] rfl rfl rfl rfl (by decide) rfl rfl rfl rfl hl.1 (Nat.le_of_ble_eq_true rfl) dX3_worth_5 ⟨Nat.zero_le _, Nat.zero_le _⟩ (fun H locs hP hD hS => ?_)
  refine lv_istore (lv' := [(5, .int q1), (0, .ref a_this), (1, .int p1), (2, .int p2), (3, .int p3), (4, .int p4)]) hx hb dX3_worth_8 hl (by decide) rfl (fun ls hl => ?_)
  refine lv_iload hx hb dX3_worth_10 (lv_at hl 0 rfl) ?_
  refine lv_if_ne (tgt := 26) hx hb dX3_worth_12 (by decide) (fun c2 => ?_) (fun c2 => ?_)
  · have hf := rf_ifn hf c2
    refine lv_iload hx hb dX3_worth_26 (lv_at hl 0 rfl) ?_
    refine lv_if_eq (tgt := 38) hx hb dX3_worth_28 (by decide) (fun c3 => ?_) (fun c3 => ?_)
    · have hf := rf_ifp hf c3
      refine lv_aload_n hx hb dX3_worth_38 rfl (lv_at hl 1 rfl) ?_
      refine lv_sipush (v := 4095) hx hb dX3_worth_39 (by decide) ?_
      refine lv_iload_n hx hb dX3_worth_42 rfl (lv_at hl 4 rfl) ?_
      refine lv_iload hx hb dX3_worth_43 (lv_at hl 5 rfl) ?_
      obtain ⟨q4, hq4, hf⟩ := rf_bindq hf
      refine rf_Vv (As := [.int 4095, .int p3, .int p4]) (rest := []) (wr := [(a_this_refused, .inl (cA, 7, .inl f_this_refused))]) (wn := [(a_this, .inr (3, rf_o3 a_this_s a_this_image a_this_read a_this_mind a_this_letters a_this_row a_this_refused a_this_numbers a_this_cost q4)), (a_this_s, .inl (cA, 22, .inl f_this_s)), (a_this_row, .inl (cA, 12, .inl f_this_row)), (a_this_refused, .inl (cA, 7, .inl f_this_refused))]) ⟨hx, hb, hml, hown, hts⟩ hK hP hD hS hA hE (c_X3_finds l D cA ad a_this a_this_s a_this_image a_this_read a_this_mind a_this_letters a_this_row a_this_refused a_this_numbers a_this_cost H.size g_this f_this_s f_this_row 4095 p3 p4 q4 hq4) (cwV 3 hts gX3_worth_X3_finds rfl rfl rfl hv_X3_finds ⟨Nat.le_of_ble_eq_true rfl, Nat.le_of_ble_eq_true rfl⟩) [0, 1, 2] [3] [1, 2, 3, 0] rfl rfl rfl rfl (by decide) rfl rfl 3 0 rfl rfl rfl rfl rfl hl.1 (Nat.le_of_ble_eq_true rfl) dX3_worth_45 ⟨Nat.zero_le _, Nat.zero_le _⟩ (fun H locs hP hD hS => ?_)
      refine lv_aload_n hx hb dX3_worth_48 rfl (lv_at hl 1 rfl) ?_
      refine va_get (D := D) (ci := 3) (v := .int (q4 5)) (C := RX3) (T := TX3) (N := 16) hx hb hts jX3_worth_X3 hown hK hP 0 rfl rfl 14 (by decide) (hts _ kX3_worth_0) (fun _ h9 => h9) rfl dX3_worth_49 ?_
      refine lv_topi (fun v5 ev5 => ?_)
      have hf := rf_bindv hf ev5
      clear ev5
      refine lv_istore (lv' := [(6, .int v5), (5, .int q1), (0, .ref a_this), (1, .int p1), (2, .int p2), (3, .int p3), (4, .int p4)]) hx hb dX3_worth_52 hl (by decide) rfl (fun ls hl => ?_)
      refine lv_aload_n hx hb dX3_worth_54 rfl (lv_at hl 2 rfl) ?_
      refine lv_iload_n hx hb dX3_worth_55 rfl (lv_at hl 3 rfl) ?_
      refine lv_iload_n hx hb dX3_worth_56 rfl (lv_at hl 4 rfl) ?_
      obtain ⟨q6, hq6, hf⟩ := rf_bindq hf
      refine rf_Si (As := [.int p1, .int p2]) (rest := [.ref a_this]) (wr := [(a_this, .inr (3, rf_o3 a_this_s a_this_image a_this_read a_this_mind a_this_letters a_this_row a_this_refused a_this_numbers a_this_cost q4)), (a_this_s, .inl (cA, 22, .inl f_this_s)), (a_this_row, .inl (cA, 12, .inl f_this_row)), (a_this_refused, .inl (cA, 7, .inl f_this_refused))]) (wn := [(a_this, .inr (3, rf_o3 a_this_s a_this_image a_this_read a_this_mind a_this_letters a_this_row a_this_refused a_this_numbers a_this_cost q4)), (a_this_s, .inl (cA, 22, .inl f_this_s)), (a_this_row, .inl (cA, 12, .inl f_this_row)), (a_this_refused, .inl (cA, 7, .inl f_this_refused))]) ⟨hx, hb, hml, hown, hts⟩ hK hP hD hS hA hE (c_X3_monthsOf l D cA ad H.size p1 p2 q6 hq6) (va_cwS 2 hts gX3_worth_X3_monthsOf rfl rfl rfl hs_X3_monthsOf ⟨Nat.le_of_ble_eq_true rfl, Nat.le_of_ble_eq_true rfl⟩) [] [0, 1, 2, 3] [0, 1, 2, 3] rfl rfl rfl rfl (by decide) rfl rfl rfl rfl hl.1 (Nat.le_of_ble_eq_true rfl) dX3_worth_57 ⟨Nat.zero_le _, Nat.zero_le _⟩ (fun H locs hP hD hS => ?_)
      refine lv_iload_n hx hb dX3_worth_60 rfl (lv_at hl 5 rfl) ?_
      refine lv_iload hx hb dX3_worth_61 (lv_at hl 6 rfl) ?_
      obtain ⟨q7, hq7, hf⟩ := rf_bindq hf
      refine rf_Vv (As := [.int q6, .int p3, .int p4]) (rest := []) (wr := [(a_this_refused, .inl (cA, 7, .inl f_this_refused))]) (wn := [(a_this, .inr (3, rf_o3 a_this_s a_this_image a_this_read a_this_mind a_this_letters a_this_row a_this_refused a_this_numbers a_this_cost q7)), (a_this_s, .inl (cA, 22, .inl f_this_s)), (a_this_row, .inl (cA, 12, .inl f_this_row)), (a_this_refused, .inl (cA, 7, .inl f_this_refused))]) ⟨hx, hb, hml, hown, hts⟩ hK hP hD hS hA hE (c_X3_finds l D cA ad a_this a_this_s a_this_image a_this_read a_this_mind a_this_letters a_this_row a_this_refused a_this_numbers a_this_cost H.size q4 f_this_s f_this_row q6 p3 p4 q7 hq7) (cwV 3 hts gX3_worth_X3_finds rfl rfl rfl hv_X3_finds ⟨Nat.le_of_ble_eq_true rfl, Nat.le_of_ble_eq_true rfl⟩) [0, 1, 2] [3] [1, 2, 3, 0] rfl rfl rfl rfl (by decide) rfl rfl 3 0 rfl rfl rfl rfl rfl hl.1 (Nat.le_of_ble_eq_true rfl) dX3_worth_63 ⟨Nat.zero_le _, Nat.zero_le _⟩ (fun H locs hP hD hS => ?_)
      refine lv_aload_n hx hb dX3_worth_66 rfl (lv_at hl 2 rfl) ?_
      refine va_get (D := D) (ci := 3) (v := .int (q7 5)) (C := RX3) (T := TX3) (N := 16) hx hb hts jX3_worth_X3 hown hK hP 0 rfl rfl 14 (by decide) (hts _ kX3_worth_0) (fun _ h9 => h9) rfl dX3_worth_67 ?_
      refine lv_topi (fun v8 ev8 => ?_)
      have hf := rf_bindv hf ev8
      clear ev8
      refine lv_istore (lv' := [(7, .int v8), (6, .int v5), (5, .int q1), (0, .ref a_this), (1, .int p1), (2, .int p2), (3, .int p3), (4, .int p4)]) hx hb dX3_worth_70 hl (by decide) rfl (fun ls hl => ?_)
      refine lv_aload_n hx hb dX3_worth_72 rfl (lv_at hl 3 rfl) ?_
      refine lv_sipush (v := 4095) hx hb dX3_worth_73 (by decide) ?_
      refine lv_iload_n hx hb dX3_worth_76 rfl (lv_at hl 4 rfl) ?_
      refine lv_iload_n hx hb dX3_worth_77 rfl (lv_at hl 5 rfl) ?_
      obtain ⟨q9, hq9, hf⟩ := rf_bindq hf
      refine rf_Si (As := [.int p1, .int p2]) (rest := [.int 4095, .ref a_this]) (wr := [(a_this, .inr (3, rf_o3 a_this_s a_this_image a_this_read a_this_mind a_this_letters a_this_row a_this_refused a_this_numbers a_this_cost q7)), (a_this_s, .inl (cA, 22, .inl f_this_s)), (a_this_row, .inl (cA, 12, .inl f_this_row)), (a_this_refused, .inl (cA, 7, .inl f_this_refused))]) (wn := [(a_this, .inr (3, rf_o3 a_this_s a_this_image a_this_read a_this_mind a_this_letters a_this_row a_this_refused a_this_numbers a_this_cost q7)), (a_this_s, .inl (cA, 22, .inl f_this_s)), (a_this_row, .inl (cA, 12, .inl f_this_row)), (a_this_refused, .inl (cA, 7, .inl f_this_refused))]) ⟨hx, hb, hml, hown, hts⟩ hK hP hD hS hA hE (c_X3_monthsOf l D cA ad H.size p1 p2 q9 hq9) (va_cwS 2 hts gX3_worth_X3_monthsOf rfl rfl rfl hs_X3_monthsOf ⟨Nat.le_of_ble_eq_true rfl, Nat.le_of_ble_eq_true rfl⟩) [] [0, 1, 2, 3] [0, 1, 2, 3] rfl rfl rfl rfl (by decide) rfl rfl rfl rfl hl.1 (Nat.le_of_ble_eq_true rfl) dX3_worth_78 ⟨Nat.zero_le _, Nat.zero_le _⟩ (fun H locs hP hD hS => ?_)
      refine lv_iconst (v := (-1)) hx hb dX3_worth_81 (by decide) ?_
      refine lv_ixor hx hb dX3_worth_82 ?_
      refine lv_iand hx hb dX3_worth_83 ?_
      refine lv_iload_n hx hb dX3_worth_84 rfl (lv_at hl 6 rfl) ?_
      refine lv_iload hx hb dX3_worth_85 (lv_at hl 7 rfl) ?_
      obtain ⟨q10, hq10, hf⟩ := rf_bindq hf
      refine rf_Vv (As := [.int (4095 &&& (q9 ^^^ (-1))), .int p3, .int p4]) (rest := []) (wr := [(a_this_refused, .inl (cA, 7, .inl f_this_refused))]) (wn := [(a_this, .inr (3, rf_o3 a_this_s a_this_image a_this_read a_this_mind a_this_letters a_this_row a_this_refused a_this_numbers a_this_cost q10)), (a_this_s, .inl (cA, 22, .inl f_this_s)), (a_this_row, .inl (cA, 12, .inl f_this_row)), (a_this_refused, .inl (cA, 7, .inl f_this_refused))]) ⟨hx, hb, hml, hown, hts⟩ hK hP hD hS hA hE (c_X3_finds l D cA ad a_this a_this_s a_this_image a_this_read a_this_mind a_this_letters a_this_row a_this_refused a_this_numbers a_this_cost H.size q7 f_this_s f_this_row (4095 &&& (q9 ^^^ (-1))) p3 p4 q10 hq10) (cwV 3 hts gX3_worth_X3_finds rfl rfl rfl hv_X3_finds ⟨Nat.le_of_ble_eq_true rfl, Nat.le_of_ble_eq_true rfl⟩) [0, 1, 2] [3] [1, 2, 3, 0] rfl rfl rfl rfl (by decide) rfl rfl 3 0 rfl rfl rfl rfl rfl hl.1 (Nat.le_of_ble_eq_true rfl) dX3_worth_87 ⟨Nat.zero_le _, Nat.zero_le _⟩ (fun H locs hP hD hS => ?_)
      refine lv_iload hx hb dX3_worth_90 (lv_at hl 1 rfl) ?_
      refine lv_iload hx hb dX3_worth_92 (lv_at hl 0 rfl) ?_
      refine lv_isub hx hb dX3_worth_94 ?_
      refine lv_aload_n hx hb dX3_worth_95 rfl (lv_at hl 3 rfl) ?_
      refine va_get (D := D) (ci := 3) (v := .int (q10 5)) (C := RX3) (T := TX3) (N := 16) hx hb hts jX3_worth_X3 hown hK hP 0 rfl rfl 14 (by decide) (hts _ kX3_worth_0) (fun _ h9 => h9) rfl dX3_worth_96 ?_
      refine lv_isub hx hb dX3_worth_99 ?_
      obtain rfl := Option.some.inj hf
      exact W.iret (v := ((v5 - v8) - (q10 5))) hx hb hr (fun t ht hW => ⟨⟨((v5 - v8) - (q10 5)), (), rfl, rfl, rf_mk ht hP hD⟩, hS.F ht⟩) hS.2.2 dX3_worth_100
    · have hf := rf_ifn hf c3
      refine lv_aload_n hx hb dX3_worth_31 rfl (lv_at hl 1 rfl) ?_
      refine lv_iload hx hb dX3_worth_32 (lv_at hl 0 rfl) ?_
      obtain ⟨q11, hq11, hf⟩ := rf_bindq hf
      refine rf_Vi (As := [.int q1]) (rest := []) (wr := [(a_this_s, .inl (cA, 22, .inl f_this_s)), (a_this_row, .inl (cA, 12, .inl f_this_row))]) (wn := [(a_this, .inr (3, rf_o3 a_this_s a_this_image a_this_read a_this_mind a_this_letters a_this_row a_this_refused a_this_numbers a_this_cost g_this)), (a_this_s, .inl (cA, 22, .inl f_this_s)), (a_this_row, .inl (cA, 12, .inl f_this_row)), (a_this_refused, .inl (cA, 7, .inl q11.2))]) ⟨hx, hb, hml, hown, hts⟩ hK hP hD hS hA hE (c_X3_far l D cA ad a_this a_this_s a_this_image a_this_read a_this_mind a_this_letters a_this_row a_this_refused a_this_numbers a_this_cost H.size g_this f_this_refused q1 q11 hq11) (cwV 1 hts gX3_worth_X3_far rfl rfl rfl hv_X3_far ⟨Nat.le_of_ble_eq_true rfl, Nat.le_of_ble_eq_true rfl⟩) [0, 3] [1, 2] [2, 0, 1, 3] rfl rfl rfl rfl (by decide) rfl rfl 3 0 rfl rfl rfl rfl rfl hl.1 (Nat.le_of_ble_eq_true rfl) dX3_worth_34 ⟨Nat.zero_le _, Nat.zero_le _⟩ (fun H locs hP hD hS => ?_)
      obtain rfl := Option.some.inj hf
      exact W.iret (v := q11.1) hx hb hr (fun t ht hW => ⟨⟨q11.1, (), rfl, rfl, rf_mk ht hP hD⟩, hS.F ht⟩) hS.2.2 dX3_worth_37
  · have hf := rf_ifp hf c2
    refine lv_aload_n hx hb dX3_worth_15 rfl (lv_at hl 1 rfl) ?_
    obtain ⟨q12, hq12, hf⟩ := rf_bindq hf
    refine rf_Vi (As := []) (rest := []) (wr := [(a_this_s, .inl (cA, 22, .inl f_this_s)), (a_this_refused, .inl (cA, 7, .inl f_this_refused))]) (wn := [(a_this, .inr (3, rf_o3 a_this_s a_this_image a_this_read a_this_mind a_this_letters a_this_row a_this_refused a_this_numbers a_this_cost g_this)), (a_this_s, .inl (cA, 22, .inl f_this_s)), (a_this_row, .inl (cA, 12, .inl f_this_row)), (a_this_refused, .inl (cA, 7, .inl f_this_refused))]) ⟨hx, hb, hml, hown, hts⟩ hK hP hD hS hA hE (c_X3_areHeats l D cA ad a_this a_this_s a_this_image a_this_read a_this_mind a_this_letters a_this_row a_this_refused a_this_numbers a_this_cost H.size g_this f_this_row q12 hq12) (cwV 0 hts gX3_worth_X3_areHeats rfl rfl rfl hv_X3_areHeats ⟨Nat.le_of_ble_eq_true rfl, Nat.le_of_ble_eq_true rfl⟩) [0, 2] [1, 3] [2, 0, 3, 1] rfl rfl rfl rfl (by decide) rfl rfl 3 0 rfl rfl rfl rfl rfl hl.1 (Nat.le_of_ble_eq_true rfl) dX3_worth_16 ⟨Nat.zero_le _, Nat.zero_le _⟩ (fun H locs hP hD hS => ?_)
    refine lv_if_ne (tgt := 26) hx hb dX3_worth_19 (by decide) (fun c13 => ?_) (fun c13 => ?_)
    · have hf := rf_ifn hf c13
      refine lv_iload hx hb dX3_worth_26 (lv_at hl 0 rfl) ?_
      refine lv_if_eq (tgt := 38) hx hb dX3_worth_28 (by decide) (fun c14 => ?_) (fun c14 => ?_)
      · have hf := rf_ifp hf c14
        refine lv_aload_n hx hb dX3_worth_38 rfl (lv_at hl 1 rfl) ?_
        refine lv_sipush (v := 4095) hx hb dX3_worth_39 (by decide) ?_
        refine lv_iload_n hx hb dX3_worth_42 rfl (lv_at hl 4 rfl) ?_
        refine lv_iload hx hb dX3_worth_43 (lv_at hl 5 rfl) ?_
        obtain ⟨q15, hq15, hf⟩ := rf_bindq hf
        refine rf_Vv (As := [.int 4095, .int p3, .int p4]) (rest := []) (wr := [(a_this_refused, .inl (cA, 7, .inl f_this_refused))]) (wn := [(a_this, .inr (3, rf_o3 a_this_s a_this_image a_this_read a_this_mind a_this_letters a_this_row a_this_refused a_this_numbers a_this_cost q15)), (a_this_s, .inl (cA, 22, .inl f_this_s)), (a_this_row, .inl (cA, 12, .inl f_this_row)), (a_this_refused, .inl (cA, 7, .inl f_this_refused))]) ⟨hx, hb, hml, hown, hts⟩ hK hP hD hS hA hE (c_X3_finds l D cA ad a_this a_this_s a_this_image a_this_read a_this_mind a_this_letters a_this_row a_this_refused a_this_numbers a_this_cost H.size g_this f_this_s f_this_row 4095 p3 p4 q15 hq15) (cwV 3 hts gX3_worth_X3_finds rfl rfl rfl hv_X3_finds ⟨Nat.le_of_ble_eq_true rfl, Nat.le_of_ble_eq_true rfl⟩) [0, 1, 2] [3] [1, 2, 3, 0] rfl rfl rfl rfl (by decide) rfl rfl 3 0 rfl rfl rfl rfl rfl hl.1 (Nat.le_of_ble_eq_true rfl) dX3_worth_45 ⟨Nat.zero_le _, Nat.zero_le _⟩ (fun H locs hP hD hS => ?_)
        refine lv_aload_n hx hb dX3_worth_48 rfl (lv_at hl 1 rfl) ?_
        refine va_get (D := D) (ci := 3) (v := .int (q15 5)) (C := RX3) (T := TX3) (N := 16) hx hb hts jX3_worth_X3 hown hK hP 0 rfl rfl 14 (by decide) (hts _ kX3_worth_0) (fun _ h9 => h9) rfl dX3_worth_49 ?_
        refine lv_topi (fun v16 ev16 => ?_)
        have hf := rf_bindv hf ev16
        clear ev16
        refine lv_istore (lv' := [(6, .int v16), (5, .int q1), (0, .ref a_this), (1, .int p1), (2, .int p2), (3, .int p3), (4, .int p4)]) hx hb dX3_worth_52 hl (by decide) rfl (fun ls hl => ?_)
        refine lv_aload_n hx hb dX3_worth_54 rfl (lv_at hl 2 rfl) ?_
        refine lv_iload_n hx hb dX3_worth_55 rfl (lv_at hl 3 rfl) ?_
        refine lv_iload_n hx hb dX3_worth_56 rfl (lv_at hl 4 rfl) ?_
        obtain ⟨q17, hq17, hf⟩ := rf_bindq hf
        refine rf_Si (As := [.int p1, .int p2]) (rest := [.ref a_this]) (wr := [(a_this, .inr (3, rf_o3 a_this_s a_this_image a_this_read a_this_mind a_this_letters a_this_row a_this_refused a_this_numbers a_this_cost q15)), (a_this_s, .inl (cA, 22, .inl f_this_s)), (a_this_row, .inl (cA, 12, .inl f_this_row)), (a_this_refused, .inl (cA, 7, .inl f_this_refused))]) (wn := [(a_this, .inr (3, rf_o3 a_this_s a_this_image a_this_read a_this_mind a_this_letters a_this_row a_this_refused a_this_numbers a_this_cost q15)), (a_this_s, .inl (cA, 22, .inl f_this_s)), (a_this_row, .inl (cA, 12, .inl f_this_row)), (a_this_refused, .inl (cA, 7, .inl f_this_refused))]) ⟨hx, hb, hml, hown, hts⟩ hK hP hD hS hA hE (c_X3_monthsOf l D cA ad H.size p1 p2 q17 hq17) (va_cwS 2 hts gX3_worth_X3_monthsOf rfl rfl rfl hs_X3_monthsOf ⟨Nat.le_of_ble_eq_true rfl, Nat.le_of_ble_eq_true rfl⟩) [] [0, 1, 2, 3] [0, 1, 2, 3] rfl rfl rfl rfl (by decide) rfl rfl rfl rfl hl.1 (Nat.le_of_ble_eq_true rfl) dX3_worth_57 ⟨Nat.zero_le _, Nat.zero_le _⟩ (fun H locs hP hD hS => ?_)
        refine lv_iload_n hx hb dX3_worth_60 rfl (lv_at hl 5 rfl) ?_
        refine lv_iload hx hb dX3_worth_61 (lv_at hl 6 rfl) ?_
        obtain ⟨q18, hq18, hf⟩ := rf_bindq hf
        refine rf_Vv (As := [.int q17, .int p3, .int p4]) (rest := []) (wr := [(a_this_refused, .inl (cA, 7, .inl f_this_refused))]) (wn := [(a_this, .inr (3, rf_o3 a_this_s a_this_image a_this_read a_this_mind a_this_letters a_this_row a_this_refused a_this_numbers a_this_cost q18)), (a_this_s, .inl (cA, 22, .inl f_this_s)), (a_this_row, .inl (cA, 12, .inl f_this_row)), (a_this_refused, .inl (cA, 7, .inl f_this_refused))]) ⟨hx, hb, hml, hown, hts⟩ hK hP hD hS hA hE (c_X3_finds l D cA ad a_this a_this_s a_this_image a_this_read a_this_mind a_this_letters a_this_row a_this_refused a_this_numbers a_this_cost H.size q15 f_this_s f_this_row q17 p3 p4 q18 hq18) (cwV 3 hts gX3_worth_X3_finds rfl rfl rfl hv_X3_finds ⟨Nat.le_of_ble_eq_true rfl, Nat.le_of_ble_eq_true rfl⟩) [0, 1, 2] [3] [1, 2, 3, 0] rfl rfl rfl rfl (by decide) rfl rfl 3 0 rfl rfl rfl rfl rfl hl.1 (Nat.le_of_ble_eq_true rfl) dX3_worth_63 ⟨Nat.zero_le _, Nat.zero_le _⟩ (fun H locs hP hD hS => ?_)
        refine lv_aload_n hx hb dX3_worth_66 rfl (lv_at hl 2 rfl) ?_
        refine va_get (D := D) (ci := 3) (v := .int (q18 5)) (C := RX3) (T := TX3) (N := 16) hx hb hts jX3_worth_X3 hown hK hP 0 rfl rfl 14 (by decide) (hts _ kX3_worth_0) (fun _ h9 => h9) rfl dX3_worth_67 ?_
        refine lv_topi (fun v19 ev19 => ?_)
        have hf := rf_bindv hf ev19
        clear ev19
        refine lv_istore (lv' := [(7, .int v19), (6, .int v16), (5, .int q1), (0, .ref a_this), (1, .int p1), (2, .int p2), (3, .int p3), (4, .int p4)]) hx hb dX3_worth_70 hl (by decide) rfl (fun ls hl => ?_)
        refine lv_aload_n hx hb dX3_worth_72 rfl (lv_at hl 3 rfl) ?_
        refine lv_sipush (v := 4095) hx hb dX3_worth_73 (by decide) ?_
        refine lv_iload_n hx hb dX3_worth_76 rfl (lv_at hl 4 rfl) ?_
        refine lv_iload_n hx hb dX3_worth_77 rfl (lv_at hl 5 rfl) ?_
        obtain ⟨q20, hq20, hf⟩ := rf_bindq hf
        refine rf_Si (As := [.int p1, .int p2]) (rest := [.int 4095, .ref a_this]) (wr := [(a_this, .inr (3, rf_o3 a_this_s a_this_image a_this_read a_this_mind a_this_letters a_this_row a_this_refused a_this_numbers a_this_cost q18)), (a_this_s, .inl (cA, 22, .inl f_this_s)), (a_this_row, .inl (cA, 12, .inl f_this_row)), (a_this_refused, .inl (cA, 7, .inl f_this_refused))]) (wn := [(a_this, .inr (3, rf_o3 a_this_s a_this_image a_this_read a_this_mind a_this_letters a_this_row a_this_refused a_this_numbers a_this_cost q18)), (a_this_s, .inl (cA, 22, .inl f_this_s)), (a_this_row, .inl (cA, 12, .inl f_this_row)), (a_this_refused, .inl (cA, 7, .inl f_this_refused))]) ⟨hx, hb, hml, hown, hts⟩ hK hP hD hS hA hE (c_X3_monthsOf l D cA ad H.size p1 p2 q20 hq20) (va_cwS 2 hts gX3_worth_X3_monthsOf rfl rfl rfl hs_X3_monthsOf ⟨Nat.le_of_ble_eq_true rfl, Nat.le_of_ble_eq_true rfl⟩) [] [0, 1, 2, 3] [0, 1, 2, 3] rfl rfl rfl rfl (by decide) rfl rfl rfl rfl hl.1 (Nat.le_of_ble_eq_true rfl) dX3_worth_78 ⟨Nat.zero_le _, Nat.zero_le _⟩ (fun H locs hP hD hS => ?_)
        refine lv_iconst (v := (-1)) hx hb dX3_worth_81 (by decide) ?_
        refine lv_ixor hx hb dX3_worth_82 ?_
        refine lv_iand hx hb dX3_worth_83 ?_
        refine lv_iload_n hx hb dX3_worth_84 rfl (lv_at hl 6 rfl) ?_
        refine lv_iload hx hb dX3_worth_85 (lv_at hl 7 rfl) ?_
        obtain ⟨q21, hq21, hf⟩ := rf_bindq hf
        refine rf_Vv (As := [.int (4095 &&& (q20 ^^^ (-1))), .int p3, .int p4]) (rest := []) (wr := [(a_this_refused, .inl (cA, 7, .inl f_this_refused))]) (wn := [(a_this, .inr (3, rf_o3 a_this_s a_this_image a_this_read a_this_mind a_this_letters a_this_row a_this_refused a_this_numbers a_this_cost q21)), (a_this_s, .inl (cA, 22, .inl f_this_s)), (a_this_row, .inl (cA, 12, .inl f_this_row)), (a_this_refused, .inl (cA, 7, .inl f_this_refused))]) ⟨hx, hb, hml, hown, hts⟩ hK hP hD hS hA hE (c_X3_finds l D cA ad a_this a_this_s a_this_image a_this_read a_this_mind a_this_letters a_this_row a_this_refused a_this_numbers a_this_cost H.size q18 f_this_s f_this_row (4095 &&& (q20 ^^^ (-1))) p3 p4 q21 hq21) (cwV 3 hts gX3_worth_X3_finds rfl rfl rfl hv_X3_finds ⟨Nat.le_of_ble_eq_true rfl, Nat.le_of_ble_eq_true rfl⟩) [0, 1, 2] [3] [1, 2, 3, 0] rfl rfl rfl rfl (by decide) rfl rfl 3 0 rfl rfl rfl rfl rfl hl.1 (Nat.le_of_ble_eq_true rfl) dX3_worth_87 ⟨Nat.zero_le _, Nat.zero_le _⟩ (fun H locs hP hD hS => ?_)
        refine lv_iload hx hb dX3_worth_90 (lv_at hl 1 rfl) ?_
        refine lv_iload hx hb dX3_worth_92 (lv_at hl 0 rfl) ?_
        refine lv_isub hx hb dX3_worth_94 ?_
        refine lv_aload_n hx hb dX3_worth_95 rfl (lv_at hl 3 rfl) ?_
        refine va_get (D := D) (ci := 3) (v := .int (q21 5)) (C := RX3) (T := TX3) (N := 16) hx hb hts jX3_worth_X3 hown hK hP 0 rfl rfl 14 (by decide) (hts _ kX3_worth_0) (fun _ h9 => h9) rfl dX3_worth_96 ?_
        refine lv_isub hx hb dX3_worth_99 ?_
        obtain rfl := Option.some.inj hf
        exact W.iret (v := ((v16 - v19) - (q21 5))) hx hb hr (fun t ht hW => ⟨⟨((v16 - v19) - (q21 5)), (), rfl, rfl, rf_mk ht hP hD⟩, hS.F ht⟩) hS.2.2 dX3_worth_100
      · have hf := rf_ifn hf c14
        refine lv_aload_n hx hb dX3_worth_31 rfl (lv_at hl 1 rfl) ?_
        refine lv_iload hx hb dX3_worth_32 (lv_at hl 0 rfl) ?_
        obtain ⟨q22, hq22, hf⟩ := rf_bindq hf
        refine rf_Vi (As := [.int q1]) (rest := []) (wr := [(a_this_s, .inl (cA, 22, .inl f_this_s)), (a_this_row, .inl (cA, 12, .inl f_this_row))]) (wn := [(a_this, .inr (3, rf_o3 a_this_s a_this_image a_this_read a_this_mind a_this_letters a_this_row a_this_refused a_this_numbers a_this_cost g_this)), (a_this_s, .inl (cA, 22, .inl f_this_s)), (a_this_row, .inl (cA, 12, .inl f_this_row)), (a_this_refused, .inl (cA, 7, .inl q22.2))]) ⟨hx, hb, hml, hown, hts⟩ hK hP hD hS hA hE (c_X3_far l D cA ad a_this a_this_s a_this_image a_this_read a_this_mind a_this_letters a_this_row a_this_refused a_this_numbers a_this_cost H.size g_this f_this_refused q1 q22 hq22) (cwV 1 hts gX3_worth_X3_far rfl rfl rfl hv_X3_far ⟨Nat.le_of_ble_eq_true rfl, Nat.le_of_ble_eq_true rfl⟩) [0, 3] [1, 2] [2, 0, 1, 3] rfl rfl rfl rfl (by decide) rfl rfl 3 0 rfl rfl rfl rfl rfl hl.1 (Nat.le_of_ble_eq_true rfl) dX3_worth_34 ⟨Nat.zero_le _, Nat.zero_le _⟩ (fun H locs hP hD hS => ?_)
        obtain rfl := Option.some.inj hf
        exact W.iret (v := q22.1) hx hb hr (fun t ht hW => ⟨⟨q22.1, (), rfl, rfl, rf_mk ht hP hD⟩, hS.F ht⟩) hS.2.2 dX3_worth_37
    · have hf := rf_ifp hf c13
      refine lv_bipush (v := (-3)) hx hb dX3_worth_22 (by decide) ?_
      refine lv_istore (lv' := [(5, .int (-3)), (0, .ref a_this), (1, .int p1), (2, .int p2), (3, .int p3), (4, .int p4)]) hx hb dX3_worth_24 hl (by decide) rfl (fun ls hl => ?_)
      refine lv_iload hx hb dX3_worth_26 (lv_at hl 0 rfl) ?_
      refine lv_if_eq (tgt := 38) hx hb dX3_worth_28 (by decide) (fun c23 => ?_) (fun c23 => ?_)
      · exact absurd c23 (by decide)
      · refine lv_aload_n hx hb dX3_worth_31 rfl (lv_at hl 1 rfl) ?_
        refine lv_iload hx hb dX3_worth_32 (lv_at hl 0 rfl) ?_
        obtain ⟨q24, hq24, hf⟩ := rf_bindq hf
        refine rf_Vi (As := [.int (-3)]) (rest := []) (wr := [(a_this_s, .inl (cA, 22, .inl f_this_s)), (a_this_row, .inl (cA, 12, .inl f_this_row))]) (wn := [(a_this, .inr (3, rf_o3 a_this_s a_this_image a_this_read a_this_mind a_this_letters a_this_row a_this_refused a_this_numbers a_this_cost g_this)), (a_this_s, .inl (cA, 22, .inl f_this_s)), (a_this_row, .inl (cA, 12, .inl f_this_row)), (a_this_refused, .inl (cA, 7, .inl q24.2))]) ⟨hx, hb, hml, hown, hts⟩ hK hP hD hS hA hE (c_X3_far l D cA ad a_this a_this_s a_this_image a_this_read a_this_mind a_this_letters a_this_row a_this_refused a_this_numbers a_this_cost H.size g_this f_this_refused (-3) q24 hq24) (cwV 1 hts gX3_worth_X3_far rfl rfl rfl hv_X3_far ⟨Nat.le_of_ble_eq_true rfl, Nat.le_of_ble_eq_true rfl⟩) [0, 3] [1, 2] [2, 0, 1, 3] rfl rfl rfl rfl (by decide) rfl rfl 3 0 rfl rfl rfl rfl rfl hl.1 (Nat.le_of_ble_eq_true rfl) dX3_worth_34 ⟨Nat.zero_le _, Nat.zero_le _⟩ (fun H locs hP hD hS => ?_)
        obtain rfl := Option.some.inj hf
        exact W.iret (v := q24.1) hx hb hr (fun t ht hW => ⟨⟨q24.1, (), rfl, rfl, rf_mk ht hP hD⟩, hS.F ht⟩) hS.2.2 dX3_worth_37
theorem kX3_goesOverAll_0 : (.fieldLink RX3 9 "RingAndFingerModel" "s" "[I" : Cond) ∈ wsX3_goesOverAll := by decide +kernel
theorem jX3_goesOverAll_X3 : ∀ w ∈ u_ws RX3 TX3 16, w ∈ wsX3_goesOverAll := by decide +kernel
set_option maxHeartbeats 8000000 in
set_option maxRecDepth 100000 in
theorem c_X3_goesOverAll (l : Launch) (D : va_G) (cA : ClassId) (ad : Nat → Nat) (a_this a_this_s a_this_image a_this_read a_this_mind a_this_letters a_this_row a_this_refused a_this_numbers a_this_cost : Nat) (sz : Nat) (g_this f_this_s : Nat → Int32) (p1 p2 : Int32) (q : Int32) (hf : f_X3_goesOverAll g_this f_this_s p1 p2 = some q) : Met l yX3_goesOverAll wsX3_goesOverAll ({ frames := 3, cells := 0, slots := 0, locals := 71 } : Room) (va_Pc [.ref a_this, .int p1, .int p2] (rf_Pre D cA ad [(a_this, .inr (3, rf_o3 a_this_s a_this_image a_this_read a_this_mind a_this_letters a_this_row a_this_refused a_this_numbers a_this_cost g_this)), (a_this_s, .inl (cA, 22, .inl f_this_s))] sz)) (va_Qi (fun (r : Int32) (_ : Unit) => r = q) (fun _ t => rf_Post D (va_A [(a_this, .inr (3, rf_o3 a_this_s a_this_image a_this_read a_this_mind a_this_letters a_this_row a_this_refused a_this_numbers a_this_cost g_this)), (a_this_s, .inl (cA, 22, .inl f_this_s))] sz) [(a_this, .inr (3, rf_o3 a_this_s a_this_image a_this_read a_this_mind a_this_letters a_this_row a_this_refused a_this_numbers a_this_cost g_this)), (a_this_s, .inl (cA, 22, .inl f_this_s))] t) (va_A [(a_this, .inr (3, rf_o3 a_this_s a_this_image a_this_read a_this_mind a_this_letters a_this_row a_this_refused a_this_numbers a_this_cost g_this)), (a_this_s, .inl (cA, 22, .inl f_this_s))] sz)) 0 0 (va_A [(a_this, .inr (3, rf_o3 a_this_s a_this_image a_this_read a_this_mind a_this_letters a_this_row a_this_refused a_this_numbers a_this_cost g_this)), (a_this_s, .inl (cA, 22, .inl f_this_s))] sz) := by
  refine Met.ofW (cc := cX3_goesOverAll) (maxL := 4) (ret := (some .boolean)) (by decide) rfl ?_
  intro p e s m args below meth c s₁ B hml hv
  obtain ⟨rfl, hsz, hP, hK, hD0, hE⟩ := hv
  have hx := B.exec
  have hb := B.bytes
  have hr := B.returns
  have hts := atoms_spec (ws := wsX3_goesOverAll) B.pre
  have hown : s.vm.findClass RX3 = some m.cls := findClass_of_methodNamed B.named
  have hlocks := B.notSynchronized
  subst hsz
  have hD := hD0.self (sz := s.heap.size)
  generalize hAe : va_A [(a_this, .inr (3, rf_o3 a_this_s a_this_image a_this_read a_this_mind a_this_letters a_this_row a_this_refused a_this_numbers a_this_cost g_this)), (a_this_s, .inl (cA, 22, .inl f_this_s))] s.heap.size = A at hD hE ⊢
  have hA : ∀ q : Nat, s.heap.size ≤ q → A q := fun q h => by rw [← hAe]; exact Or.inr h
  have hS : va_S A s.heap s.heap [] := va_S.rf
  have hP : va_P D vwCl [(a_this, .inr (3, rf_o3 a_this_s a_this_image a_this_read a_this_mind a_this_letters a_this_row a_this_refused a_this_numbers a_this_cost g_this)), (a_this_s, .inl (cA, 22, .inl f_this_s))] s.heap := hP
  have hl := lv_entry ([.ref a_this, .int p1, .int p2]) (n := 4) (Nat.le_of_ble_eq_true rfl)
  rw [lg_entry_eq]
  generalize (lg_sl ([.ref a_this, .int p1, .int p2]) ++ List.replicate (4 - (lg_sl ([.ref a_this, .int p1, .int p2])).length) Slot.unset).toArray = ls at hl ⊢
  have hl : lv_has ls 4 [(0, .ref a_this), (1, .int p1), (2, .int p2)] := hl
  have key_2 : ∀ (n : Nat) (x3 : Int32) (ql : (Int32) ⊕ (Int32)), f_X3_goesOverAll_L2 g_this f_this_s p1 p2 n x3 = some ql → ∀ (H : Heap) (locs : List Loc) (ls : Array Slot), va_P D vwCl [(a_this, .inr (3, rf_o3 a_this_s a_this_image a_this_read a_this_mind a_this_letters a_this_row a_this_refused a_this_numbers a_this_cost g_this)), (a_this_s, .inl (cA, 22, .inl f_this_s))] H → va_D A [(a_this, .inr (3, rf_o3 a_this_s a_this_image a_this_read a_this_mind a_this_letters a_this_row a_this_refused a_this_numbers a_this_cost g_this)), (a_this_s, .inl (cA, 22, .inl f_this_s))] → va_S A s.heap H locs → lv_has ls 4 [(0, .ref a_this), (1, .int p1), (2, .int p2), (3, .int x3)] → (∀ r : Int32, ql = .inl r → r = q) → (∀ (x : Int32), ql = .inr x → ∀ (H : Heap) (locs : List Loc) (ls : Array Slot), va_P D vwCl [(a_this, .inr (3, rf_o3 a_this_s a_this_image a_this_read a_this_mind a_this_letters a_this_row a_this_refused a_this_numbers a_this_cost g_this)), (a_this_s, .inl (cA, 22, .inl f_this_s))] H → va_D A [(a_this, .inr (3, rf_o3 a_this_s a_this_image a_this_read a_this_mind a_this_letters a_this_row a_this_refused a_this_numbers a_this_cost g_this)), (a_this_s, .inl (cA, 22, .inl f_this_s))] → va_S A s.heap H locs → lv_has ls 4 [(0, .ref a_this), (1, .int p1), (2, .int p2), (3, .int x)] → W p l e (headSpec wsX3_goesOverAll ({ frames := 3, cells := 0, slots := 0, locals := 71 } : Room)).room s m ([.ref a_this, .int p1, .int p2] : List Value).toArray below meth c H locs 0 0 (MQ below (va_Qi (fun (r : Int32) (_ : Unit) => r = q) (fun _ t => rf_Post D A [(a_this, .inr (3, rf_o3 a_this_s a_this_image a_this_read a_this_mind a_this_letters a_this_row a_this_refused a_this_numbers a_this_cost g_this)), (a_this_s, .inl (cA, 22, .inl f_this_s))] t) A) ([.ref a_this, .int p1, .int p2] : List Value).toArray s 0 0 A) (F0 m 54 ls [])) → W p l e (headSpec wsX3_goesOverAll ({ frames := 3, cells := 0, slots := 0, locals := 71 } : Room)).room s m ([.ref a_this, .int p1, .int p2] : List Value).toArray below meth c H locs 0 0 (MQ below (va_Qi (fun (r : Int32) (_ : Unit) => r = q) (fun _ t => rf_Post D A [(a_this, .inr (3, rf_o3 a_this_s a_this_image a_this_read a_this_mind a_this_letters a_this_row a_this_refused a_this_numbers a_this_cost g_this)), (a_this_s, .inl (cA, 22, .inl f_this_s))] t) A) ([.ref a_this, .int p1, .int p2] : List Value).toArray s 0 0 A) (F0 m 2 ls []) := by
    intro n
    induction n with
    | zero =>
      intro x3 ql hf H locs ls hP hD hS hl hret kx
      exact absurd (show (none : Option ((Int32) ⊕ (Int32))) = some ql from hf) (fun h9 => by cases h9)
    | succ n ih =>
      intro x3 ql hf H locs ls hP hD hS hl hret kx
      rw [f_X3_goesOverAll_L2] at hf
      refine lv_iload_n hx hb dX3_goesOverAll_2 rfl (lv_at hl 3 rfl) ?_
      refine lv_aload_n hx hb dX3_goesOverAll_3 rfl (lv_at hl 0 rfl) ?_
      refine va_get (D := D) (ci := 3) (v := .ref a_this_s) (C := RX3) (T := TX3) (N := 16) hx hb hts jX3_goesOverAll_X3 hown hK hP 0 rfl rfl 0 (by decide) (hts _ kX3_goesOverAll_0) (fun _ h9 => h9) rfl dX3_goesOverAll_4 ?_
      refine lv_iconst (v := 0) hx hb dX3_goesOverAll_7 (by decide) ?_
      refine rf_ialoadk hx hb hK hP 1 0 rfl rfl (k := 0) (by decide) (by decide) (by decide) dX3_goesOverAll_8 ?_
      refine lv_icmp_ge (tgt := 54) hx hb dX3_goesOverAll_9 (by decide) (fun c1 => ?_) (fun c1 => ?_)
      · have hf := rf_ifp hf c1
        exact kx _ (Option.some.inj hf).symm _ _ _ hP hD hS (lv_sub hl [0, 1, 2, 3] rfl)
      · have hf := rf_ifn hf c1
        refine lv_aload_n hx hb dX3_goesOverAll_12 rfl (lv_at hl 0 rfl) ?_
        refine lv_iload_n hx hb dX3_goesOverAll_13 rfl (lv_at hl 3 rfl) ?_
        refine lv_iload_n hx hb dX3_goesOverAll_14 rfl (lv_at hl 2 rfl) ?_
        refine lv_aload_n hx hb dX3_goesOverAll_15 rfl (lv_at hl 0 rfl) ?_
        refine va_get (D := D) (ci := 3) (v := .ref a_this_s) (C := RX3) (T := TX3) (N := 16) hx hb hts jX3_goesOverAll_X3 hown hK hP 0 rfl rfl 0 (by decide) (hts _ kX3_goesOverAll_0) (fun _ h9 => h9) rfl dX3_goesOverAll_16 ?_
        refine lv_iconst (v := 5) hx hb dX3_goesOverAll_19 (by decide) ?_
        refine rf_ialoadk hx hb hK hP 1 0 rfl rfl (k := 5) (by decide) (by decide) (by decide) dX3_goesOverAll_20 ?_
        refine lv_aload_n hx hb dX3_goesOverAll_21 rfl (lv_at hl 0 rfl) ?_
        refine va_get (D := D) (ci := 3) (v := .ref a_this_s) (C := RX3) (T := TX3) (N := 16) hx hb hts jX3_goesOverAll_X3 hown hK hP 0 rfl rfl 0 (by decide) (hts _ kX3_goesOverAll_0) (fun _ h9 => h9) rfl dX3_goesOverAll_22 ?_
        refine lv_bipush (v := 7) hx hb dX3_goesOverAll_25 (by decide) ?_
        refine rf_ialoadk hx hb hK hP 1 0 rfl rfl (k := 7) (by decide) (by decide) (by decide) dX3_goesOverAll_27 ?_
        obtain ⟨q2, hq2, hf⟩ := rf_bindq hf
        refine rf_Vi (As := [.int x3, .int p2, .int (f_this_s 5), .int (f_this_s 7)]) (rest := []) (wr := []) (wn := [(a_this, .inr (3, rf_o3 a_this_s a_this_image a_this_read a_this_mind a_this_letters a_this_row a_this_refused a_this_numbers a_this_cost g_this)), (a_this_s, .inl (cA, 22, .inl f_this_s))]) ⟨hx, hb, hml, hown, hts⟩ hK hP hD hS hA hE (c_X3_partBy l D cA ad a_this a_this_s a_this_image a_this_read a_this_mind a_this_letters a_this_row a_this_refused a_this_numbers a_this_cost H.size g_this f_this_s x3 p2 (f_this_s 5) (f_this_s 7) q2 hq2) (cwV 4 hts gX3_goesOverAll_X3_partBy rfl rfl rfl hv_X3_partBy ⟨Nat.le_of_ble_eq_true rfl, Nat.le_of_ble_eq_true rfl⟩) [0, 1] [] [0, 1] rfl rfl rfl rfl (by decide) rfl rfl 3 0 rfl rfl rfl rfl rfl hl.1 (Nat.le_of_ble_eq_true rfl) dX3_goesOverAll_28 ⟨Nat.zero_le _, Nat.zero_le _⟩ (fun H locs hP hD hS => ?_)
        refine lv_aload_n hx hb dX3_goesOverAll_31 rfl (lv_at hl 0 rfl) ?_
        refine va_get (D := D) (ci := 3) (v := .ref a_this_s) (C := RX3) (T := TX3) (N := 16) hx hb hts jX3_goesOverAll_X3 hown hK hP 0 rfl rfl 0 (by decide) (hts _ kX3_goesOverAll_0) (fun _ h9 => h9) rfl dX3_goesOverAll_32 ?_
        refine lv_iconst (v := 1) hx hb dX3_goesOverAll_35 (by decide) ?_
        refine rf_ialoadk hx hb hK hP 1 0 rfl rfl (k := 1) (by decide) (by decide) (by decide) dX3_goesOverAll_36 ?_
        refine lv_aload_n hx hb dX3_goesOverAll_37 rfl (lv_at hl 0 rfl) ?_
        refine lv_iload_n hx hb dX3_goesOverAll_38 rfl (lv_at hl 1 rfl) ?_
        obtain ⟨q3, hq3, hf⟩ := rf_bindq hf
        refine rf_Vi (As := [.int p1]) (rest := [.int (f_this_s 1), .int q2]) (wr := []) (wn := [(a_this, .inr (3, rf_o3 a_this_s a_this_image a_this_read a_this_mind a_this_letters a_this_row a_this_refused a_this_numbers a_this_cost g_this)), (a_this_s, .inl (cA, 22, .inl f_this_s))]) ⟨hx, hb, hml, hown, hts⟩ hK hP hD hS hA hE (c_X3_allows l D cA ad a_this a_this_s a_this_image a_this_read a_this_mind a_this_letters a_this_row a_this_refused a_this_numbers a_this_cost H.size g_this f_this_s p1 q3 hq3) (cwV 1 hts gX3_goesOverAll_X3_allows rfl rfl rfl hv_X3_allows ⟨Nat.le_of_ble_eq_true rfl, Nat.le_of_ble_eq_true rfl⟩) [0, 1] [] [0, 1] rfl rfl rfl rfl (by decide) rfl rfl 3 0 rfl rfl rfl rfl rfl hl.1 (Nat.le_of_ble_eq_true rfl) dX3_goesOverAll_39 ⟨Nat.zero_le _, Nat.zero_le _⟩ (fun H locs hP hD hS => ?_)
        refine lv_iadd hx hb dX3_goesOverAll_42 ?_
        refine lv_icmp_le (tgt := 48) hx hb dX3_goesOverAll_43 (by decide) (fun c4 => ?_) (fun c4 => ?_)
        · have hf := rf_ifp hf c4
          obtain ⟨v5, ev5⟩ : ∃ y : Int32, y = x3 + 1 := ⟨_, rfl⟩
          have hf := rf_bindv hf ev5
          refine lv_iinc (v := v5) (lv' := [(3, .int v5), (0, .ref a_this), (1, .int p1), (2, .int p2)]) hx hb dX3_goesOverAll_48 hl (k := 3) rfl (by rw [ev5]; rfl) (by decide) rfl (fun ls hl => ?_)
          clear ev5
          refine lv_goto (tgt := 2) hx hb dX3_goesOverAll_51 (by decide) ?_
          exact ih v5 ql hf _ _ _ hP hD hS (lv_sub hl [1, 2, 3, 0] rfl) hret kx
        · have hf := rf_ifn hf c4
          refine lv_iconst (v := 0) hx hb dX3_goesOverAll_46 (by decide) ?_
          obtain rfl := hret _ (Option.some.inj hf).symm
          exact W.zret (v := 0) hx hb hr rfl (fun t ht hW => ⟨⟨0, (), rfl, rfl, rf_mk ht hP hD⟩, hS.F ht⟩) hS.2.2 dX3_goesOverAll_47
  rw [f_X3_goesOverAll] at hf
  refine lv_iconst (v := 0) hx hb dX3_goesOverAll_0 (by decide) ?_
  refine lv_istore_n (lv' := [(3, .int 0), (0, .ref a_this), (1, .int p1), (2, .int p2)]) hx hb dX3_goesOverAll_1 rfl hl (by decide) rfl (fun ls hl => ?_)
  obtain ⟨q6, hq6, hf⟩ := rf_bindq hf
  refine key_2 rf_fu 0 q6 hq6 _ _ _ hP hD hS (lv_sub hl [1, 2, 3, 0] rfl) (fun r h9 => ?_) (fun x7 h9 H locs ls hP hD hS hl => ?_)
  · subst h9
    exact Option.some.inj hf
  · subst h9
    have hf := rf_sumr hf
    refine lv_iconst (v := 1) hx hb dX3_goesOverAll_54 (by decide) ?_
    obtain rfl := Option.some.inj hf
    exact W.zret (v := 1) hx hb hr rfl (fun t ht hW => ⟨⟨1, (), rfl, rfl, rf_mk ht hP hD⟩, hS.F ht⟩) hS.2.2 dX3_goesOverAll_55

set_option maxHeartbeats 8000000 in
set_option maxRecDepth 100000 in
theorem c_X3_went (l : Launch) (D : va_G) (cA : ClassId) (ad : Nat → Nat) (a_this a_this_s a_this_image a_this_read a_this_mind a_this_letters a_this_row a_this_refused a_this_numbers a_this_cost : Nat) (sz : Nat) (g_this f_this_s f_this_refused : Nat → Int32) (p1 p2 : Int32) (q : Int32 × (Nat → Int32)) (hf : f_X3_went g_this f_this_s f_this_refused p1 p2 = some q) : Met l yX3_went wsX3_went ({ frames := 4, cells := 0, slots := 0, locals := 94 } : Room) (va_Pc [.ref a_this, .int p1, .int p2] (rf_Pre D cA ad [(a_this, .inr (3, rf_o3 a_this_s a_this_image a_this_read a_this_mind a_this_letters a_this_row a_this_refused a_this_numbers a_this_cost g_this)), (a_this_s, .inl (cA, 22, .inl f_this_s)), (a_this_refused, .inl (cA, 7, .inl f_this_refused))] sz)) (va_Qi (fun (r : Int32) (_ : Unit) => r = q.1) (fun _ t => rf_Post D (va_A [(a_this, .inr (3, rf_o3 a_this_s a_this_image a_this_read a_this_mind a_this_letters a_this_row a_this_refused a_this_numbers a_this_cost g_this)), (a_this_s, .inl (cA, 22, .inl f_this_s)), (a_this_refused, .inl (cA, 7, .inl f_this_refused))] sz) [(a_this, .inr (3, rf_o3 a_this_s a_this_image a_this_read a_this_mind a_this_letters a_this_row a_this_refused a_this_numbers a_this_cost g_this)), (a_this_s, .inl (cA, 22, .inl f_this_s)), (a_this_refused, .inl (cA, 7, .inl q.2))] t) (va_A [(a_this, .inr (3, rf_o3 a_this_s a_this_image a_this_read a_this_mind a_this_letters a_this_row a_this_refused a_this_numbers a_this_cost g_this)), (a_this_s, .inl (cA, 22, .inl f_this_s)), (a_this_refused, .inl (cA, 7, .inl f_this_refused))] sz)) 0 0 (va_A [(a_this, .inr (3, rf_o3 a_this_s a_this_image a_this_read a_this_mind a_this_letters a_this_row a_this_refused a_this_numbers a_this_cost g_this)), (a_this_s, .inl (cA, 22, .inl f_this_s)), (a_this_refused, .inl (cA, 7, .inl f_this_refused))] sz) := by
  refine Met.ofW (cc := cX3_went) (maxL := 6) (ret := (some .int)) (by decide) rfl ?_
  intro p e s m args below meth c s₁ B hml hv
  obtain ⟨rfl, hsz, hP, hK, hD0, hE⟩ := hv
  have hx := B.exec
  have hb := B.bytes
  have hr := B.returns
  have hts := atoms_spec (ws := wsX3_went) B.pre
  have hown : s.vm.findClass RX3 = some m.cls := findClass_of_methodNamed B.named
  have hlocks := B.notSynchronized
  subst hsz
  have hD := hD0.self (sz := s.heap.size)
  generalize hAe : va_A [(a_this, .inr (3, rf_o3 a_this_s a_this_image a_this_read a_this_mind a_this_letters a_this_row a_this_refused a_this_numbers a_this_cost g_this)), (a_this_s, .inl (cA, 22, .inl f_this_s)), (a_this_refused, .inl (cA, 7, .inl f_this_refused))] s.heap.size = A at hD hE ⊢
  have hA : ∀ q : Nat, s.heap.size ≤ q → A q := fun q h => by rw [← hAe]; exact Or.inr h
  have hS : va_S A s.heap s.heap [] := va_S.rf
  have hP : va_P D vwCl [(a_this, .inr (3, rf_o3 a_this_s a_this_image a_this_read a_this_mind a_this_letters a_this_row a_this_refused a_this_numbers a_this_cost g_this)), (a_this_s, .inl (cA, 22, .inl f_this_s)), (a_this_refused, .inl (cA, 7, .inl f_this_refused))] s.heap := hP
  have hl := lv_entry ([.ref a_this, .int p1, .int p2]) (n := 6) (Nat.le_of_ble_eq_true rfl)
  rw [lg_entry_eq]
  generalize (lg_sl ([.ref a_this, .int p1, .int p2]) ++ List.replicate (6 - (lg_sl ([.ref a_this, .int p1, .int p2])).length) Slot.unset).toArray = ls at hl ⊢
  have hl : lv_has ls 6 [(0, .ref a_this), (1, .int p1), (2, .int p2)] := hl
  have key_35 : ∀ (yf_this_refused : Nat → Int32) (n : Nat) (x3 x4 x5 : Int32) (ql : Int32 × Int32 × Int32), f_X3_went_L35 g_this f_this_s p1 p2 yf_this_refused n x3 x4 x5 = some ql → ∀ (H : Heap) (locs : List Loc) (ls : Array Slot), va_P D vwCl [(a_this, .inr (3, rf_o3 a_this_s a_this_image a_this_read a_this_mind a_this_letters a_this_row a_this_refused a_this_numbers a_this_cost g_this)), (a_this_s, .inl (cA, 22, .inl f_this_s)), (a_this_refused, .inl (cA, 7, .inl yf_this_refused))] H → va_D A [(a_this, .inr (3, rf_o3 a_this_s a_this_image a_this_read a_this_mind a_this_letters a_this_row a_this_refused a_this_numbers a_this_cost g_this)), (a_this_s, .inl (cA, 22, .inl f_this_s)), (a_this_refused, .inl (cA, 7, .inl yf_this_refused))] → va_S A s.heap H locs → lv_has ls 6 [(0, .ref a_this), (1, .int p1), (2, .int p2), (3, .int x3), (4, .int x4), (5, .int x5)] → (∀ (H : Heap) (locs : List Loc) (ls : Array Slot), va_P D vwCl [(a_this, .inr (3, rf_o3 a_this_s a_this_image a_this_read a_this_mind a_this_letters a_this_row a_this_refused a_this_numbers a_this_cost g_this)), (a_this_s, .inl (cA, 22, .inl f_this_s)), (a_this_refused, .inl (cA, 7, .inl yf_this_refused))] H → va_D A [(a_this, .inr (3, rf_o3 a_this_s a_this_image a_this_read a_this_mind a_this_letters a_this_row a_this_refused a_this_numbers a_this_cost g_this)), (a_this_s, .inl (cA, 22, .inl f_this_s)), (a_this_refused, .inl (cA, 7, .inl yf_this_refused))] → va_S A s.heap H locs → lv_has ls 6 [(0, .ref a_this), (1, .int p1), (2, .int p2), (3, .int ql.1), (4, .int ql.2.1), (5, .int ql.2.2)] → W p l e (headSpec wsX3_went ({ frames := 4, cells := 0, slots := 0, locals := 94 } : Room)).room s m ([.ref a_this, .int p1, .int p2] : List Value).toArray below meth c H locs 0 0 (MQ below (va_Qi (fun (r : Int32) (_ : Unit) => r = q.1) (fun _ t => rf_Post D A [(a_this, .inr (3, rf_o3 a_this_s a_this_image a_this_read a_this_mind a_this_letters a_this_row a_this_refused a_this_numbers a_this_cost g_this)), (a_this_s, .inl (cA, 22, .inl f_this_s)), (a_this_refused, .inl (cA, 7, .inl q.2))] t) A) ([.ref a_this, .int p1, .int p2] : List Value).toArray s 0 0 A) (F0 m 68 ls [])) → W p l e (headSpec wsX3_went ({ frames := 4, cells := 0, slots := 0, locals := 94 } : Room)).room s m ([.ref a_this, .int p1, .int p2] : List Value).toArray below meth c H locs 0 0 (MQ below (va_Qi (fun (r : Int32) (_ : Unit) => r = q.1) (fun _ t => rf_Post D A [(a_this, .inr (3, rf_o3 a_this_s a_this_image a_this_read a_this_mind a_this_letters a_this_row a_this_refused a_this_numbers a_this_cost g_this)), (a_this_s, .inl (cA, 22, .inl f_this_s)), (a_this_refused, .inl (cA, 7, .inl q.2))] t) A) ([.ref a_this, .int p1, .int p2] : List Value).toArray s 0 0 A) (F0 m 35 ls []) := by
    intro yf_this_refused n
    induction n with
    | zero =>
      intro x3 x4 x5 ql hf H locs ls hP hD hS hl kx
      exact absurd (show (none : Option (Int32 × Int32 × Int32)) = some ql from hf) (fun h9 => by cases h9)
    | succ n ih =>
      intro x3 x4 x5 ql hf H locs ls hP hD hS hl kx
      rw [f_X3_went_L35] at hf
      refine lv_iload hx hb dX3_went_35 (lv_at hl 5 rfl) ?_
      refine lv_bipush (v := 30) hx hb dX3_went_37 (by decide) ?_
      refine lv_icmp_gt (tgt := 68) hx hb dX3_went_39 (by decide) (fun c1 => ?_) (fun c1 => ?_)
      · have hf := rf_ifp hf c1
        obtain rfl := Option.some.inj hf
        exact kx _ _ _ hP hD hS (lv_sub hl [0, 1, 2, 3, 4, 5] rfl)
      · have hf := rf_ifn hf c1
        refine lv_aload_n hx hb dX3_went_42 rfl (lv_at hl 0 rfl) ?_
        refine lv_iload_n hx hb dX3_went_43 rfl (lv_at hl 1 rfl) ?_
        refine lv_iload hx hb dX3_went_44 (lv_at hl 5 rfl) ?_
        obtain ⟨q2, hq2, hf⟩ := rf_bindq hf
        refine rf_Vi (As := [.int p1, .int x5]) (rest := []) (wr := [(a_this_refused, .inl (cA, 7, .inl yf_this_refused))]) (wn := [(a_this, .inr (3, rf_o3 a_this_s a_this_image a_this_read a_this_mind a_this_letters a_this_row a_this_refused a_this_numbers a_this_cost g_this)), (a_this_s, .inl (cA, 22, .inl f_this_s)), (a_this_refused, .inl (cA, 7, .inl yf_this_refused))]) ⟨hx, hb, hml, hown, hts⟩ hK hP hD hS hA hE (c_X3_goesOverAll l D cA ad a_this a_this_s a_this_image a_this_read a_this_mind a_this_letters a_this_row a_this_refused a_this_numbers a_this_cost H.size g_this f_this_s p1 x5 q2 hq2) (cwV 2 hts gX3_went_X3_goesOverAll rfl rfl rfl hv_X3_goesOverAll ⟨Nat.le_of_ble_eq_true rfl, Nat.le_of_ble_eq_true rfl⟩) [0, 1] [2] [1, 2, 0] rfl rfl rfl rfl (by decide) rfl rfl 3 0 rfl rfl rfl rfl rfl hl.1 (Nat.le_of_ble_eq_true rfl) dX3_went_46 ⟨Nat.zero_le _, Nat.zero_le _⟩ (fun H locs hP hD hS => ?_)
        refine lv_if_ne (tgt := 55) hx hb dX3_went_49 (by decide) (fun c3 => ?_) (fun c3 => ?_)
        · have hf := rf_ifn hf c3
          obtain ⟨v4, ev4⟩ : ∃ y : Int32, y = x3 + 1 := ⟨_, rfl⟩
          have hf := rf_bindv hf ev4
          refine lv_iinc (v := v4) (lv' := [(3, .int v4), (0, .ref a_this), (1, .int p1), (2, .int p2), (4, .int x4), (5, .int x5)]) hx hb dX3_went_55 hl (k := 3) rfl (by rw [ev4]; rfl) (by decide) rfl (fun ls hl => ?_)
          clear ev4
          refine lv_iload hx hb dX3_went_58 (lv_at hl 5 rfl) ?_
          refine lv_istore (lv' := [(4, .int x5), (3, .int v4), (0, .ref a_this), (1, .int p1), (2, .int p2), (5, .int x5)]) hx hb dX3_went_60 hl (by decide) rfl (fun ls hl => ?_)
          obtain ⟨v5, ev5⟩ : ∃ y : Int32, y = x5 + 1 := ⟨_, rfl⟩
          have hf := rf_bindv hf ev5
          refine lv_iinc (v := v5) (lv' := [(5, .int v5), (4, .int x5), (3, .int v4), (0, .ref a_this), (1, .int p1), (2, .int p2)]) hx hb dX3_went_62 hl (k := 5) rfl (by rw [ev5]; rfl) (by decide) rfl (fun ls hl => ?_)
          clear ev5
          refine lv_goto (tgt := 35) hx hb dX3_went_65 (by decide) ?_
          exact ih v4 x5 v5 ql hf _ _ _ hP hD hS (lv_sub hl [3, 4, 5, 2, 1, 0] rfl) kx
        · have hf := rf_ifp hf c3
          refine lv_goto (tgt := 62) hx hb dX3_went_52 (by decide) ?_
          obtain ⟨v6, ev6⟩ : ∃ y : Int32, y = x5 + 1 := ⟨_, rfl⟩
          have hf := rf_bindv hf ev6
          refine lv_iinc (v := v6) (lv' := [(5, .int v6), (0, .ref a_this), (1, .int p1), (2, .int p2), (3, .int x3), (4, .int x4)]) hx hb dX3_went_62 hl (k := 5) rfl (by rw [ev6]; rfl) (by decide) rfl (fun ls hl => ?_)
          clear ev6
          refine lv_goto (tgt := 35) hx hb dX3_went_65 (by decide) ?_
          exact ih x3 x4 v6 ql hf _ _ _ hP hD hS (lv_sub hl [1, 2, 3, 4, 5, 0] rfl) kx
  rw [f_X3_went] at hf
  refine lv_iload_n hx hb dX3_went_0 rfl (lv_at hl 1 rfl) ?_
  refine lv_iconst (v := 0) hx hb dX3_went_1 (by decide) ?_
  refine lv_bipush (v := 6) hx hb dX3_went_2 (by decide) ?_
  obtain ⟨q7, hq7, hf⟩ := rf_bindq hf
  refine rf_Si (As := [.int p1, .int 0, .int 6]) (rest := []) (wr := [(a_this, .inr (3, rf_o3 a_this_s a_this_image a_this_read a_this_mind a_this_letters a_this_row a_this_refused a_this_numbers a_this_cost g_this)), (a_this_s, .inl (cA, 22, .inl f_this_s)), (a_this_refused, .inl (cA, 7, .inl f_this_refused))]) (wn := [(a_this, .inr (3, rf_o3 a_this_s a_this_image a_this_read a_this_mind a_this_letters a_this_row a_this_refused a_this_numbers a_this_cost g_this)), (a_this_s, .inl (cA, 22, .inl f_this_s)), (a_this_refused, .inl (cA, 7, .inl f_this_refused))]) ⟨hx, hb, hml, hown, hts⟩ hK hP hD hS hA hE (c_X3_isIn l D cA ad s.heap.size p1 0 6 q7 hq7) (va_cwS 3 hts gX3_went_X3_isIn rfl rfl rfl hs_X3_isIn ⟨Nat.le_of_ble_eq_true rfl, Nat.le_of_ble_eq_true rfl⟩) [] [0, 1, 2] [0, 1, 2] rfl rfl rfl rfl (by decide) rfl rfl rfl rfl hl.1 (Nat.le_of_ble_eq_true rfl) dX3_went_4 ⟨Nat.zero_le _, Nat.zero_le _⟩ (fun H locs hP hD hS => ?_)
  refine lv_if_eq (tgt := 19) hx hb dX3_went_7 (by decide) (fun c8 => ?_) (fun c8 => ?_)
  · have hf := rf_ifp hf c8
    refine lv_aload_n hx hb dX3_went_19 rfl (lv_at hl 0 rfl) ?_
    refine lv_bipush (v := (-2)) hx hb dX3_went_20 (by decide) ?_
    obtain ⟨q9, hq9, hf⟩ := rf_bindq hf
    refine rf_Vi (As := [.int (-2)]) (rest := []) (wr := [(a_this_s, .inl (cA, 22, .inl f_this_s))]) (wn := [(a_this, .inr (3, rf_o3 a_this_s a_this_image a_this_read a_this_mind a_this_letters a_this_row a_this_refused a_this_numbers a_this_cost g_this)), (a_this_s, .inl (cA, 22, .inl f_this_s)), (a_this_refused, .inl (cA, 7, .inl q9.2))]) ⟨hx, hb, hml, hown, hts⟩ hK hP hD hS hA hE (c_X3_no l D cA ad a_this a_this_s a_this_image a_this_read a_this_mind a_this_letters a_this_row a_this_refused a_this_numbers a_this_cost H.size g_this f_this_refused (-2) q9 hq9) (cwV 1 hts gX3_went_X3_no rfl rfl rfl hv_X3_no ⟨Nat.le_of_ble_eq_true rfl, Nat.le_of_ble_eq_true rfl⟩) [0, 2] [1] [1, 0, 2] rfl rfl rfl rfl (by decide) rfl rfl 3 0 rfl rfl rfl rfl rfl hl.1 (Nat.le_of_ble_eq_true rfl) dX3_went_22 ⟨Nat.zero_le _, Nat.zero_le _⟩ (fun H locs hP hD hS => ?_)
    obtain rfl := Option.some.inj hf
    exact W.iret (v := q9.1) hx hb hr (fun t ht hW => ⟨⟨q9.1, (), rfl, rfl, rf_mk ht hP hD⟩, hS.F ht⟩) hS.2.2 dX3_went_25
  · have hf := rf_ifn hf c8
    refine lv_iload_n hx hb dX3_went_10 rfl (lv_at hl 2 rfl) ?_
    refine lv_iconst (v := 0) hx hb dX3_went_11 (by decide) ?_
    refine lv_iconst (v := 1) hx hb dX3_went_12 (by decide) ?_
    obtain ⟨q10, hq10, hf⟩ := rf_bindq hf
    refine rf_Si (As := [.int p2, .int 0, .int 1]) (rest := []) (wr := [(a_this, .inr (3, rf_o3 a_this_s a_this_image a_this_read a_this_mind a_this_letters a_this_row a_this_refused a_this_numbers a_this_cost g_this)), (a_this_s, .inl (cA, 22, .inl f_this_s)), (a_this_refused, .inl (cA, 7, .inl f_this_refused))]) (wn := [(a_this, .inr (3, rf_o3 a_this_s a_this_image a_this_read a_this_mind a_this_letters a_this_row a_this_refused a_this_numbers a_this_cost g_this)), (a_this_s, .inl (cA, 22, .inl f_this_s)), (a_this_refused, .inl (cA, 7, .inl f_this_refused))]) ⟨hx, hb, hml, hown, hts⟩ hK hP hD hS hA hE (c_X3_isIn l D cA ad H.size p2 0 1 q10 hq10) (va_cwS 3 hts gX3_went_X3_isIn rfl rfl rfl hs_X3_isIn ⟨Nat.le_of_ble_eq_true rfl, Nat.le_of_ble_eq_true rfl⟩) [] [0, 1, 2] [0, 1, 2] rfl rfl rfl rfl (by decide) rfl rfl rfl rfl hl.1 (Nat.le_of_ble_eq_true rfl) dX3_went_13 ⟨Nat.zero_le _, Nat.zero_le _⟩ (fun H locs hP hD hS => ?_)
    refine lv_if_ne (tgt := 26) hx hb dX3_went_16 (by decide) (fun c11 => ?_) (fun c11 => ?_)
    · have hf := rf_ifn hf c11
      refine lv_iconst (v := 0) hx hb dX3_went_26 (by decide) ?_
      refine lv_istore_n (lv' := [(3, .int 0), (0, .ref a_this), (1, .int p1), (2, .int p2)]) hx hb dX3_went_27 rfl hl (by decide) rfl (fun ls hl => ?_)
      refine lv_bipush (v := (-9)) hx hb dX3_went_28 (by decide) ?_
      refine lv_istore (lv' := [(4, .int (-9)), (3, .int 0), (0, .ref a_this), (1, .int p1), (2, .int p2)]) hx hb dX3_went_30 hl (by decide) rfl (fun ls hl => ?_)
      refine lv_iconst (v := 0) hx hb dX3_went_32 (by decide) ?_
      refine lv_istore (lv' := [(5, .int 0), (4, .int (-9)), (3, .int 0), (0, .ref a_this), (1, .int p1), (2, .int p2)]) hx hb dX3_went_33 hl (by decide) rfl (fun ls hl => ?_)
      obtain ⟨q12, hq12, hf⟩ := rf_bindq hf
      refine key_35 f_this_refused rf_fu 0 (-9) 0 q12 hq12 _ _ _ hP hD hS (lv_sub hl [3, 4, 5, 2, 1, 0] rfl) (fun H locs ls hP hD hS hl => ?_)
      refine lv_iload_n hx hb dX3_went_68 rfl (lv_at hl 2 rfl) ?_
      refine lv_if_ne (tgt := 76) hx hb dX3_went_69 (by decide) (fun c13 => ?_) (fun c13 => ?_)
      · have hf := rf_ifn hf c13
        refine lv_iload hx hb dX3_went_76 (lv_at hl 4 rfl) ?_
        obtain rfl := Option.some.inj hf
        exact W.iret (v := q12.2.1) hx hb hr (fun t ht hW => ⟨⟨q12.2.1, (), rfl, rfl, rf_mk ht hP hD⟩, hS.F ht⟩) hS.2.2 dX3_went_78
      · have hf := rf_ifp hf c13
        refine lv_iload_n hx hb dX3_went_72 rfl (lv_at hl 3 rfl) ?_
        refine lv_goto (tgt := 78) hx hb dX3_went_73 (by decide) ?_
        obtain rfl := Option.some.inj hf
        exact W.iret (v := q12.1) hx hb hr (fun t ht hW => ⟨⟨q12.1, (), rfl, rfl, rf_mk ht hP hD⟩, hS.F ht⟩) hS.2.2 dX3_went_78
    · have hf := rf_ifp hf c11
      refine lv_aload_n hx hb dX3_went_19 rfl (lv_at hl 0 rfl) ?_
      refine lv_bipush (v := (-2)) hx hb dX3_went_20 (by decide) ?_
      obtain ⟨q14, hq14, hf⟩ := rf_bindq hf
      refine rf_Vi (As := [.int (-2)]) (rest := []) (wr := [(a_this_s, .inl (cA, 22, .inl f_this_s))]) (wn := [(a_this, .inr (3, rf_o3 a_this_s a_this_image a_this_read a_this_mind a_this_letters a_this_row a_this_refused a_this_numbers a_this_cost g_this)), (a_this_s, .inl (cA, 22, .inl f_this_s)), (a_this_refused, .inl (cA, 7, .inl q14.2))]) ⟨hx, hb, hml, hown, hts⟩ hK hP hD hS hA hE (c_X3_no l D cA ad a_this a_this_s a_this_image a_this_read a_this_mind a_this_letters a_this_row a_this_refused a_this_numbers a_this_cost H.size g_this f_this_refused (-2) q14 hq14) (cwV 1 hts gX3_went_X3_no rfl rfl rfl hv_X3_no ⟨Nat.le_of_ble_eq_true rfl, Nat.le_of_ble_eq_true rfl⟩) [0, 2] [1] [1, 0, 2] rfl rfl rfl rfl (by decide) rfl rfl 3 0 rfl rfl rfl rfl rfl hl.1 (Nat.le_of_ble_eq_true rfl) dX3_went_22 ⟨Nat.zero_le _, Nat.zero_le _⟩ (fun H locs hP hD hS => ?_)
      obtain rfl := Option.some.inj hf
      exact W.iret (v := q14.1) hx hb hr (fun t ht hW => ⟨⟨q14.1, (), rfl, rfl, rf_mk ht hP hD⟩, hS.F ht⟩) hS.2.2 dX3_went_25
theorem kX3_areTold_0 : (.fieldLink RX3 161 "RingAndFingerModel" "rowMany" "I" : Cond) ∈ wsX3_areTold := by decide +kernel
theorem kX3_areTold_1 : (.fieldLink RX3 25 "RingAndFingerModel" "row" "[I" : Cond) ∈ wsX3_areTold := by decide +kernel
theorem jX3_areTold_X3 : ∀ w ∈ u_ws RX3 TX3 16, w ∈ wsX3_areTold := by decide +kernel
set_option maxHeartbeats 8000000 in
set_option maxRecDepth 100000 in
theorem c_X3_areTold (l : Launch) (D : va_G) (cA : ClassId) (ad : Nat → Nat) (a_this a_this_s a_this_image a_this_read a_this_mind a_this_letters a_this_row a_this_refused a_this_numbers a_this_cost : Nat) (sz : Nat) (g_this f_this_row : Nat → Int32) (q : Int32) (hf : f_X3_areTold g_this f_this_row = some q) : Met l yX3_areTold wsX3_areTold ({ frames := 0, cells := 0, slots := 0, locals := 0 } : Room) (va_Pc [.ref a_this] (rf_Pre D cA ad [(a_this, .inr (3, rf_o3 a_this_s a_this_image a_this_read a_this_mind a_this_letters a_this_row a_this_refused a_this_numbers a_this_cost g_this)), (a_this_row, .inl (cA, 12, .inl f_this_row))] sz)) (va_Qi (fun (r : Int32) (_ : Unit) => r = q) (fun _ t => rf_Post D (va_A [(a_this, .inr (3, rf_o3 a_this_s a_this_image a_this_read a_this_mind a_this_letters a_this_row a_this_refused a_this_numbers a_this_cost g_this)), (a_this_row, .inl (cA, 12, .inl f_this_row))] sz) [(a_this, .inr (3, rf_o3 a_this_s a_this_image a_this_read a_this_mind a_this_letters a_this_row a_this_refused a_this_numbers a_this_cost g_this)), (a_this_row, .inl (cA, 12, .inl f_this_row))] t) (va_A [(a_this, .inr (3, rf_o3 a_this_s a_this_image a_this_read a_this_mind a_this_letters a_this_row a_this_refused a_this_numbers a_this_cost g_this)), (a_this_row, .inl (cA, 12, .inl f_this_row))] sz)) 0 0 (va_A [(a_this, .inr (3, rf_o3 a_this_s a_this_image a_this_read a_this_mind a_this_letters a_this_row a_this_refused a_this_numbers a_this_cost g_this)), (a_this_row, .inl (cA, 12, .inl f_this_row))] sz) := by
  refine Met.ofW (cc := cX3_areTold) (maxL := 2) (ret := (some .boolean)) (by decide) rfl ?_
  intro p e s m args below meth c s₁ B hml hv
  obtain ⟨rfl, hsz, hP, hK, hD0, hE⟩ := hv
  have hx := B.exec
  have hb := B.bytes
  have hr := B.returns
  have hts := atoms_spec (ws := wsX3_areTold) B.pre
  have hown : s.vm.findClass RX3 = some m.cls := findClass_of_methodNamed B.named
  have hlocks := B.notSynchronized
  subst hsz
  have hD := hD0.self (sz := s.heap.size)
  generalize hAe : va_A [(a_this, .inr (3, rf_o3 a_this_s a_this_image a_this_read a_this_mind a_this_letters a_this_row a_this_refused a_this_numbers a_this_cost g_this)), (a_this_row, .inl (cA, 12, .inl f_this_row))] s.heap.size = A at hD hE ⊢
  have hA : ∀ q : Nat, s.heap.size ≤ q → A q := fun q h => by rw [← hAe]; exact Or.inr h
  have hS : va_S A s.heap s.heap [] := va_S.rf
  have hP : va_P D vwCl [(a_this, .inr (3, rf_o3 a_this_s a_this_image a_this_read a_this_mind a_this_letters a_this_row a_this_refused a_this_numbers a_this_cost g_this)), (a_this_row, .inl (cA, 12, .inl f_this_row))] s.heap := hP
  have hl := lv_entry ([.ref a_this]) (n := 2) (Nat.le_of_ble_eq_true rfl)
  rw [lg_entry_eq]
  generalize (lg_sl ([.ref a_this]) ++ List.replicate (2 - (lg_sl ([.ref a_this])).length) Slot.unset).toArray = ls at hl ⊢
  have hl : lv_has ls 2 [(0, .ref a_this)] := hl
  have key_2 : ∀ (n : Nat) (x1 : Int32) (ql : (Int32) ⊕ (Int32)), f_X3_areTold_L2 g_this f_this_row n x1 = some ql → ∀ (H : Heap) (locs : List Loc) (ls : Array Slot), va_P D vwCl [(a_this, .inr (3, rf_o3 a_this_s a_this_image a_this_read a_this_mind a_this_letters a_this_row a_this_refused a_this_numbers a_this_cost g_this)), (a_this_row, .inl (cA, 12, .inl f_this_row))] H → va_D A [(a_this, .inr (3, rf_o3 a_this_s a_this_image a_this_read a_this_mind a_this_letters a_this_row a_this_refused a_this_numbers a_this_cost g_this)), (a_this_row, .inl (cA, 12, .inl f_this_row))] → va_S A s.heap H locs → lv_has ls 2 [(0, .ref a_this), (1, .int x1)] → (∀ r : Int32, ql = .inl r → r = q) → (∀ (x : Int32), ql = .inr x → ∀ (H : Heap) (locs : List Loc) (ls : Array Slot), va_P D vwCl [(a_this, .inr (3, rf_o3 a_this_s a_this_image a_this_read a_this_mind a_this_letters a_this_row a_this_refused a_this_numbers a_this_cost g_this)), (a_this_row, .inl (cA, 12, .inl f_this_row))] H → va_D A [(a_this, .inr (3, rf_o3 a_this_s a_this_image a_this_read a_this_mind a_this_letters a_this_row a_this_refused a_this_numbers a_this_cost g_this)), (a_this_row, .inl (cA, 12, .inl f_this_row))] → va_S A s.heap H locs → lv_has ls 2 [(0, .ref a_this), (1, .int x)] → W p l e (headSpec wsX3_areTold ({ frames := 0, cells := 0, slots := 0, locals := 0 } : Room)).room s m ([.ref a_this] : List Value).toArray below meth c H locs 0 0 (MQ below (va_Qi (fun (r : Int32) (_ : Unit) => r = q) (fun _ t => rf_Post D A [(a_this, .inr (3, rf_o3 a_this_s a_this_image a_this_read a_this_mind a_this_letters a_this_row a_this_refused a_this_numbers a_this_cost g_this)), (a_this_row, .inl (cA, 12, .inl f_this_row))] t) A) ([.ref a_this] : List Value).toArray s 0 0 A) (F0 m 48 ls [])) → W p l e (headSpec wsX3_areTold ({ frames := 0, cells := 0, slots := 0, locals := 0 } : Room)).room s m ([.ref a_this] : List Value).toArray below meth c H locs 0 0 (MQ below (va_Qi (fun (r : Int32) (_ : Unit) => r = q) (fun _ t => rf_Post D A [(a_this, .inr (3, rf_o3 a_this_s a_this_image a_this_read a_this_mind a_this_letters a_this_row a_this_refused a_this_numbers a_this_cost g_this)), (a_this_row, .inl (cA, 12, .inl f_this_row))] t) A) ([.ref a_this] : List Value).toArray s 0 0 A) (F0 m 2 ls []) := by
    intro n
    induction n with
    | zero =>
      intro x1 ql hf H locs ls hP hD hS hl hret kx
      exact absurd (show (none : Option ((Int32) ⊕ (Int32))) = some ql from hf) (fun h9 => by cases h9)
    | succ n ih =>
      intro x1 ql hf H locs ls hP hD hS hl hret kx
      rw [f_X3_areTold_L2] at hf
      refine lv_iload_n hx hb dX3_areTold_2 rfl (lv_at hl 1 rfl) ?_
      refine lv_aload_n hx hb dX3_areTold_3 rfl (lv_at hl 0 rfl) ?_
      refine va_get (D := D) (ci := 3) (v := .int (g_this 2)) (C := RX3) (T := TX3) (N := 16) hx hb hts jX3_areTold_X3 hown hK hP 0 rfl rfl 9 (by decide) (hts _ kX3_areTold_0) (fun _ h9 => h9) rfl dX3_areTold_4 ?_
      refine lv_icmp_ge (tgt := 48) hx hb dX3_areTold_7 (by decide) (fun c1 => ?_) (fun c1 => ?_)
      · have hf := rf_ifp hf c1
        exact kx _ (Option.some.inj hf).symm _ _ _ hP hD hS (lv_sub hl [0, 1] rfl)
      · have hf := rf_ifn hf c1
        refine lv_iload_n hx hb dX3_areTold_10 rfl (lv_at hl 1 rfl) ?_
        refine lv_iconst (v := 2) hx hb dX3_areTold_11 (by decide) ?_
        refine lv_irem hx hb dX3_areTold_12 (by decide) ?_
        refine lv_topi (fun v2 ev2 => ?_)
        have hf := rf_bindv hf ev2
        clear ev2
        refine lv_if_ne (tgt := 30) hx hb dX3_areTold_13 (by decide) (fun c3 => ?_) (fun c3 => ?_)
        · have hf := rf_ifn hf c3
          refine lv_aload_n hx hb dX3_areTold_30 rfl (lv_at hl 0 rfl) ?_
          refine va_get (D := D) (ci := 3) (v := .ref a_this_row) (C := RX3) (T := TX3) (N := 16) hx hb hts jX3_areTold_X3 hown hK hP 0 rfl rfl 6 (by decide) (hts _ kX3_areTold_1) (fun _ h9 => h9) rfl dX3_areTold_31 ?_
          refine lv_iload_n hx hb dX3_areTold_34 rfl (lv_at hl 1 rfl) ?_
          obtain ⟨c4, hf⟩ := rf_chk hf
          refine va_iald hx hb hK hP 1 0 rfl rfl c4 dX3_areTold_35 ?_
          refine lv_iconst (v := 1) hx hb dX3_areTold_36 (by decide) ?_
          refine lv_icmp_le (tgt := 42) hx hb dX3_areTold_37 (by decide) (fun c5 => ?_) (fun c5 => ?_)
          · have hf := rf_ifp hf c5
            obtain ⟨v6, ev6⟩ : ∃ y : Int32, y = x1 + 1 := ⟨_, rfl⟩
            have hf := rf_bindv hf ev6
            refine lv_iinc (v := v6) (lv' := [(1, .int v6), (0, .ref a_this)]) hx hb dX3_areTold_42 hl (k := 1) rfl (by rw [ev6]; rfl) (by decide) rfl (fun ls hl => ?_)
            clear ev6
            refine lv_goto (tgt := 2) hx hb dX3_areTold_45 (by decide) ?_
            exact ih v6 ql hf _ _ _ hP hD hS (lv_sub hl [1, 0] rfl) hret kx
          · have hf := rf_ifn hf c5
            refine lv_iconst (v := 0) hx hb dX3_areTold_40 (by decide) ?_
            obtain rfl := hret _ (Option.some.inj hf).symm
            exact W.zret (v := 0) hx hb hr rfl (fun t ht hW => ⟨⟨0, (), rfl, rfl, rf_mk ht hP hD⟩, hS.F ht⟩) hS.2.2 dX3_areTold_41
        · have hf := rf_ifp hf c3
          refine lv_aload_n hx hb dX3_areTold_16 rfl (lv_at hl 0 rfl) ?_
          refine va_get (D := D) (ci := 3) (v := .ref a_this_row) (C := RX3) (T := TX3) (N := 16) hx hb hts jX3_areTold_X3 hown hK hP 0 rfl rfl 6 (by decide) (hts _ kX3_areTold_1) (fun _ h9 => h9) rfl dX3_areTold_17 ?_
          refine lv_iload_n hx hb dX3_areTold_20 rfl (lv_at hl 1 rfl) ?_
          obtain ⟨c7, hf⟩ := rf_chk hf
          refine va_iald hx hb hK hP 1 0 rfl rfl c7 dX3_areTold_21 ?_
          refine lv_bipush (v := 7) hx hb dX3_areTold_22 (by decide) ?_
          refine lv_icmp_lt (tgt := 42) hx hb dX3_areTold_24 (by decide) (fun c8 => ?_) (fun c8 => ?_)
          · have hf := rf_ifp hf c8
            obtain ⟨v9, ev9⟩ : ∃ y : Int32, y = x1 + 1 := ⟨_, rfl⟩
            have hf := rf_bindv hf ev9
            refine lv_iinc (v := v9) (lv' := [(1, .int v9), (0, .ref a_this)]) hx hb dX3_areTold_42 hl (k := 1) rfl (by rw [ev9]; rfl) (by decide) rfl (fun ls hl => ?_)
            clear ev9
            refine lv_goto (tgt := 2) hx hb dX3_areTold_45 (by decide) ?_
            exact ih v9 ql hf _ _ _ hP hD hS (lv_sub hl [1, 0] rfl) hret kx
          · have hf := rf_ifn hf c8
            refine lv_goto (tgt := 40) hx hb dX3_areTold_27 (by decide) ?_
            refine lv_iconst (v := 0) hx hb dX3_areTold_40 (by decide) ?_
            obtain rfl := hret _ (Option.some.inj hf).symm
            exact W.zret (v := 0) hx hb hr rfl (fun t ht hW => ⟨⟨0, (), rfl, rfl, rf_mk ht hP hD⟩, hS.F ht⟩) hS.2.2 dX3_areTold_41
  rw [f_X3_areTold] at hf
  refine lv_iconst (v := 0) hx hb dX3_areTold_0 (by decide) ?_
  refine lv_istore_n (lv' := [(1, .int 0), (0, .ref a_this)]) hx hb dX3_areTold_1 rfl hl (by decide) rfl (fun ls hl => ?_)
  obtain ⟨q10, hq10, hf⟩ := rf_bindq hf
  refine key_2 rf_fu 0 q10 hq10 _ _ _ hP hD hS (lv_sub hl [1, 0] rfl) (fun r h9 => ?_) (fun x11 h9 H locs ls hP hD hS hl => ?_)
  · subst h9
    exact Option.some.inj hf
  · subst h9
    have hf := rf_sumr hf
    refine lv_aload_n hx hb dX3_areTold_48 rfl (lv_at hl 0 rfl) ?_
    refine va_get (D := D) (ci := 3) (v := .int (g_this 2)) (C := RX3) (T := TX3) (N := 16) hx hb hts jX3_areTold_X3 hown hK hP 0 rfl rfl 9 (by decide) (hts _ kX3_areTold_0) (fun _ h9 => h9) rfl dX3_areTold_49 ?_
    refine lv_iconst (v := 2) hx hb dX3_areTold_52 (by decide) ?_
    refine lv_irem hx hb dX3_areTold_53 (by decide) ?_
    refine lv_topi (fun v12 ev12 => ?_)
    have hf := rf_bindv hf ev12
    clear ev12
    refine lv_if_ne (tgt := 61) hx hb dX3_areTold_54 (by decide) (fun c13 => ?_) (fun c13 => ?_)
    · have hf := rf_ifn hf c13
      refine lv_iconst (v := 0) hx hb dX3_areTold_61 (by decide) ?_
      obtain rfl := Option.some.inj hf
      exact W.zret (v := 0) hx hb hr rfl (fun t ht hW => ⟨⟨0, (), rfl, rfl, rf_mk ht hP hD⟩, hS.F ht⟩) hS.2.2 dX3_areTold_62
    · have hf := rf_ifp hf c13
      refine lv_iconst (v := 1) hx hb dX3_areTold_57 (by decide) ?_
      refine lv_goto (tgt := 62) hx hb dX3_areTold_58 (by decide) ?_
      obtain rfl := Option.some.inj hf
      exact W.zret (v := 1) hx hb hr rfl (fun t ht hW => ⟨⟨1, (), rfl, rfl, rf_mk ht hP hD⟩, hS.F ht⟩) hS.2.2 dX3_areTold_62
