theorem hs_X2_allowance : yX2_allowance.cls ≠ "java/lang/invoke/MethodHandle" ∧ yX2_allowance.cls ≠ "java/lang/invoke/VarHandle" ∧ (parseMethodDescriptor yX2_allowance.desc).map (fun d => d.parameters.length) = some 2 := by decide +kernel
theorem hs_X2_isEither : yX2_isEither.cls ≠ "java/lang/invoke/MethodHandle" ∧ yX2_isEither.cls ≠ "java/lang/invoke/VarHandle" ∧ (parseMethodDescriptor yX2_isEither.desc).map (fun d => d.parameters.length) = some 1 := by decide +kernel
theorem hs_X2_isTry : yX2_isTry.cls ≠ "java/lang/invoke/MethodHandle" ∧ yX2_isTry.cls ≠ "java/lang/invoke/VarHandle" ∧ (parseMethodDescriptor yX2_isTry.desc).map (fun d => d.parameters.length) = some 1 := by decide +kernel
theorem hv_X0_setting : yX0_setting.cls = RX0 ∧ yX0_setting.cls ≠ "java/lang/invoke/MethodHandle" ∧ yX0_setting.cls ≠ "java/lang/invoke/VarHandle" ∧ (parseMethodDescriptor yX0_setting.desc).map (fun d => d.parameters.length) = some 1 := by decide +kernel
theorem hv_X0_thickestNow : yX0_thickestNow.cls = RX0 ∧ yX0_thickestNow.cls ≠ "java/lang/invoke/MethodHandle" ∧ yX0_thickestNow.cls ≠ "java/lang/invoke/VarHandle" ∧ (parseMethodDescriptor yX0_thickestNow.desc).map (fun d => d.parameters.length) = some 0 := by decide +kernel
theorem hv_X2_draw : yX2_draw.cls = RX2 ∧ yX2_draw.cls ≠ "java/lang/invoke/MethodHandle" ∧ yX2_draw.cls ≠ "java/lang/invoke/VarHandle" ∧ (parseMethodDescriptor yX2_draw.desc).map (fun d => d.parameters.length) = some 1 := by decide +kernel
theorem hv_X2_eveningHarm : yX2_eveningHarm.cls = RX2 ∧ yX2_eveningHarm.cls ≠ "java/lang/invoke/MethodHandle" ∧ yX2_eveningHarm.cls ≠ "java/lang/invoke/VarHandle" ∧ (parseMethodDescriptor yX2_eveningHarm.desc).map (fun d => d.parameters.length) = some 0 := by decide +kernel
theorem hv_X2_failuresAhead : yX2_failuresAhead.cls = RX2 ∧ yX2_failuresAhead.cls ≠ "java/lang/invoke/MethodHandle" ∧ yX2_failuresAhead.cls ≠ "java/lang/invoke/VarHandle" ∧ (parseMethodDescriptor yX2_failuresAhead.desc).map (fun d => d.parameters.length) = some 1 := by decide +kernel
theorem hv_X2_tryRefusal : yX2_tryRefusal.cls = RX2 ∧ yX2_tryRefusal.cls ≠ "java/lang/invoke/MethodHandle" ∧ yX2_tryRefusal.cls ≠ "java/lang/invoke/VarHandle" ∧ (parseMethodDescriptor yX2_tryRefusal.desc).map (fun d => d.parameters.length) = some 1 := by decide +kernel
theorem kX2_set_0 : (.fieldLink RX2 87 "RingAndFinger" "LEAST_SET" "[I" : Cond) ∈ wsX2_set := by decide +kernel
theorem kX2_set_1 : (.fieldLink RX2 90 "RingAndFinger" "MOST_SET" "[I" : Cond) ∈ wsX2_set := by decide +kernel
theorem kX2_set_2 : (.fieldLink RX2 10 "RingAndFinger" "now" "LRingAndFinger$Finger;" : Cond) ∈ wsX2_set := by decide +kernel
theorem jX2_set_X2 : ∀ w ∈ u_ws RX2 TX2 12, w ∈ wsX2_set := by decide +kernel
set_option maxHeartbeats 8000000 in
set_option maxRecDepth 100000 in
theorem c_X2_set (l : Launch) (D : va_G) (cA : ClassId) (ad : Nat → Nat) (a_this a_this_now a_this_then a_this_trial a_this_search a_this_letters a_this_numbers a_this_thickest a_this_refusals a_this_now_kinds a_this_now_thicks : Nat) (sz : Nat) (g_this g_this_now f_this_refusals : Nat → Int32) (p1 p2 : Int32) (q : Int32 × (Nat → Int32) × (Nat → Int32)) (hf : f_X2_set g_this g_this_now f_this_refusals p1 p2 = some q) : Met l yX2_set wsX2_set ({ frames := 2, cells := 0, slots := 0, locals := 43 } : Room) (va_Pc [.ref a_this, .int p1, .int p2] (rf_Pre D cA ad [(a_this, .inr (2, rf_o2 a_this_now a_this_then a_this_trial a_this_search a_this_letters a_this_numbers a_this_thickest a_this_refusals g_this)), (a_this_now, .inr (0, rf_o0 a_this_now_kinds a_this_now_thicks g_this_now)), (a_this_refusals, .inl (cA, 7, .inl f_this_refusals))] sz)) (va_Qi (fun (r : Int32) (_ : Unit) => r = q.1) (fun _ t => rf_Post D (va_A [(a_this, .inr (2, rf_o2 a_this_now a_this_then a_this_trial a_this_search a_this_letters a_this_numbers a_this_thickest a_this_refusals g_this)), (a_this_now, .inr (0, rf_o0 a_this_now_kinds a_this_now_thicks g_this_now)), (a_this_refusals, .inl (cA, 7, .inl f_this_refusals))] sz) [(a_this, .inr (2, rf_o2 a_this_now a_this_then a_this_trial a_this_search a_this_letters a_this_numbers a_this_thickest a_this_refusals g_this)), (a_this_now, .inr (0, rf_o0 a_this_now_kinds a_this_now_thicks q.2.1)), (a_this_refusals, .inl (cA, 7, .inl q.2.2))] t) (va_A [(a_this, .inr (2, rf_o2 a_this_now a_this_then a_this_trial a_this_search a_this_letters a_this_numbers a_this_thickest a_this_refusals g_this)), (a_this_now, .inr (0, rf_o0 a_this_now_kinds a_this_now_thicks g_this_now)), (a_this_refusals, .inl (cA, 7, .inl f_this_refusals))] sz)) 0 0 (va_A [(a_this, .inr (2, rf_o2 a_this_now a_this_then a_this_trial a_this_search a_this_letters a_this_numbers a_this_thickest a_this_refusals g_this)), (a_this_now, .inr (0, rf_o0 a_this_now_kinds a_this_now_thicks g_this_now)), (a_this_refusals, .inl (cA, 7, .inl f_this_refusals))] sz) := by
  refine Met.ofW (cc := cX2_set) (maxL := 4) (ret := (some .int)) (by decide) rfl ?_
  intro p e s m args below meth c s₁ B hml hv
  obtain ⟨rfl, hsz, hP, hK, hD0, hE⟩ := hv
  have hx := B.exec
  have hb := B.bytes
  have hr := B.returns
  have hts := atoms_spec (ws := wsX2_set) B.pre
  have hown : s.vm.findClass RX2 = some m.cls := findClass_of_methodNamed B.named
  have hlocks := B.notSynchronized
  subst hsz
  have hD := hD0.self (sz := s.heap.size)
  generalize hAe : va_A [(a_this, .inr (2, rf_o2 a_this_now a_this_then a_this_trial a_this_search a_this_letters a_this_numbers a_this_thickest a_this_refusals g_this)), (a_this_now, .inr (0, rf_o0 a_this_now_kinds a_this_now_thicks g_this_now)), (a_this_refusals, .inl (cA, 7, .inl f_this_refusals))] s.heap.size = A at hD hE ⊢
  have hA : ∀ q : Nat, s.heap.size ≤ q → A q := fun q h => by rw [← hAe]; exact Or.inr h
  have hS : va_S A s.heap s.heap [] := va_S.rf
  have hP : va_P D vwCl [(a_this, .inr (2, rf_o2 a_this_now a_this_then a_this_trial a_this_search a_this_letters a_this_numbers a_this_thickest a_this_refusals g_this)), (a_this_now, .inr (0, rf_o0 a_this_now_kinds a_this_now_thicks g_this_now)), (a_this_refusals, .inl (cA, 7, .inl f_this_refusals))] s.heap := hP
  have hl := lv_entry ([.ref a_this, .int p1, .int p2]) (n := 4) (Nat.le_of_ble_eq_true rfl)
  rw [lg_entry_eq]
  generalize (lg_sl ([.ref a_this, .int p1, .int p2]) ++ List.replicate (4 - (lg_sl ([.ref a_this, .int p1, .int p2])).length) Slot.unset).toArray = ls at hl ⊢
  have hl : lv_has ls 4 [(0, .ref a_this), (1, .int p1), (2, .int p2)] := hl
  rw [f_X2_set] at hf
  refine lv_iload_n hx hb dX2_set_0 rfl (lv_at hl 1 rfl) ?_
  refine lv_if_lt (tgt := 9) hx hb dX2_set_1 (by decide) (fun c1 => ?_) (fun c1 => ?_)
  · have hf := rf_ifp hf c1
    refine lv_aload_n hx hb dX2_set_9 rfl (lv_at hl 0 rfl) ?_
    refine lv_bipush (v := (-2)) hx hb dX2_set_10 (by decide) ?_
    obtain ⟨q2, hq2, hf⟩ := rf_bindq hf
    refine rf_Vi (As := [.int (-2)]) (rest := []) (wr := [(a_this_now, .inr (0, rf_o0 a_this_now_kinds a_this_now_thicks g_this_now))]) (wn := [(a_this, .inr (2, rf_o2 a_this_now a_this_then a_this_trial a_this_search a_this_letters a_this_numbers a_this_thickest a_this_refusals g_this)), (a_this_now, .inr (0, rf_o0 a_this_now_kinds a_this_now_thicks g_this_now)), (a_this_refusals, .inl (cA, 7, .inl q2.2))]) ⟨hx, hb, hml, hown, hts⟩ hK hP hD hS hA hE (c_X2_refuse l D cA ad a_this a_this_now a_this_then a_this_trial a_this_search a_this_letters a_this_numbers a_this_thickest a_this_refusals s.heap.size g_this f_this_refusals (-2) q2 hq2) (cwV 1 hts gX2_set_X2_refuse rfl rfl rfl hv_X2_refuse ⟨Nat.le_of_ble_eq_true rfl, Nat.le_of_ble_eq_true rfl⟩) [0, 2] [1] [1, 0, 2] rfl rfl rfl rfl (by decide) rfl rfl 2 0 rfl rfl rfl rfl rfl hl.1 (Nat.le_of_ble_eq_true rfl) dX2_set_12 ⟨Nat.zero_le _, Nat.zero_le _⟩ (fun H locs hP hD hS => ?_)
    obtain rfl := Option.some.inj hf
    exact W.iret (v := q2.1) hx hb hr (fun t ht hW => ⟨⟨q2.1, (), rfl, rfl, rf_mk ht hP hD⟩, hS.F ht⟩) hS.2.2 dX2_set_15
  · have hf := rf_ifn hf c1
    refine lv_iload_n hx hb dX2_set_4 rfl (lv_at hl 1 rfl) ?_
    refine lv_iconst (v := 4) hx hb dX2_set_5 (by decide) ?_
    refine lv_icmp_le (tgt := 16) hx hb dX2_set_6 (by decide) (fun c3 => ?_) (fun c3 => ?_)
    · have hf := rf_ifp hf c3
      refine lv_iload_n hx hb dX2_set_16 rfl (lv_at hl 2 rfl) ?_
      refine va_gets (v := .ref (ad 0)) hx hb (hE.2.2 0 _ rfl).1 hS hown (hts _ kX2_set_0) (fun _ h9 => h9) dX2_set_17 ?_
      refine lv_iload_n hx hb dX2_set_20 rfl (lv_at hl 1 rfl) ?_
      obtain ⟨q4, hq4, hf⟩ := rf_bindq hf
      refine rf_SiT (As := [.ref (ad 0), .int p1]) (rest := [.int p2]) ⟨hx, hb, hml, hown, hts⟩ hK hP hD hS hA hE (c_X2_at_T l D cA ad (ad 0) s.heap.size 5 rf_a0 p1 q4 hq4) (va_cwS 2 hts gX2_set_X2_at rfl rfl rfl hs_X2_at ⟨Nat.le_of_ble_eq_true rfl, Nat.le_of_ble_eq_true rfl⟩) rfl rfl hl.1 (Nat.le_of_ble_eq_true rfl) dX2_set_21 ⟨Nat.zero_le _, Nat.zero_le _⟩ (hE.2.2 0 _ rfl).2 (fun H locs hP hD hS => ?_)
      refine lv_icmp_ge (tgt := 34) hx hb dX2_set_24 (by decide) (fun c5 => ?_) (fun c5 => ?_)
      · have hf := rf_ifp hf c5
        refine lv_iload_n hx hb dX2_set_34 rfl (lv_at hl 2 rfl) ?_
        refine va_gets (v := .ref (ad 1)) hx hb (hE.2.2 1 _ rfl).1 hS hown (hts _ kX2_set_1) (fun _ h9 => h9) dX2_set_35 ?_
        refine lv_iload_n hx hb dX2_set_38 rfl (lv_at hl 1 rfl) ?_
        obtain ⟨q6, hq6, hf⟩ := rf_bindq hf
        refine rf_SiT (As := [.ref (ad 1), .int p1]) (rest := [.int p2]) ⟨hx, hb, hml, hown, hts⟩ hK hP hD hS hA hE (c_X2_at_T l D cA ad (ad 1) H.size 5 rf_a1 p1 q6 hq6) (va_cwS 2 hts gX2_set_X2_at rfl rfl rfl hs_X2_at ⟨Nat.le_of_ble_eq_true rfl, Nat.le_of_ble_eq_true rfl⟩) rfl rfl hl.1 (Nat.le_of_ble_eq_true rfl) dX2_set_39 ⟨Nat.zero_le _, Nat.zero_le _⟩ (hE.2.2 1 _ rfl).2 (fun H locs hP hD hS => ?_)
        refine lv_icmp_le (tgt := 52) hx hb dX2_set_42 (by decide) (fun c7 => ?_) (fun c7 => ?_)
        · have hf := rf_ifp hf c7
          refine lv_aload_n hx hb dX2_set_52 rfl (lv_at hl 0 rfl) ?_
          refine va_get (D := D) (ci := 2) (v := .ref a_this_now) (C := RX2) (T := TX2) (N := 12) hx hb hts jX2_set_X2 hown hK hP 0 rfl rfl 0 (by decide) (hts _ kX2_set_2) (fun _ h9 => h9) rfl dX2_set_53 ?_
          refine lv_iload_n hx hb dX2_set_56 rfl (lv_at hl 1 rfl) ?_
          obtain ⟨q8, hq8, hf⟩ := rf_bindq hf
          refine rf_Vi (As := [.int p1]) (rest := []) (wr := [(a_this, .inr (2, rf_o2 a_this_now a_this_then a_this_trial a_this_search a_this_letters a_this_numbers a_this_thickest a_this_refusals g_this)), (a_this_refusals, .inl (cA, 7, .inl f_this_refusals))]) (wn := [(a_this, .inr (2, rf_o2 a_this_now a_this_then a_this_trial a_this_search a_this_letters a_this_numbers a_this_thickest a_this_refusals g_this)), (a_this_now, .inr (0, rf_o0 a_this_now_kinds a_this_now_thicks g_this_now)), (a_this_refusals, .inl (cA, 7, .inl f_this_refusals))]) ⟨hx, hb, hml, hown, hts⟩ hK hP hD hS hA hE (c_X0_setting l D cA ad a_this_now a_this_now_kinds a_this_now_thicks H.size g_this_now p1 q8 hq8) (cwV 1 hts gX2_set_X0_setting rfl rfl rfl hv_X0_setting ⟨Nat.le_of_ble_eq_true rfl, Nat.le_of_ble_eq_true rfl⟩) [1] [0, 2] [0, 2, 1] rfl rfl rfl rfl (by decide) rfl rfl 0 1 rfl rfl rfl rfl rfl hl.1 (Nat.le_of_ble_eq_true rfl) dX2_set_57 ⟨Nat.zero_le _, Nat.zero_le _⟩ (fun H locs hP hD hS => ?_)
          refine lv_istore_n (lv' := [(3, .int q8), (0, .ref a_this), (1, .int p1), (2, .int p2)]) hx hb dX2_set_60 rfl hl (by decide) rfl (fun ls hl => ?_)
          refine lv_aload_n hx hb dX2_set_61 rfl (lv_at hl 1 rfl) ?_
          refine va_get (D := D) (ci := 2) (v := .ref a_this_now) (C := RX2) (T := TX2) (N := 12) hx hb hts jX2_set_X2 hown hK hP 0 rfl rfl 0 (by decide) (hts _ kX2_set_2) (fun _ h9 => h9) rfl dX2_set_62 ?_
          refine lv_iload_n hx hb dX2_set_65 rfl (lv_at hl 2 rfl) ?_
          refine lv_iload_n hx hb dX2_set_66 rfl (lv_at hl 3 rfl) ?_
          obtain ⟨q9, hq9, hf⟩ := rf_bindq hf
          refine rf_Vv (As := [.int p1, .int p2]) (rest := []) (wr := [(a_this, .inr (2, rf_o2 a_this_now a_this_then a_this_trial a_this_search a_this_letters a_this_numbers a_this_thickest a_this_refusals g_this)), (a_this_refusals, .inl (cA, 7, .inl f_this_refusals))]) (wn := [(a_this, .inr (2, rf_o2 a_this_now a_this_then a_this_trial a_this_search a_this_letters a_this_numbers a_this_thickest a_this_refusals g_this)), (a_this_now, .inr (0, rf_o0 a_this_now_kinds a_this_now_thicks q9)), (a_this_refusals, .inl (cA, 7, .inl f_this_refusals))]) ⟨hx, hb, hml, hown, hts⟩ hK hP hD hS hA hE (c_X0_change l D cA ad a_this_now a_this_now_kinds a_this_now_thicks H.size g_this_now p1 p2 q9 hq9) (cwV 2 hts gX2_set_X0_change rfl rfl rfl hv_X0_change ⟨Nat.le_of_ble_eq_true rfl, Nat.le_of_ble_eq_true rfl⟩) [1] [0, 2] [0, 2, 1] rfl rfl rfl rfl (by decide) rfl rfl 0 1 rfl rfl rfl rfl rfl hl.1 (Nat.le_of_ble_eq_true rfl) dX2_set_67 ⟨Nat.zero_le _, Nat.zero_le _⟩ (fun H locs hP hD hS => ?_)
          refine lv_iload_n hx hb dX2_set_70 rfl (lv_at hl 0 rfl) ?_
          obtain rfl := Option.some.inj hf
          exact W.iret (v := q8) hx hb hr (fun t ht hW => ⟨⟨q8, (), rfl, rfl, rf_mk ht hP hD⟩, hS.F ht⟩) hS.2.2 dX2_set_71
        · have hf := rf_ifn hf c7
          refine lv_aload_n hx hb dX2_set_45 rfl (lv_at hl 0 rfl) ?_
          refine lv_bipush (v := (-6)) hx hb dX2_set_46 (by decide) ?_
          obtain ⟨q10, hq10, hf⟩ := rf_bindq hf
          refine rf_Vi (As := [.int (-6)]) (rest := []) (wr := [(a_this_now, .inr (0, rf_o0 a_this_now_kinds a_this_now_thicks g_this_now))]) (wn := [(a_this, .inr (2, rf_o2 a_this_now a_this_then a_this_trial a_this_search a_this_letters a_this_numbers a_this_thickest a_this_refusals g_this)), (a_this_now, .inr (0, rf_o0 a_this_now_kinds a_this_now_thicks g_this_now)), (a_this_refusals, .inl (cA, 7, .inl q10.2))]) ⟨hx, hb, hml, hown, hts⟩ hK hP hD hS hA hE (c_X2_refuse l D cA ad a_this a_this_now a_this_then a_this_trial a_this_search a_this_letters a_this_numbers a_this_thickest a_this_refusals H.size g_this f_this_refusals (-6) q10 hq10) (cwV 1 hts gX2_set_X2_refuse rfl rfl rfl hv_X2_refuse ⟨Nat.le_of_ble_eq_true rfl, Nat.le_of_ble_eq_true rfl⟩) [0, 2] [1] [1, 0, 2] rfl rfl rfl rfl (by decide) rfl rfl 2 0 rfl rfl rfl rfl rfl hl.1 (Nat.le_of_ble_eq_true rfl) dX2_set_48 ⟨Nat.zero_le _, Nat.zero_le _⟩ (fun H locs hP hD hS => ?_)
          obtain rfl := Option.some.inj hf
          exact W.iret (v := q10.1) hx hb hr (fun t ht hW => ⟨⟨q10.1, (), rfl, rfl, rf_mk ht hP hD⟩, hS.F ht⟩) hS.2.2 dX2_set_51
      · have hf := rf_ifn hf c5
        refine lv_aload_n hx hb dX2_set_27 rfl (lv_at hl 0 rfl) ?_
        refine lv_bipush (v := (-4)) hx hb dX2_set_28 (by decide) ?_
        obtain ⟨q11, hq11, hf⟩ := rf_bindq hf
        refine rf_Vi (As := [.int (-4)]) (rest := []) (wr := [(a_this_now, .inr (0, rf_o0 a_this_now_kinds a_this_now_thicks g_this_now))]) (wn := [(a_this, .inr (2, rf_o2 a_this_now a_this_then a_this_trial a_this_search a_this_letters a_this_numbers a_this_thickest a_this_refusals g_this)), (a_this_now, .inr (0, rf_o0 a_this_now_kinds a_this_now_thicks g_this_now)), (a_this_refusals, .inl (cA, 7, .inl q11.2))]) ⟨hx, hb, hml, hown, hts⟩ hK hP hD hS hA hE (c_X2_refuse l D cA ad a_this a_this_now a_this_then a_this_trial a_this_search a_this_letters a_this_numbers a_this_thickest a_this_refusals H.size g_this f_this_refusals (-4) q11 hq11) (cwV 1 hts gX2_set_X2_refuse rfl rfl rfl hv_X2_refuse ⟨Nat.le_of_ble_eq_true rfl, Nat.le_of_ble_eq_true rfl⟩) [0, 2] [1] [1, 0, 2] rfl rfl rfl rfl (by decide) rfl rfl 2 0 rfl rfl rfl rfl rfl hl.1 (Nat.le_of_ble_eq_true rfl) dX2_set_30 ⟨Nat.zero_le _, Nat.zero_le _⟩ (fun H locs hP hD hS => ?_)
        obtain rfl := Option.some.inj hf
        exact W.iret (v := q11.1) hx hb hr (fun t ht hW => ⟨⟨q11.1, (), rfl, rfl, rf_mk ht hP hD⟩, hS.F ht⟩) hS.2.2 dX2_set_33
    · have hf := rf_ifn hf c3
      refine lv_aload_n hx hb dX2_set_9 rfl (lv_at hl 0 rfl) ?_
      refine lv_bipush (v := (-2)) hx hb dX2_set_10 (by decide) ?_
      obtain ⟨q12, hq12, hf⟩ := rf_bindq hf
      refine rf_Vi (As := [.int (-2)]) (rest := []) (wr := [(a_this_now, .inr (0, rf_o0 a_this_now_kinds a_this_now_thicks g_this_now))]) (wn := [(a_this, .inr (2, rf_o2 a_this_now a_this_then a_this_trial a_this_search a_this_letters a_this_numbers a_this_thickest a_this_refusals g_this)), (a_this_now, .inr (0, rf_o0 a_this_now_kinds a_this_now_thicks g_this_now)), (a_this_refusals, .inl (cA, 7, .inl q12.2))]) ⟨hx, hb, hml, hown, hts⟩ hK hP hD hS hA hE (c_X2_refuse l D cA ad a_this a_this_now a_this_then a_this_trial a_this_search a_this_letters a_this_numbers a_this_thickest a_this_refusals s.heap.size g_this f_this_refusals (-2) q12 hq12) (cwV 1 hts gX2_set_X2_refuse rfl rfl rfl hv_X2_refuse ⟨Nat.le_of_ble_eq_true rfl, Nat.le_of_ble_eq_true rfl⟩) [0, 2] [1] [1, 0, 2] rfl rfl rfl rfl (by decide) rfl rfl 2 0 rfl rfl rfl rfl rfl hl.1 (Nat.le_of_ble_eq_true rfl) dX2_set_12 ⟨Nat.zero_le _, Nat.zero_le _⟩ (fun H locs hP hD hS => ?_)
      obtain rfl := Option.some.inj hf
      exact W.iret (v := q12.1) hx hb hr (fun t ht hW => ⟨⟨q12.1, (), rfl, rfl, rf_mk ht hP hD⟩, hS.F ht⟩) hS.2.2 dX2_set_15
theorem kX2_back_0 : (.fieldLink RX2 10 "RingAndFinger" "now" "LRingAndFinger$Finger;" : Cond) ∈ wsX2_back := by decide +kernel
theorem kX2_back_1 : (.fieldLink RX2 100 "RingAndFinger$Finger" "front" "I" : Cond) ∈ wsX2_back := by decide +kernel
theorem jX2_back_X2 : ∀ w ∈ u_ws RX2 TX2 12, w ∈ wsX2_back := by decide +kernel
theorem jX2_back_X0 : ∀ w ∈ u_ws RX0 TX0 12, w ∈ wsX2_back := by decide +kernel
set_option maxHeartbeats 8000000 in
set_option maxRecDepth 100000 in
theorem c_X2_back (l : Launch) (D : va_G) (cA : ClassId) (ad : Nat → Nat) (a_this a_this_now a_this_then a_this_trial a_this_search a_this_letters a_this_numbers a_this_thickest a_this_refusals a_this_now_kinds a_this_now_thicks : Nat) (sz : Nat) (g_this g_this_now : Nat → Int32) (q : Int32 × (Nat → Int32)) (hf : f_X2_back g_this g_this_now = some q) : Met l yX2_back wsX2_back ({ frames := 0, cells := 0, slots := 0, locals := 0 } : Room) (va_Pc [.ref a_this] (rf_Pre D cA ad [(a_this, .inr (2, rf_o2 a_this_now a_this_then a_this_trial a_this_search a_this_letters a_this_numbers a_this_thickest a_this_refusals g_this)), (a_this_now, .inr (0, rf_o0 a_this_now_kinds a_this_now_thicks g_this_now))] sz)) (va_Qi (fun (r : Int32) (_ : Unit) => r = q.1) (fun _ t => rf_Post D (va_A [(a_this, .inr (2, rf_o2 a_this_now a_this_then a_this_trial a_this_search a_this_letters a_this_numbers a_this_thickest a_this_refusals g_this)), (a_this_now, .inr (0, rf_o0 a_this_now_kinds a_this_now_thicks g_this_now))] sz) [(a_this, .inr (2, rf_o2 a_this_now a_this_then a_this_trial a_this_search a_this_letters a_this_numbers a_this_thickest a_this_refusals g_this)), (a_this_now, .inr (0, rf_o0 a_this_now_kinds a_this_now_thicks q.2))] t) (va_A [(a_this, .inr (2, rf_o2 a_this_now a_this_then a_this_trial a_this_search a_this_letters a_this_numbers a_this_thickest a_this_refusals g_this)), (a_this_now, .inr (0, rf_o0 a_this_now_kinds a_this_now_thicks g_this_now))] sz)) 0 0 (va_A [(a_this, .inr (2, rf_o2 a_this_now a_this_then a_this_trial a_this_search a_this_letters a_this_numbers a_this_thickest a_this_refusals g_this)), (a_this_now, .inr (0, rf_o0 a_this_now_kinds a_this_now_thicks g_this_now))] sz) := by
  refine Met.ofW (cc := cX2_back) (maxL := 2) (ret := (some .int)) (by decide) rfl ?_
  intro p e s m args below meth c s₁ B hml hv
  obtain ⟨rfl, hsz, hP, hK, hD0, hE⟩ := hv
  have hx := B.exec
  have hb := B.bytes
  have hr := B.returns
  have hts := atoms_spec (ws := wsX2_back) B.pre
  have hown : s.vm.findClass RX2 = some m.cls := findClass_of_methodNamed B.named
  have hlocks := B.notSynchronized
  subst hsz
  have hD := hD0.self (sz := s.heap.size)
  generalize hAe : va_A [(a_this, .inr (2, rf_o2 a_this_now a_this_then a_this_trial a_this_search a_this_letters a_this_numbers a_this_thickest a_this_refusals g_this)), (a_this_now, .inr (0, rf_o0 a_this_now_kinds a_this_now_thicks g_this_now))] s.heap.size = A at hD hE ⊢
  have hA : ∀ q : Nat, s.heap.size ≤ q → A q := fun q h => by rw [← hAe]; exact Or.inr h
  have hS : va_S A s.heap s.heap [] := va_S.rf
  have hP : va_P D vwCl [(a_this, .inr (2, rf_o2 a_this_now a_this_then a_this_trial a_this_search a_this_letters a_this_numbers a_this_thickest a_this_refusals g_this)), (a_this_now, .inr (0, rf_o0 a_this_now_kinds a_this_now_thicks g_this_now))] s.heap := hP
  have hl := lv_entry ([.ref a_this]) (n := 2) (Nat.le_of_ble_eq_true rfl)
  rw [lg_entry_eq]
  generalize (lg_sl ([.ref a_this]) ++ List.replicate (2 - (lg_sl ([.ref a_this])).length) Slot.unset).toArray = ls at hl ⊢
  have hl : lv_has ls 2 [(0, .ref a_this)] := hl
  rw [f_X2_back] at hf
  refine lv_aload_n hx hb dX2_back_0 rfl (lv_at hl 0 rfl) ?_
  refine va_get (D := D) (ci := 2) (v := .ref a_this_now) (C := RX2) (T := TX2) (N := 12) hx hb hts jX2_back_X2 hown hK hP 0 rfl rfl 0 (by decide) (hts _ kX2_back_0) (fun _ h9 => h9) rfl dX2_back_1 ?_
  refine va_get (D := D) (ci := 0) (v := .int (g_this_now 3)) (C := RX0) (T := TX0) (N := 12) hx hb hts jX2_back_X0 hown hK hP 1 rfl rfl 5 (by decide) (hts _ kX2_back_1) (fun _ h9 => h9) rfl dX2_back_4 ?_
  refine lv_topi (fun v1 ev1 => ?_)
  have hf := rf_bindv hf ev1
  clear ev1
  refine lv_istore_n (lv' := [(1, .int v1), (0, .ref a_this)]) hx hb dX2_back_7 rfl hl (by decide) rfl (fun ls hl => ?_)
  refine lv_aload_n hx hb dX2_back_8 rfl (lv_at hl 1 rfl) ?_
  refine va_get (D := D) (ci := 2) (v := .ref a_this_now) (C := RX2) (T := TX2) (N := 12) hx hb hts jX2_back_X2 hown hK hP 0 rfl rfl 0 (by decide) (hts _ kX2_back_0) (fun _ h9 => h9) rfl dX2_back_9 ?_
  refine lv_iconst (v := 0) hx hb dX2_back_12 (by decide) ?_
  refine va_put (D := D) (ci := 0) (v := .int 0) (ty := .int) (C := RX0) (T := TX0) (N := 12) hx hb hts jX2_back_X0 tyX0 tyX0_ok nmX0 hown hK hP hD hS 1 rfl rfl 5 (by decide) (hts _ kX2_back_1) (fun _ h9 => h9) rfl (by decide +kernel) rfl rfl (Nat.le_of_ble_eq_true rfl) dX2_back_13 (fun H locs hP hD hS => ?_)
  have hP : va_P D vwCl [(a_this, .inr (2, rf_o2 a_this_now a_this_then a_this_trial a_this_search a_this_letters a_this_numbers a_this_thickest a_this_refusals g_this)), (a_this_now, .inr (0, rf_o0 a_this_now_kinds a_this_now_thicks (upd g_this_now 3 0)))] H := hP
  have hD : va_D A [(a_this, .inr (2, rf_o2 a_this_now a_this_then a_this_trial a_this_search a_this_letters a_this_numbers a_this_thickest a_this_refusals g_this)), (a_this_now, .inr (0, rf_o0 a_this_now_kinds a_this_now_thicks (upd g_this_now 3 0)))] := hD
  refine lv_iload_n hx hb dX2_back_16 rfl (lv_at hl 0 rfl) ?_
  obtain rfl := Option.some.inj hf
  exact W.iret (v := v1) hx hb hr (fun t ht hW => ⟨⟨v1, (), rfl, rfl, rf_mk ht hP hD⟩, hS.F ht⟩) hS.2.2 dX2_back_17
theorem kX2_kind_0 : (.fieldLink RX2 10 "RingAndFinger" "now" "LRingAndFinger$Finger;" : Cond) ∈ wsX2_kind := by decide +kernel
theorem kX2_kind_1 : (.fieldLink RX2 107 "RingAndFinger$Finger" "broad" "I" : Cond) ∈ wsX2_kind := by decide +kernel
theorem kX2_kind_2 : (.fieldLink RX2 114 "RingAndFinger" "MOVE_MINUTES" "[I" : Cond) ∈ wsX2_kind := by decide +kernel
theorem kX2_kind_3 : (.fieldLink RX2 117 "RingAndFinger" "MOVE_SWELL" "[I" : Cond) ∈ wsX2_kind := by decide +kernel
theorem kX2_kind_4 : (.fieldLink RX2 120 "RingAndFinger" "MOVE_HARM" "[I" : Cond) ∈ wsX2_kind := by decide +kernel
theorem jX2_kind_X2 : ∀ w ∈ u_ws RX2 TX2 12, w ∈ wsX2_kind := by decide +kernel
theorem jX2_kind_X0 : ∀ w ∈ u_ws RX0 TX0 12, w ∈ wsX2_kind := by decide +kernel
set_option maxHeartbeats 8000000 in
set_option maxRecDepth 100000 in
theorem c_X2_kind (l : Launch) (D : va_G) (cA : ClassId) (ad : Nat → Nat) (a_this a_this_now a_this_then a_this_trial a_this_search a_this_letters a_this_numbers a_this_thickest a_this_refusals a_this_now_kinds a_this_now_thicks : Nat) (sz : Nat) (g_this g_this_now f_this_refusals : Nat → Int32) (p1 p2 : Int32) (q : Int32 × (Nat → Int32)) (hf : f_X2_kind g_this g_this_now f_this_refusals p1 p2 = some q) : Met l yX2_kind wsX2_kind ({ frames := 2, cells := 0, slots := 0, locals := 43 } : Room) (va_Pc [.ref a_this, .int p1, .int p2] (rf_Pre D cA ad [(a_this, .inr (2, rf_o2 a_this_now a_this_then a_this_trial a_this_search a_this_letters a_this_numbers a_this_thickest a_this_refusals g_this)), (a_this_now, .inr (0, rf_o0 a_this_now_kinds a_this_now_thicks g_this_now)), (a_this_refusals, .inl (cA, 7, .inl f_this_refusals))] sz)) (va_Qi (fun (r : Int32) (_ : Unit) => r = q.1) (fun _ t => rf_Post D (va_A [(a_this, .inr (2, rf_o2 a_this_now a_this_then a_this_trial a_this_search a_this_letters a_this_numbers a_this_thickest a_this_refusals g_this)), (a_this_now, .inr (0, rf_o0 a_this_now_kinds a_this_now_thicks g_this_now)), (a_this_refusals, .inl (cA, 7, .inl f_this_refusals))] sz) [(a_this, .inr (2, rf_o2 a_this_now a_this_then a_this_trial a_this_search a_this_letters a_this_numbers a_this_thickest a_this_refusals g_this)), (a_this_now, .inr (0, rf_o0 a_this_now_kinds a_this_now_thicks g_this_now)), (a_this_refusals, .inl (cA, 7, .inl q.2))] t) (va_A [(a_this, .inr (2, rf_o2 a_this_now a_this_then a_this_trial a_this_search a_this_letters a_this_numbers a_this_thickest a_this_refusals g_this)), (a_this_now, .inr (0, rf_o0 a_this_now_kinds a_this_now_thicks g_this_now)), (a_this_refusals, .inl (cA, 7, .inl f_this_refusals))] sz)) 0 0 (va_A [(a_this, .inr (2, rf_o2 a_this_now a_this_then a_this_trial a_this_search a_this_letters a_this_numbers a_this_thickest a_this_refusals g_this)), (a_this_now, .inr (0, rf_o0 a_this_now_kinds a_this_now_thicks g_this_now)), (a_this_refusals, .inl (cA, 7, .inl f_this_refusals))] sz) := by
  refine Met.ofW (cc := cX2_kind) (maxL := 3) (ret := (some .int)) (by decide) rfl ?_
  intro p e s m args below meth c s₁ B hml hv
  obtain ⟨rfl, hsz, hP, hK, hD0, hE⟩ := hv
  have hx := B.exec
  have hb := B.bytes
  have hr := B.returns
  have hts := atoms_spec (ws := wsX2_kind) B.pre
  have hown : s.vm.findClass RX2 = some m.cls := findClass_of_methodNamed B.named
  have hlocks := B.notSynchronized
  subst hsz
  have hD := hD0.self (sz := s.heap.size)
  generalize hAe : va_A [(a_this, .inr (2, rf_o2 a_this_now a_this_then a_this_trial a_this_search a_this_letters a_this_numbers a_this_thickest a_this_refusals g_this)), (a_this_now, .inr (0, rf_o0 a_this_now_kinds a_this_now_thicks g_this_now)), (a_this_refusals, .inl (cA, 7, .inl f_this_refusals))] s.heap.size = A at hD hE ⊢
  have hA : ∀ q : Nat, s.heap.size ≤ q → A q := fun q h => by rw [← hAe]; exact Or.inr h
  have hS : va_S A s.heap s.heap [] := va_S.rf
  have hP : va_P D vwCl [(a_this, .inr (2, rf_o2 a_this_now a_this_then a_this_trial a_this_search a_this_letters a_this_numbers a_this_thickest a_this_refusals g_this)), (a_this_now, .inr (0, rf_o0 a_this_now_kinds a_this_now_thicks g_this_now)), (a_this_refusals, .inl (cA, 7, .inl f_this_refusals))] s.heap := hP
  have hl := lv_entry ([.ref a_this, .int p1, .int p2]) (n := 3) (Nat.le_of_ble_eq_true rfl)
  rw [lg_entry_eq]
  generalize (lg_sl ([.ref a_this, .int p1, .int p2]) ++ List.replicate (3 - (lg_sl ([.ref a_this, .int p1, .int p2])).length) Slot.unset).toArray = ls at hl ⊢
  have hl : lv_has ls 3 [(0, .ref a_this), (1, .int p1), (2, .int p2)] := hl
  rw [f_X2_kind] at hf
  refine lv_iload_n hx hb dX2_kind_0 rfl (lv_at hl 1 rfl) ?_
  obtain ⟨q1, hq1, hf⟩ := rf_bindq hf
  refine rf_Si (As := [.int p1]) (rest := []) (wr := [(a_this, .inr (2, rf_o2 a_this_now a_this_then a_this_trial a_this_search a_this_letters a_this_numbers a_this_thickest a_this_refusals g_this)), (a_this_now, .inr (0, rf_o0 a_this_now_kinds a_this_now_thicks g_this_now)), (a_this_refusals, .inl (cA, 7, .inl f_this_refusals))]) (wn := [(a_this, .inr (2, rf_o2 a_this_now a_this_then a_this_trial a_this_search a_this_letters a_this_numbers a_this_thickest a_this_refusals g_this)), (a_this_now, .inr (0, rf_o0 a_this_now_kinds a_this_now_thicks g_this_now)), (a_this_refusals, .inl (cA, 7, .inl f_this_refusals))]) ⟨hx, hb, hml, hown, hts⟩ hK hP hD hS hA hE (c_X2_isTry l D cA ad s.heap.size p1 q1 hq1) (va_cwS 1 hts gX2_kind_X2_isTry rfl rfl rfl hs_X2_isTry ⟨Nat.le_of_ble_eq_true rfl, Nat.le_of_ble_eq_true rfl⟩) [] [0, 1, 2] [0, 1, 2] rfl rfl rfl rfl (by decide) rfl rfl rfl rfl hl.1 (Nat.le_of_ble_eq_true rfl) dX2_kind_1 ⟨Nat.zero_le _, Nat.zero_le _⟩ (fun H locs hP hD hS => ?_)
  refine lv_if_ne (tgt := 14) hx hb dX2_kind_4 (by decide) (fun c2 => ?_) (fun c2 => ?_)
  · have hf := rf_ifn hf c2
    refine lv_iload_n hx hb dX2_kind_14 rfl (lv_at hl 2 rfl) ?_
    by_cases c3 : p2 = 0
    · have hf := rf_ifp hf c3
      refine rf_tabC (off := 29) (tgt := 44) hx hb dX2_kind_15 c3 (by decide) (by decide) (by decide) (by decide) ?_
      refine lv_iload_n hx hb dX2_kind_44 rfl (lv_at hl 1 rfl) ?_
      refine lv_aload_n hx hb dX2_kind_45 rfl (lv_at hl 0 rfl) ?_
      refine va_get (D := D) (ci := 2) (v := .ref a_this_now) (C := RX2) (T := TX2) (N := 12) hx hb hts jX2_kind_X2 hown hK hP 0 rfl rfl 0 (by decide) (hts _ kX2_kind_0) (fun _ h9 => h9) rfl dX2_kind_46 ?_
      refine va_get (D := D) (ci := 0) (v := .int (g_this_now 2)) (C := RX0) (T := TX0) (N := 12) hx hb hts jX2_kind_X0 hown hK hP 1 rfl rfl 4 (by decide) (hts _ kX2_kind_1) (fun _ h9 => h9) rfl dX2_kind_49 ?_
      obtain ⟨q4, hq4, hf⟩ := rf_bindq hf
      refine rf_Si (As := [.int p1, .int (g_this_now 2)]) (rest := []) (wr := [(a_this, .inr (2, rf_o2 a_this_now a_this_then a_this_trial a_this_search a_this_letters a_this_numbers a_this_thickest a_this_refusals g_this)), (a_this_now, .inr (0, rf_o0 a_this_now_kinds a_this_now_thicks g_this_now)), (a_this_refusals, .inl (cA, 7, .inl f_this_refusals))]) (wn := [(a_this, .inr (2, rf_o2 a_this_now a_this_then a_this_trial a_this_search a_this_letters a_this_numbers a_this_thickest a_this_refusals g_this)), (a_this_now, .inr (0, rf_o0 a_this_now_kinds a_this_now_thicks g_this_now)), (a_this_refusals, .inl (cA, 7, .inl f_this_refusals))]) ⟨hx, hb, hml, hown, hts⟩ hK hP hD hS hA hE (c_X2_allowance l D cA ad H.size p1 (g_this_now 2) q4 hq4) (va_cwS 2 hts gX2_kind_X2_allowance rfl rfl rfl hs_X2_allowance ⟨Nat.le_of_ble_eq_true rfl, Nat.le_of_ble_eq_true rfl⟩) [] [0, 1, 2] [0, 1, 2] rfl rfl rfl rfl (by decide) rfl rfl rfl rfl hl.1 (Nat.le_of_ble_eq_true rfl) dX2_kind_52 ⟨Nat.zero_le _, Nat.zero_le _⟩ (fun H locs hP hD hS => ?_)
      obtain rfl := Option.some.inj hf
      exact W.iret (v := q4) hx hb hr (fun t ht hW => ⟨⟨q4, (), rfl, rfl, rf_mk ht hP hD⟩, hS.F ht⟩) hS.2.2 dX2_kind_55
    · have hf := rf_ifn hf c3
      by_cases c5 : p2 = 1
      · have hf := rf_ifp hf c5
        refine rf_tabC (off := 41) (tgt := 56) hx hb dX2_kind_15 c5 (by decide) (by decide) (by decide) (by decide) ?_
        refine va_gets (v := .ref (ad 2)) hx hb (hE.2.2 2 _ rfl).1 hS hown (hts _ kX2_kind_2) (fun _ h9 => h9) dX2_kind_56 ?_
        refine lv_iload_n hx hb dX2_kind_59 rfl (lv_at hl 1 rfl) ?_
        obtain ⟨q6, hq6, hf⟩ := rf_bindq hf
        refine rf_SiT (As := [.ref (ad 2), .int p1]) (rest := []) ⟨hx, hb, hml, hown, hts⟩ hK hP hD hS hA hE (c_X2_at_T l D cA ad (ad 2) H.size 8 rf_a2 p1 q6 hq6) (va_cwS 2 hts gX2_kind_X2_at rfl rfl rfl hs_X2_at ⟨Nat.le_of_ble_eq_true rfl, Nat.le_of_ble_eq_true rfl⟩) rfl rfl hl.1 (Nat.le_of_ble_eq_true rfl) dX2_kind_60 ⟨Nat.zero_le _, Nat.zero_le _⟩ (hE.2.2 2 _ rfl).2 (fun H locs hP hD hS => ?_)
        obtain rfl := Option.some.inj hf
        exact W.iret (v := q6) hx hb hr (fun t ht hW => ⟨⟨q6, (), rfl, rfl, rf_mk ht hP hD⟩, hS.F ht⟩) hS.2.2 dX2_kind_63
      · have hf := rf_ifn hf c5
        by_cases c7 : p2 = 2
        · have hf := rf_ifp hf c7
          refine rf_tabC (off := 49) (tgt := 64) hx hb dX2_kind_15 c7 (by decide) (by decide) (by decide) (by decide) ?_
          refine va_gets (v := .ref (ad 3)) hx hb (hE.2.2 3 _ rfl).1 hS hown (hts _ kX2_kind_3) (fun _ h9 => h9) dX2_kind_64 ?_
          refine lv_iload_n hx hb dX2_kind_67 rfl (lv_at hl 1 rfl) ?_
          obtain ⟨q8, hq8, hf⟩ := rf_bindq hf
          refine rf_SiT (As := [.ref (ad 3), .int p1]) (rest := []) ⟨hx, hb, hml, hown, hts⟩ hK hP hD hS hA hE (c_X2_at_T l D cA ad (ad 3) H.size 8 rf_a3 p1 q8 hq8) (va_cwS 2 hts gX2_kind_X2_at rfl rfl rfl hs_X2_at ⟨Nat.le_of_ble_eq_true rfl, Nat.le_of_ble_eq_true rfl⟩) rfl rfl hl.1 (Nat.le_of_ble_eq_true rfl) dX2_kind_68 ⟨Nat.zero_le _, Nat.zero_le _⟩ (hE.2.2 3 _ rfl).2 (fun H locs hP hD hS => ?_)
          obtain rfl := Option.some.inj hf
          exact W.iret (v := q8) hx hb hr (fun t ht hW => ⟨⟨q8, (), rfl, rfl, rf_mk ht hP hD⟩, hS.F ht⟩) hS.2.2 dX2_kind_71
        · have hf := rf_ifn hf c7
          by_cases c9 : p2 = 3
          · have hf := rf_ifp hf c9
            refine rf_tabC (off := 57) (tgt := 72) hx hb dX2_kind_15 c9 (by decide) (by decide) (by decide) (by decide) ?_
            refine va_gets (v := .ref (ad 4)) hx hb (hE.2.2 4 _ rfl).1 hS hown (hts _ kX2_kind_4) (fun _ h9 => h9) dX2_kind_72 ?_
            refine lv_iload_n hx hb dX2_kind_75 rfl (lv_at hl 1 rfl) ?_
            obtain ⟨q10, hq10, hf⟩ := rf_bindq hf
            refine rf_SiT (As := [.ref (ad 4), .int p1]) (rest := []) ⟨hx, hb, hml, hown, hts⟩ hK hP hD hS hA hE (c_X2_at_T l D cA ad (ad 4) H.size 8 rf_a4 p1 q10 hq10) (va_cwS 2 hts gX2_kind_X2_at rfl rfl rfl hs_X2_at ⟨Nat.le_of_ble_eq_true rfl, Nat.le_of_ble_eq_true rfl⟩) rfl rfl hl.1 (Nat.le_of_ble_eq_true rfl) dX2_kind_76 ⟨Nat.zero_le _, Nat.zero_le _⟩ (hE.2.2 4 _ rfl).2 (fun H locs hP hD hS => ?_)
            obtain rfl := Option.some.inj hf
            exact W.iret (v := q10) hx hb hr (fun t ht hW => ⟨⟨q10, (), rfl, rfl, rf_mk ht hP hD⟩, hS.F ht⟩) hS.2.2 dX2_kind_79
          · have hf := rf_ifn hf c9
            refine rf_tabD (tgt := 80) (ks := [0, 1, 2, 3]) hx hb dX2_kind_15 (by intro z hz; simp only [List.mem_cons, List.not_mem_nil, or_false] at hz; rcases hz with rfl | rfl | rfl | rfl <;> assumption) (by decide) (by decide) ?_
            refine lv_aload_n hx hb dX2_kind_80 rfl (lv_at hl 0 rfl) ?_
            refine lv_bipush (v := (-2)) hx hb dX2_kind_81 (by decide) ?_
            obtain ⟨q11, hq11, hf⟩ := rf_bindq hf
            refine rf_Vi (As := [.int (-2)]) (rest := []) (wr := [(a_this_now, .inr (0, rf_o0 a_this_now_kinds a_this_now_thicks g_this_now))]) (wn := [(a_this, .inr (2, rf_o2 a_this_now a_this_then a_this_trial a_this_search a_this_letters a_this_numbers a_this_thickest a_this_refusals g_this)), (a_this_now, .inr (0, rf_o0 a_this_now_kinds a_this_now_thicks g_this_now)), (a_this_refusals, .inl (cA, 7, .inl q11.2))]) ⟨hx, hb, hml, hown, hts⟩ hK hP hD hS hA hE (c_X2_refuse l D cA ad a_this a_this_now a_this_then a_this_trial a_this_search a_this_letters a_this_numbers a_this_thickest a_this_refusals H.size g_this f_this_refusals (-2) q11 hq11) (cwV 1 hts gX2_kind_X2_refuse rfl rfl rfl hv_X2_refuse ⟨Nat.le_of_ble_eq_true rfl, Nat.le_of_ble_eq_true rfl⟩) [0, 2] [1] [1, 0, 2] rfl rfl rfl rfl (by decide) rfl rfl 2 0 rfl rfl rfl rfl rfl hl.1 (Nat.le_of_ble_eq_true rfl) dX2_kind_83 ⟨Nat.zero_le _, Nat.zero_le _⟩ (fun H locs hP hD hS => ?_)
            obtain rfl := Option.some.inj hf
            exact W.iret (v := q11.1) hx hb hr (fun t ht hW => ⟨⟨q11.1, (), rfl, rfl, rf_mk ht hP hD⟩, hS.F ht⟩) hS.2.2 dX2_kind_86
  · have hf := rf_ifp hf c2
    refine lv_aload_n hx hb dX2_kind_7 rfl (lv_at hl 0 rfl) ?_
    refine lv_bipush (v := (-2)) hx hb dX2_kind_8 (by decide) ?_
    obtain ⟨q12, hq12, hf⟩ := rf_bindq hf
    refine rf_Vi (As := [.int (-2)]) (rest := []) (wr := [(a_this_now, .inr (0, rf_o0 a_this_now_kinds a_this_now_thicks g_this_now))]) (wn := [(a_this, .inr (2, rf_o2 a_this_now a_this_then a_this_trial a_this_search a_this_letters a_this_numbers a_this_thickest a_this_refusals g_this)), (a_this_now, .inr (0, rf_o0 a_this_now_kinds a_this_now_thicks g_this_now)), (a_this_refusals, .inl (cA, 7, .inl q12.2))]) ⟨hx, hb, hml, hown, hts⟩ hK hP hD hS hA hE (c_X2_refuse l D cA ad a_this a_this_now a_this_then a_this_trial a_this_search a_this_letters a_this_numbers a_this_thickest a_this_refusals H.size g_this f_this_refusals (-2) q12 hq12) (cwV 1 hts gX2_kind_X2_refuse rfl rfl rfl hv_X2_refuse ⟨Nat.le_of_ble_eq_true rfl, Nat.le_of_ble_eq_true rfl⟩) [0, 2] [1] [1, 0, 2] rfl rfl rfl rfl (by decide) rfl rfl 2 0 rfl rfl rfl rfl rfl hl.1 (Nat.le_of_ble_eq_true rfl) dX2_kind_10 ⟨Nat.zero_le _, Nat.zero_le _⟩ (fun H locs hP hD hS => ?_)
    obtain rfl := Option.some.inj hf
    exact W.iret (v := q12.1) hx hb hr (fun t ht hW => ⟨⟨q12.1, (), rfl, rfl, rf_mk ht hP hD⟩, hS.F ht⟩) hS.2.2 dX2_kind_13
theorem kX2_tryRefusal_0 : (.fieldLink RX2 10 "RingAndFinger" "now" "LRingAndFinger$Finger;" : Cond) ∈ wsX2_tryRefusal := by decide +kernel
theorem jX2_tryRefusal_X2 : ∀ w ∈ u_ws RX2 TX2 12, w ∈ wsX2_tryRefusal := by decide +kernel
set_option maxHeartbeats 8000000 in
set_option maxRecDepth 100000 in
theorem c_X2_tryRefusal (l : Launch) (D : va_G) (cA : ClassId) (ad : Nat → Nat) (a_this a_this_now a_this_then a_this_trial a_this_search a_this_letters a_this_numbers a_this_thickest a_this_refusals a_this_now_kinds a_this_now_thicks : Nat) (sz : Nat) (g_this g_this_now f_this_refusals : Nat → Int32) (p1 : Int32) (q : Int32 × (Nat → Int32)) (hf : f_X2_tryRefusal g_this g_this_now f_this_refusals p1 = some q) : Met l yX2_tryRefusal wsX2_tryRefusal ({ frames := 2, cells := 0, slots := 0, locals := 43 } : Room) (va_Pc [.ref a_this, .int p1] (rf_Pre D cA ad [(a_this, .inr (2, rf_o2 a_this_now a_this_then a_this_trial a_this_search a_this_letters a_this_numbers a_this_thickest a_this_refusals g_this)), (a_this_now, .inr (0, rf_o0 a_this_now_kinds a_this_now_thicks g_this_now)), (a_this_refusals, .inl (cA, 7, .inl f_this_refusals))] sz)) (va_Qi (fun (r : Int32) (_ : Unit) => r = q.1) (fun _ t => rf_Post D (va_A [(a_this, .inr (2, rf_o2 a_this_now a_this_then a_this_trial a_this_search a_this_letters a_this_numbers a_this_thickest a_this_refusals g_this)), (a_this_now, .inr (0, rf_o0 a_this_now_kinds a_this_now_thicks g_this_now)), (a_this_refusals, .inl (cA, 7, .inl f_this_refusals))] sz) [(a_this, .inr (2, rf_o2 a_this_now a_this_then a_this_trial a_this_search a_this_letters a_this_numbers a_this_thickest a_this_refusals g_this)), (a_this_now, .inr (0, rf_o0 a_this_now_kinds a_this_now_thicks g_this_now)), (a_this_refusals, .inl (cA, 7, .inl q.2))] t) (va_A [(a_this, .inr (2, rf_o2 a_this_now a_this_then a_this_trial a_this_search a_this_letters a_this_numbers a_this_thickest a_this_refusals g_this)), (a_this_now, .inr (0, rf_o0 a_this_now_kinds a_this_now_thicks g_this_now)), (a_this_refusals, .inl (cA, 7, .inl f_this_refusals))] sz)) 0 0 (va_A [(a_this, .inr (2, rf_o2 a_this_now a_this_then a_this_trial a_this_search a_this_letters a_this_numbers a_this_thickest a_this_refusals g_this)), (a_this_now, .inr (0, rf_o0 a_this_now_kinds a_this_now_thicks g_this_now)), (a_this_refusals, .inl (cA, 7, .inl f_this_refusals))] sz) := by
  refine Met.ofW (cc := cX2_tryRefusal) (maxL := 2) (ret := (some .int)) (by decide) rfl ?_
  intro p e s m args below meth c s₁ B hml hv
  obtain ⟨rfl, hsz, hP, hK, hD0, hE⟩ := hv
  have hx := B.exec
  have hb := B.bytes
  have hr := B.returns
  have hts := atoms_spec (ws := wsX2_tryRefusal) B.pre
  have hown : s.vm.findClass RX2 = some m.cls := findClass_of_methodNamed B.named
  have hlocks := B.notSynchronized
  subst hsz
  have hD := hD0.self (sz := s.heap.size)
  generalize hAe : va_A [(a_this, .inr (2, rf_o2 a_this_now a_this_then a_this_trial a_this_search a_this_letters a_this_numbers a_this_thickest a_this_refusals g_this)), (a_this_now, .inr (0, rf_o0 a_this_now_kinds a_this_now_thicks g_this_now)), (a_this_refusals, .inl (cA, 7, .inl f_this_refusals))] s.heap.size = A at hD hE ⊢
  have hA : ∀ q : Nat, s.heap.size ≤ q → A q := fun q h => by rw [← hAe]; exact Or.inr h
  have hS : va_S A s.heap s.heap [] := va_S.rf
  have hP : va_P D vwCl [(a_this, .inr (2, rf_o2 a_this_now a_this_then a_this_trial a_this_search a_this_letters a_this_numbers a_this_thickest a_this_refusals g_this)), (a_this_now, .inr (0, rf_o0 a_this_now_kinds a_this_now_thicks g_this_now)), (a_this_refusals, .inl (cA, 7, .inl f_this_refusals))] s.heap := hP
  have hl := lv_entry ([.ref a_this, .int p1]) (n := 2) (Nat.le_of_ble_eq_true rfl)
  rw [lg_entry_eq]
  generalize (lg_sl ([.ref a_this, .int p1]) ++ List.replicate (2 - (lg_sl ([.ref a_this, .int p1])).length) Slot.unset).toArray = ls at hl ⊢
  have hl : lv_has ls 2 [(0, .ref a_this), (1, .int p1)] := hl
  rw [f_X2_tryRefusal] at hf
  refine lv_iload_n hx hb dX2_tryRefusal_0 rfl (lv_at hl 1 rfl) ?_
  obtain ⟨q1, hq1, hf⟩ := rf_bindq hf
  refine rf_Si (As := [.int p1]) (rest := []) (wr := [(a_this, .inr (2, rf_o2 a_this_now a_this_then a_this_trial a_this_search a_this_letters a_this_numbers a_this_thickest a_this_refusals g_this)), (a_this_now, .inr (0, rf_o0 a_this_now_kinds a_this_now_thicks g_this_now)), (a_this_refusals, .inl (cA, 7, .inl f_this_refusals))]) (wn := [(a_this, .inr (2, rf_o2 a_this_now a_this_then a_this_trial a_this_search a_this_letters a_this_numbers a_this_thickest a_this_refusals g_this)), (a_this_now, .inr (0, rf_o0 a_this_now_kinds a_this_now_thicks g_this_now)), (a_this_refusals, .inl (cA, 7, .inl f_this_refusals))]) ⟨hx, hb, hml, hown, hts⟩ hK hP hD hS hA hE (c_X2_isTry l D cA ad s.heap.size p1 q1 hq1) (va_cwS 1 hts gX2_tryRefusal_X2_isTry rfl rfl rfl hs_X2_isTry ⟨Nat.le_of_ble_eq_true rfl, Nat.le_of_ble_eq_true rfl⟩) [] [0, 1, 2] [0, 1, 2] rfl rfl rfl rfl (by decide) rfl rfl rfl rfl hl.1 (Nat.le_of_ble_eq_true rfl) dX2_tryRefusal_1 ⟨Nat.zero_le _, Nat.zero_le _⟩ (fun H locs hP hD hS => ?_)
  refine lv_if_ne (tgt := 14) hx hb dX2_tryRefusal_4 (by decide) (fun c2 => ?_) (fun c2 => ?_)
  · have hf := rf_ifn hf c2
    refine lv_aload_n hx hb dX2_tryRefusal_14 rfl (lv_at hl 0 rfl) ?_
    refine va_get (D := D) (ci := 2) (v := .ref a_this_now) (C := RX2) (T := TX2) (N := 12) hx hb hts jX2_tryRefusal_X2 hown hK hP 0 rfl rfl 0 (by decide) (hts _ kX2_tryRefusal_0) (fun _ h9 => h9) rfl dX2_tryRefusal_15 ?_
    obtain ⟨q3, hq3, hf⟩ := rf_bindq hf
    refine rf_Vi (As := []) (rest := []) (wr := [(a_this, .inr (2, rf_o2 a_this_now a_this_then a_this_trial a_this_search a_this_letters a_this_numbers a_this_thickest a_this_refusals g_this)), (a_this_refusals, .inl (cA, 7, .inl f_this_refusals))]) (wn := [(a_this, .inr (2, rf_o2 a_this_now a_this_then a_this_trial a_this_search a_this_letters a_this_numbers a_this_thickest a_this_refusals g_this)), (a_this_now, .inr (0, rf_o0 a_this_now_kinds a_this_now_thicks g_this_now)), (a_this_refusals, .inl (cA, 7, .inl f_this_refusals))]) ⟨hx, hb, hml, hown, hts⟩ hK hP hD hS hA hE (c_X0_isOff l D cA ad a_this_now a_this_now_kinds a_this_now_thicks H.size g_this_now q3 hq3) (cwV 0 hts gX2_tryRefusal_X0_isOff rfl rfl rfl hv_X0_isOff ⟨Nat.le_of_ble_eq_true rfl, Nat.le_of_ble_eq_true rfl⟩) [1] [0, 2] [0, 2, 1] rfl rfl rfl rfl (by decide) rfl rfl 0 1 rfl rfl rfl rfl rfl hl.1 (Nat.le_of_ble_eq_true rfl) dX2_tryRefusal_18 ⟨Nat.zero_le _, Nat.zero_le _⟩ (fun H locs hP hD hS => ?_)
    refine lv_if_eq (tgt := 33) hx hb dX2_tryRefusal_21 (by decide) (fun c4 => ?_) (fun c4 => ?_)
    · have hf := rf_ifp hf c4
      refine lv_iconst (v := 0) hx hb dX2_tryRefusal_33 (by decide) ?_
      obtain rfl := Option.some.inj hf
      exact W.iret (v := 0) hx hb hr (fun t ht hW => ⟨⟨0, (), rfl, rfl, rf_mk ht hP hD⟩, hS.F ht⟩) hS.2.2 dX2_tryRefusal_34
    · have hf := rf_ifn hf c4
      refine lv_aload_n hx hb dX2_tryRefusal_24 rfl (lv_at hl 0 rfl) ?_
      refine lv_bipush (v := (-3)) hx hb dX2_tryRefusal_25 (by decide) ?_
      obtain ⟨q5, hq5, hf⟩ := rf_bindq hf
      refine rf_Vi (As := [.int (-3)]) (rest := []) (wr := [(a_this_now, .inr (0, rf_o0 a_this_now_kinds a_this_now_thicks g_this_now))]) (wn := [(a_this, .inr (2, rf_o2 a_this_now a_this_then a_this_trial a_this_search a_this_letters a_this_numbers a_this_thickest a_this_refusals g_this)), (a_this_now, .inr (0, rf_o0 a_this_now_kinds a_this_now_thicks g_this_now)), (a_this_refusals, .inl (cA, 7, .inl q5.2))]) ⟨hx, hb, hml, hown, hts⟩ hK hP hD hS hA hE (c_X2_refuse l D cA ad a_this a_this_now a_this_then a_this_trial a_this_search a_this_letters a_this_numbers a_this_thickest a_this_refusals H.size g_this f_this_refusals (-3) q5 hq5) (cwV 1 hts gX2_tryRefusal_X2_refuse rfl rfl rfl hv_X2_refuse ⟨Nat.le_of_ble_eq_true rfl, Nat.le_of_ble_eq_true rfl⟩) [0, 2] [1] [1, 0, 2] rfl rfl rfl rfl (by decide) rfl rfl 2 0 rfl rfl rfl rfl rfl hl.1 (Nat.le_of_ble_eq_true rfl) dX2_tryRefusal_27 ⟨Nat.zero_le _, Nat.zero_le _⟩ (fun H locs hP hD hS => ?_)
      refine lv_goto (tgt := 34) hx hb dX2_tryRefusal_30 (by decide) ?_
      obtain rfl := Option.some.inj hf
      exact W.iret (v := q5.1) hx hb hr (fun t ht hW => ⟨⟨q5.1, (), rfl, rfl, rf_mk ht hP hD⟩, hS.F ht⟩) hS.2.2 dX2_tryRefusal_34
  · have hf := rf_ifp hf c2
    refine lv_aload_n hx hb dX2_tryRefusal_7 rfl (lv_at hl 0 rfl) ?_
    refine lv_bipush (v := (-2)) hx hb dX2_tryRefusal_8 (by decide) ?_
    obtain ⟨q6, hq6, hf⟩ := rf_bindq hf
    refine rf_Vi (As := [.int (-2)]) (rest := []) (wr := [(a_this_now, .inr (0, rf_o0 a_this_now_kinds a_this_now_thicks g_this_now))]) (wn := [(a_this, .inr (2, rf_o2 a_this_now a_this_then a_this_trial a_this_search a_this_letters a_this_numbers a_this_thickest a_this_refusals g_this)), (a_this_now, .inr (0, rf_o0 a_this_now_kinds a_this_now_thicks g_this_now)), (a_this_refusals, .inl (cA, 7, .inl q6.2))]) ⟨hx, hb, hml, hown, hts⟩ hK hP hD hS hA hE (c_X2_refuse l D cA ad a_this a_this_now a_this_then a_this_trial a_this_search a_this_letters a_this_numbers a_this_thickest a_this_refusals H.size g_this f_this_refusals (-2) q6 hq6) (cwV 1 hts gX2_tryRefusal_X2_refuse rfl rfl rfl hv_X2_refuse ⟨Nat.le_of_ble_eq_true rfl, Nat.le_of_ble_eq_true rfl⟩) [0, 2] [1] [1, 0, 2] rfl rfl rfl rfl (by decide) rfl rfl 2 0 rfl rfl rfl rfl rfl hl.1 (Nat.le_of_ble_eq_true rfl) dX2_tryRefusal_10 ⟨Nat.zero_le _, Nat.zero_le _⟩ (fun H locs hP hD hS => ?_)
    obtain rfl := Option.some.inj hf
    exact W.iret (v := q6.1) hx hb hr (fun t ht hW => ⟨⟨q6.1, (), rfl, rfl, rf_mk ht hP hD⟩, hS.F ht⟩) hS.2.2 dX2_tryRefusal_13
theorem kX2_tries_0 : (.fieldLink RX2 10 "RingAndFinger" "now" "LRingAndFinger$Finger;" : Cond) ∈ wsX2_tries := by decide +kernel
theorem kX2_tries_1 : (.fieldLink RX2 114 "RingAndFinger" "MOVE_MINUTES" "[I" : Cond) ∈ wsX2_tries := by decide +kernel
theorem jX2_tries_X2 : ∀ w ∈ u_ws RX2 TX2 12, w ∈ wsX2_tries := by decide +kernel
set_option maxHeartbeats 8000000 in
set_option maxRecDepth 100000 in
theorem c_X2_tries (l : Launch) (D : va_G) (cA : ClassId) (ad : Nat → Nat) (a_this a_this_now a_this_then a_this_trial a_this_search a_this_letters a_this_numbers a_this_thickest a_this_refusals a_this_now_kinds a_this_now_thicks : Nat) (sz : Nat) (g_this g_this_now f_this_now_kinds f_this_now_thicks f_this_refusals : Nat → Int32) (p1 : Int32) (q : Int32 × (Nat → Int32) × (Nat → Int32)) (hf : f_X2_tries g_this g_this_now f_this_now_kinds f_this_now_thicks f_this_refusals p1 = some q) : Met l yX2_tries wsX2_tries ({ frames := 4, cells := 0, slots := 0, locals := 91 } : Room) (va_Pc [.ref a_this, .int p1] (rf_Pre D cA ad [(a_this, .inr (2, rf_o2 a_this_now a_this_then a_this_trial a_this_search a_this_letters a_this_numbers a_this_thickest a_this_refusals g_this)), (a_this_now, .inr (0, rf_o0 a_this_now_kinds a_this_now_thicks g_this_now)), (a_this_now_kinds, .inl (cA, 6, .inl f_this_now_kinds)), (a_this_now_thicks, .inl (cA, 6, .inl f_this_now_thicks)), (a_this_refusals, .inl (cA, 7, .inl f_this_refusals))] sz)) (va_Qi (fun (r : Int32) (_ : Unit) => r = q.1) (fun _ t => rf_Post D (va_A [(a_this, .inr (2, rf_o2 a_this_now a_this_then a_this_trial a_this_search a_this_letters a_this_numbers a_this_thickest a_this_refusals g_this)), (a_this_now, .inr (0, rf_o0 a_this_now_kinds a_this_now_thicks g_this_now)), (a_this_now_kinds, .inl (cA, 6, .inl f_this_now_kinds)), (a_this_now_thicks, .inl (cA, 6, .inl f_this_now_thicks)), (a_this_refusals, .inl (cA, 7, .inl f_this_refusals))] sz) [(a_this, .inr (2, rf_o2 a_this_now a_this_then a_this_trial a_this_search a_this_letters a_this_numbers a_this_thickest a_this_refusals g_this)), (a_this_now, .inr (0, rf_o0 a_this_now_kinds a_this_now_thicks q.2.1)), (a_this_now_kinds, .inl (cA, 6, .inl f_this_now_kinds)), (a_this_now_thicks, .inl (cA, 6, .inl f_this_now_thicks)), (a_this_refusals, .inl (cA, 7, .inl q.2.2))] t) (va_A [(a_this, .inr (2, rf_o2 a_this_now a_this_then a_this_trial a_this_search a_this_letters a_this_numbers a_this_thickest a_this_refusals g_this)), (a_this_now, .inr (0, rf_o0 a_this_now_kinds a_this_now_thicks g_this_now)), (a_this_now_kinds, .inl (cA, 6, .inl f_this_now_kinds)), (a_this_now_thicks, .inl (cA, 6, .inl f_this_now_thicks)), (a_this_refusals, .inl (cA, 7, .inl f_this_refusals))] sz)) 0 0 (va_A [(a_this, .inr (2, rf_o2 a_this_now a_this_then a_this_trial a_this_search a_this_letters a_this_numbers a_this_thickest a_this_refusals g_this)), (a_this_now, .inr (0, rf_o0 a_this_now_kinds a_this_now_thicks g_this_now)), (a_this_now_kinds, .inl (cA, 6, .inl f_this_now_kinds)), (a_this_now_thicks, .inl (cA, 6, .inl f_this_now_thicks)), (a_this_refusals, .inl (cA, 7, .inl f_this_refusals))] sz) := by
  refine Met.ofW (cc := cX2_tries) (maxL := 3) (ret := (some .int)) (by decide) rfl ?_
  intro p e s m args below meth c s₁ B hml hv
  obtain ⟨rfl, hsz, hP, hK, hD0, hE⟩ := hv
  have hx := B.exec
  have hb := B.bytes
  have hr := B.returns
  have hts := atoms_spec (ws := wsX2_tries) B.pre
  have hown : s.vm.findClass RX2 = some m.cls := findClass_of_methodNamed B.named
  have hlocks := B.notSynchronized
  subst hsz
  have hD := hD0.self (sz := s.heap.size)
  generalize hAe : va_A [(a_this, .inr (2, rf_o2 a_this_now a_this_then a_this_trial a_this_search a_this_letters a_this_numbers a_this_thickest a_this_refusals g_this)), (a_this_now, .inr (0, rf_o0 a_this_now_kinds a_this_now_thicks g_this_now)), (a_this_now_kinds, .inl (cA, 6, .inl f_this_now_kinds)), (a_this_now_thicks, .inl (cA, 6, .inl f_this_now_thicks)), (a_this_refusals, .inl (cA, 7, .inl f_this_refusals))] s.heap.size = A at hD hE ⊢
  have hA : ∀ q : Nat, s.heap.size ≤ q → A q := fun q h => by rw [← hAe]; exact Or.inr h
  have hS : va_S A s.heap s.heap [] := va_S.rf
  have hP : va_P D vwCl [(a_this, .inr (2, rf_o2 a_this_now a_this_then a_this_trial a_this_search a_this_letters a_this_numbers a_this_thickest a_this_refusals g_this)), (a_this_now, .inr (0, rf_o0 a_this_now_kinds a_this_now_thicks g_this_now)), (a_this_now_kinds, .inl (cA, 6, .inl f_this_now_kinds)), (a_this_now_thicks, .inl (cA, 6, .inl f_this_now_thicks)), (a_this_refusals, .inl (cA, 7, .inl f_this_refusals))] s.heap := hP
  have hl := lv_entry ([.ref a_this, .int p1]) (n := 3) (Nat.le_of_ble_eq_true rfl)
  rw [lg_entry_eq]
  generalize (lg_sl ([.ref a_this, .int p1]) ++ List.replicate (3 - (lg_sl ([.ref a_this, .int p1])).length) Slot.unset).toArray = ls at hl ⊢
  have hl : lv_has ls 3 [(0, .ref a_this), (1, .int p1)] := hl
  rw [f_X2_tries] at hf
  refine lv_aload_n hx hb dX2_tries_0 rfl (lv_at hl 0 rfl) ?_
  refine lv_iload_n hx hb dX2_tries_1 rfl (lv_at hl 1 rfl) ?_
  obtain ⟨q1, hq1, hf⟩ := rf_bindq hf
  refine rf_Vi (As := [.int p1]) (rest := []) (wr := [(a_this_now_kinds, .inl (cA, 6, .inl f_this_now_kinds)), (a_this_now_thicks, .inl (cA, 6, .inl f_this_now_thicks))]) (wn := [(a_this, .inr (2, rf_o2 a_this_now a_this_then a_this_trial a_this_search a_this_letters a_this_numbers a_this_thickest a_this_refusals g_this)), (a_this_now, .inr (0, rf_o0 a_this_now_kinds a_this_now_thicks g_this_now)), (a_this_now_kinds, .inl (cA, 6, .inl f_this_now_kinds)), (a_this_now_thicks, .inl (cA, 6, .inl f_this_now_thicks)), (a_this_refusals, .inl (cA, 7, .inl q1.2))]) ⟨hx, hb, hml, hown, hts⟩ hK hP hD hS hA hE (c_X2_tryRefusal l D cA ad a_this a_this_now a_this_then a_this_trial a_this_search a_this_letters a_this_numbers a_this_thickest a_this_refusals a_this_now_kinds a_this_now_thicks s.heap.size g_this g_this_now f_this_refusals p1 q1 hq1) (cwV 1 hts gX2_tries_X2_tryRefusal rfl rfl rfl hv_X2_tryRefusal ⟨Nat.le_of_ble_eq_true rfl, Nat.le_of_ble_eq_true rfl⟩) [0, 1, 4] [2, 3] [2, 3, 0, 1, 4] rfl rfl rfl rfl (by decide) rfl rfl 2 0 rfl rfl rfl rfl rfl hl.1 (Nat.le_of_ble_eq_true rfl) dX2_tries_2 ⟨Nat.zero_le _, Nat.zero_le _⟩ (fun H locs hP hD hS => ?_)
  refine lv_istore_n (lv' := [(2, .int q1.1), (0, .ref a_this), (1, .int p1)]) hx hb dX2_tries_5 rfl hl (by decide) rfl (fun ls hl => ?_)
  refine lv_iload_n hx hb dX2_tries_6 rfl (lv_at hl 0 rfl) ?_
  refine lv_if_eq (tgt := 12) hx hb dX2_tries_7 (by decide) (fun c2 => ?_) (fun c2 => ?_)
  · have hf := rf_ifp hf c2
    refine lv_aload_n hx hb dX2_tries_12 rfl (lv_at hl 1 rfl) ?_
    refine va_get (D := D) (ci := 2) (v := .ref a_this_now) (C := RX2) (T := TX2) (N := 12) hx hb hts jX2_tries_X2 hown hK hP 0 rfl rfl 0 (by decide) (hts _ kX2_tries_0) (fun _ h9 => h9) rfl dX2_tries_13 ?_
    refine va_gets (v := .ref (ad 2)) hx hb (hE.2.2 2 _ rfl).1 hS hown (hts _ kX2_tries_1) (fun _ h9 => h9) dX2_tries_16 ?_
    refine lv_iload_n hx hb dX2_tries_19 rfl (lv_at hl 2 rfl) ?_
    obtain ⟨q3, hq3, hf⟩ := rf_bindq hf
    refine rf_SiT (As := [.ref (ad 2), .int p1]) (rest := [.ref a_this_now]) ⟨hx, hb, hml, hown, hts⟩ hK hP hD hS hA hE (c_X2_at_T l D cA ad (ad 2) H.size 8 rf_a2 p1 q3 hq3) (va_cwS 2 hts gX2_tries_X2_at rfl rfl rfl hs_X2_at ⟨Nat.le_of_ble_eq_true rfl, Nat.le_of_ble_eq_true rfl⟩) rfl rfl hl.1 (Nat.le_of_ble_eq_true rfl) dX2_tries_20 ⟨Nat.zero_le _, Nat.zero_le _⟩ (hE.2.2 2 _ rfl).2 (fun H locs hP hD hS => ?_)
    obtain ⟨q4, hq4, hf⟩ := rf_bindq hf
    refine rf_Vi (As := [.int q3]) (rest := []) (wr := [(a_this, .inr (2, rf_o2 a_this_now a_this_then a_this_trial a_this_search a_this_letters a_this_numbers a_this_thickest a_this_refusals g_this)), (a_this_now_kinds, .inl (cA, 6, .inl f_this_now_kinds)), (a_this_now_thicks, .inl (cA, 6, .inl f_this_now_thicks)), (a_this_refusals, .inl (cA, 7, .inl q1.2))]) (wn := [(a_this, .inr (2, rf_o2 a_this_now a_this_then a_this_trial a_this_search a_this_letters a_this_numbers a_this_thickest a_this_refusals g_this)), (a_this_now, .inr (0, rf_o0 a_this_now_kinds a_this_now_thicks g_this_now)), (a_this_now_kinds, .inl (cA, 6, .inl f_this_now_kinds)), (a_this_now_thicks, .inl (cA, 6, .inl f_this_now_thicks)), (a_this_refusals, .inl (cA, 7, .inl q1.2))]) ⟨hx, hb, hml, hown, hts⟩ hK hP hD hS hA hE (c_X0_hasMinutes l D cA ad a_this_now a_this_now_kinds a_this_now_thicks H.size g_this_now q3 q4 hq4) (cwV 1 hts gX2_tries_X0_hasMinutes rfl rfl rfl hv_X0_hasMinutes ⟨Nat.le_of_ble_eq_true rfl, Nat.le_of_ble_eq_true rfl⟩) [1] [0, 2, 3, 4] [0, 4, 1, 2, 3] rfl rfl rfl rfl (by decide) rfl rfl 0 1 rfl rfl rfl rfl rfl hl.1 (Nat.le_of_ble_eq_true rfl) dX2_tries_23 ⟨Nat.zero_le _, Nat.zero_le _⟩ (fun H locs hP hD hS => ?_)
    refine lv_if_ne (tgt := 36) hx hb dX2_tries_26 (by decide) (fun c5 => ?_) (fun c5 => ?_)
    · have hf := rf_ifn hf c5
      refine lv_aload_n hx hb dX2_tries_36 rfl (lv_at hl 1 rfl) ?_
      refine va_get (D := D) (ci := 2) (v := .ref a_this_now) (C := RX2) (T := TX2) (N := 12) hx hb hts jX2_tries_X2 hown hK hP 0 rfl rfl 0 (by decide) (hts _ kX2_tries_0) (fun _ h9 => h9) rfl dX2_tries_37 ?_
      refine lv_iload_n hx hb dX2_tries_40 rfl (lv_at hl 2 rfl) ?_
      obtain ⟨q6, hq6, hf⟩ := rf_bindq hf
      refine rf_Vi (As := [.int p1]) (rest := []) (wr := [(a_this, .inr (2, rf_o2 a_this_now a_this_then a_this_trial a_this_search a_this_letters a_this_numbers a_this_thickest a_this_refusals g_this)), (a_this_refusals, .inl (cA, 7, .inl q1.2))]) (wn := [(a_this, .inr (2, rf_o2 a_this_now a_this_then a_this_trial a_this_search a_this_letters a_this_numbers a_this_thickest a_this_refusals g_this)), (a_this_now, .inr (0, rf_o0 a_this_now_kinds a_this_now_thicks q6.2)), (a_this_now_kinds, .inl (cA, 6, .inl f_this_now_kinds)), (a_this_now_thicks, .inl (cA, 6, .inl f_this_now_thicks)), (a_this_refusals, .inl (cA, 7, .inl q1.2))]) ⟨hx, hb, hml, hown, hts⟩ hK hP hD hS hA hE (c_X0_attempt l D cA ad a_this_now a_this_now_kinds a_this_now_thicks H.size g_this_now f_this_now_kinds f_this_now_thicks p1 q6 hq6) (cwV 1 hts gX2_tries_X0_attempt rfl rfl rfl hv_X0_attempt ⟨Nat.le_of_ble_eq_true rfl, Nat.le_of_ble_eq_true rfl⟩) [1, 2, 3] [0, 4] [0, 2, 3, 4, 1] rfl rfl rfl rfl (by decide) rfl rfl 0 1 rfl rfl rfl rfl rfl hl.1 (Nat.le_of_ble_eq_true rfl) dX2_tries_41 ⟨Nat.zero_le _, Nat.zero_le _⟩ (fun H locs hP hD hS => ?_)
      refine lv_if_eq (tgt := 51) hx hb dX2_tries_44 (by decide) (fun c7 => ?_) (fun c7 => ?_)
      · have hf := rf_ifp hf c7
        refine lv_iconst (v := 0) hx hb dX2_tries_51 (by decide) ?_
        obtain rfl := Option.some.inj hf
        exact W.iret (v := 0) hx hb hr (fun t ht hW => ⟨⟨0, (), rfl, rfl, rf_mk ht hP hD⟩, hS.F ht⟩) hS.2.2 dX2_tries_52
      · have hf := rf_ifn hf c7
        refine lv_iconst (v := 1) hx hb dX2_tries_47 (by decide) ?_
        refine lv_goto (tgt := 52) hx hb dX2_tries_48 (by decide) ?_
        obtain rfl := Option.some.inj hf
        exact W.iret (v := 1) hx hb hr (fun t ht hW => ⟨⟨1, (), rfl, rfl, rf_mk ht hP hD⟩, hS.F ht⟩) hS.2.2 dX2_tries_52
    · have hf := rf_ifp hf c5
      refine lv_aload_n hx hb dX2_tries_29 rfl (lv_at hl 1 rfl) ?_
      refine lv_bipush (v := (-6)) hx hb dX2_tries_30 (by decide) ?_
      obtain ⟨q8, hq8, hf⟩ := rf_bindq hf
      refine rf_Vi (As := [.int (-6)]) (rest := []) (wr := [(a_this_now, .inr (0, rf_o0 a_this_now_kinds a_this_now_thicks g_this_now)), (a_this_now_kinds, .inl (cA, 6, .inl f_this_now_kinds)), (a_this_now_thicks, .inl (cA, 6, .inl f_this_now_thicks))]) (wn := [(a_this, .inr (2, rf_o2 a_this_now a_this_then a_this_trial a_this_search a_this_letters a_this_numbers a_this_thickest a_this_refusals g_this)), (a_this_now, .inr (0, rf_o0 a_this_now_kinds a_this_now_thicks g_this_now)), (a_this_now_kinds, .inl (cA, 6, .inl f_this_now_kinds)), (a_this_now_thicks, .inl (cA, 6, .inl f_this_now_thicks)), (a_this_refusals, .inl (cA, 7, .inl q8.2))]) ⟨hx, hb, hml, hown, hts⟩ hK hP hD hS hA hE (c_X2_refuse l D cA ad a_this a_this_now a_this_then a_this_trial a_this_search a_this_letters a_this_numbers a_this_thickest a_this_refusals H.size g_this q1.2 (-6) q8 hq8) (cwV 1 hts gX2_tries_X2_refuse rfl rfl rfl hv_X2_refuse ⟨Nat.le_of_ble_eq_true rfl, Nat.le_of_ble_eq_true rfl⟩) [0, 4] [1, 2, 3] [3, 0, 1, 2, 4] rfl rfl rfl rfl (by decide) rfl rfl 2 0 rfl rfl rfl rfl rfl hl.1 (Nat.le_of_ble_eq_true rfl) dX2_tries_32 ⟨Nat.zero_le _, Nat.zero_le _⟩ (fun H locs hP hD hS => ?_)
      obtain rfl := Option.some.inj hf
      exact W.iret (v := q8.1) hx hb hr (fun t ht hW => ⟨⟨q8.1, (), rfl, rfl, rf_mk ht hP hD⟩, hS.F ht⟩) hS.2.2 dX2_tries_35
  · have hf := rf_ifn hf c2
    refine lv_iload_n hx hb dX2_tries_10 rfl (lv_at hl 0 rfl) ?_
    obtain rfl := Option.some.inj hf
    exact W.iret (v := q1.1) hx hb hr (fun t ht hW => ⟨⟨q1.1, (), rfl, rfl, rf_mk ht hP hD⟩, hS.F ht⟩) hS.2.2 dX2_tries_11
theorem kX2_pause_0 : (.fieldLink RX2 10 "RingAndFinger" "now" "LRingAndFinger$Finger;" : Cond) ∈ wsX2_pause := by decide +kernel
theorem kX2_pause_1 : (.fieldLink RX2 136 "RingAndFinger$Finger" "minute" "I" : Cond) ∈ wsX2_pause := by decide +kernel
theorem jX2_pause_X2 : ∀ w ∈ u_ws RX2 TX2 12, w ∈ wsX2_pause := by decide +kernel
theorem jX2_pause_X0 : ∀ w ∈ u_ws RX0 TX0 12, w ∈ wsX2_pause := by decide +kernel
set_option maxHeartbeats 8000000 in
set_option maxRecDepth 100000 in
theorem c_X2_pause (l : Launch) (D : va_G) (cA : ClassId) (ad : Nat → Nat) (a_this a_this_now a_this_then a_this_trial a_this_search a_this_letters a_this_numbers a_this_thickest a_this_refusals a_this_now_kinds a_this_now_thicks : Nat) (sz : Nat) (g_this g_this_now f_this_refusals : Nat → Int32) (p1 : Int32) (q : Int32 × (Nat → Int32) × (Nat → Int32)) (hf : f_X2_pause g_this g_this_now f_this_refusals p1 = some q) : Met l yX2_pause wsX2_pause ({ frames := 2, cells := 0, slots := 0, locals := 43 } : Room) (va_Pc [.ref a_this, .int p1] (rf_Pre D cA ad [(a_this, .inr (2, rf_o2 a_this_now a_this_then a_this_trial a_this_search a_this_letters a_this_numbers a_this_thickest a_this_refusals g_this)), (a_this_now, .inr (0, rf_o0 a_this_now_kinds a_this_now_thicks g_this_now)), (a_this_refusals, .inl (cA, 7, .inl f_this_refusals))] sz)) (va_Qi (fun (r : Int32) (_ : Unit) => r = q.1) (fun _ t => rf_Post D (va_A [(a_this, .inr (2, rf_o2 a_this_now a_this_then a_this_trial a_this_search a_this_letters a_this_numbers a_this_thickest a_this_refusals g_this)), (a_this_now, .inr (0, rf_o0 a_this_now_kinds a_this_now_thicks g_this_now)), (a_this_refusals, .inl (cA, 7, .inl f_this_refusals))] sz) [(a_this, .inr (2, rf_o2 a_this_now a_this_then a_this_trial a_this_search a_this_letters a_this_numbers a_this_thickest a_this_refusals g_this)), (a_this_now, .inr (0, rf_o0 a_this_now_kinds a_this_now_thicks q.2.1)), (a_this_refusals, .inl (cA, 7, .inl q.2.2))] t) (va_A [(a_this, .inr (2, rf_o2 a_this_now a_this_then a_this_trial a_this_search a_this_letters a_this_numbers a_this_thickest a_this_refusals g_this)), (a_this_now, .inr (0, rf_o0 a_this_now_kinds a_this_now_thicks g_this_now)), (a_this_refusals, .inl (cA, 7, .inl f_this_refusals))] sz)) 0 0 (va_A [(a_this, .inr (2, rf_o2 a_this_now a_this_then a_this_trial a_this_search a_this_letters a_this_numbers a_this_thickest a_this_refusals g_this)), (a_this_now, .inr (0, rf_o0 a_this_now_kinds a_this_now_thicks g_this_now)), (a_this_refusals, .inl (cA, 7, .inl f_this_refusals))] sz) := by
  refine Met.ofW (cc := cX2_pause) (maxL := 2) (ret := (some .int)) (by decide) rfl ?_
  intro p e s m args below meth c s₁ B hml hv
  obtain ⟨rfl, hsz, hP, hK, hD0, hE⟩ := hv
  have hx := B.exec
  have hb := B.bytes
  have hr := B.returns
  have hts := atoms_spec (ws := wsX2_pause) B.pre
  have hown : s.vm.findClass RX2 = some m.cls := findClass_of_methodNamed B.named
  have hlocks := B.notSynchronized
  subst hsz
  have hD := hD0.self (sz := s.heap.size)
  generalize hAe : va_A [(a_this, .inr (2, rf_o2 a_this_now a_this_then a_this_trial a_this_search a_this_letters a_this_numbers a_this_thickest a_this_refusals g_this)), (a_this_now, .inr (0, rf_o0 a_this_now_kinds a_this_now_thicks g_this_now)), (a_this_refusals, .inl (cA, 7, .inl f_this_refusals))] s.heap.size = A at hD hE ⊢
  have hA : ∀ q : Nat, s.heap.size ≤ q → A q := fun q h => by rw [← hAe]; exact Or.inr h
  have hS : va_S A s.heap s.heap [] := va_S.rf
  have hP : va_P D vwCl [(a_this, .inr (2, rf_o2 a_this_now a_this_then a_this_trial a_this_search a_this_letters a_this_numbers a_this_thickest a_this_refusals g_this)), (a_this_now, .inr (0, rf_o0 a_this_now_kinds a_this_now_thicks g_this_now)), (a_this_refusals, .inl (cA, 7, .inl f_this_refusals))] s.heap := hP
  have hl := lv_entry ([.ref a_this, .int p1]) (n := 2) (Nat.le_of_ble_eq_true rfl)
  rw [lg_entry_eq]
  generalize (lg_sl ([.ref a_this, .int p1]) ++ List.replicate (2 - (lg_sl ([.ref a_this, .int p1])).length) Slot.unset).toArray = ls at hl ⊢
  have hl : lv_has ls 2 [(0, .ref a_this), (1, .int p1)] := hl
  rw [f_X2_pause] at hf
  refine lv_iload_n hx hb dX2_pause_0 rfl (lv_at hl 1 rfl) ?_
  refine lv_iconst (v := 1) hx hb dX2_pause_1 (by decide) ?_
  refine lv_icmp_ge (tgt := 12) hx hb dX2_pause_2 (by decide) (fun c1 => ?_) (fun c1 => ?_)
  · have hf := rf_ifp hf c1
    refine lv_iload_n hx hb dX2_pause_12 rfl (lv_at hl 1 rfl) ?_
    refine lv_bipush (v := 60) hx hb dX2_pause_13 (by decide) ?_
    refine lv_icmp_gt (tgt := 29) hx hb dX2_pause_15 (by decide) (fun c2 => ?_) (fun c2 => ?_)
    · have hf := rf_ifp hf c2
      refine lv_aload_n hx hb dX2_pause_29 rfl (lv_at hl 0 rfl) ?_
      refine lv_bipush (v := (-6)) hx hb dX2_pause_30 (by decide) ?_
      obtain ⟨q3, hq3, hf⟩ := rf_bindq hf
      refine rf_Vi (As := [.int (-6)]) (rest := []) (wr := [(a_this_now, .inr (0, rf_o0 a_this_now_kinds a_this_now_thicks g_this_now))]) (wn := [(a_this, .inr (2, rf_o2 a_this_now a_this_then a_this_trial a_this_search a_this_letters a_this_numbers a_this_thickest a_this_refusals g_this)), (a_this_now, .inr (0, rf_o0 a_this_now_kinds a_this_now_thicks g_this_now)), (a_this_refusals, .inl (cA, 7, .inl q3.2))]) ⟨hx, hb, hml, hown, hts⟩ hK hP hD hS hA hE (c_X2_refuse l D cA ad a_this a_this_now a_this_then a_this_trial a_this_search a_this_letters a_this_numbers a_this_thickest a_this_refusals s.heap.size g_this f_this_refusals (-6) q3 hq3) (cwV 1 hts gX2_pause_X2_refuse rfl rfl rfl hv_X2_refuse ⟨Nat.le_of_ble_eq_true rfl, Nat.le_of_ble_eq_true rfl⟩) [0, 2] [1] [1, 0, 2] rfl rfl rfl rfl (by decide) rfl rfl 2 0 rfl rfl rfl rfl rfl hl.1 (Nat.le_of_ble_eq_true rfl) dX2_pause_32 ⟨Nat.zero_le _, Nat.zero_le _⟩ (fun H locs hP hD hS => ?_)
      obtain rfl := Option.some.inj hf
      exact W.iret (v := q3.1) hx hb hr (fun t ht hW => ⟨⟨q3.1, (), rfl, rfl, rf_mk ht hP hD⟩, hS.F ht⟩) hS.2.2 dX2_pause_35
    · have hf := rf_ifn hf c2
      refine lv_aload_n hx hb dX2_pause_18 rfl (lv_at hl 0 rfl) ?_
      refine va_get (D := D) (ci := 2) (v := .ref a_this_now) (C := RX2) (T := TX2) (N := 12) hx hb hts jX2_pause_X2 hown hK hP 0 rfl rfl 0 (by decide) (hts _ kX2_pause_0) (fun _ h9 => h9) rfl dX2_pause_19 ?_
      refine lv_iload_n hx hb dX2_pause_22 rfl (lv_at hl 1 rfl) ?_
      obtain ⟨q4, hq4, hf⟩ := rf_bindq hf
      refine rf_Vi (As := [.int p1]) (rest := []) (wr := [(a_this, .inr (2, rf_o2 a_this_now a_this_then a_this_trial a_this_search a_this_letters a_this_numbers a_this_thickest a_this_refusals g_this)), (a_this_refusals, .inl (cA, 7, .inl f_this_refusals))]) (wn := [(a_this, .inr (2, rf_o2 a_this_now a_this_then a_this_trial a_this_search a_this_letters a_this_numbers a_this_thickest a_this_refusals g_this)), (a_this_now, .inr (0, rf_o0 a_this_now_kinds a_this_now_thicks g_this_now)), (a_this_refusals, .inl (cA, 7, .inl f_this_refusals))]) ⟨hx, hb, hml, hown, hts⟩ hK hP hD hS hA hE (c_X0_hasMinutes l D cA ad a_this_now a_this_now_kinds a_this_now_thicks s.heap.size g_this_now p1 q4 hq4) (cwV 1 hts gX2_pause_X0_hasMinutes rfl rfl rfl hv_X0_hasMinutes ⟨Nat.le_of_ble_eq_true rfl, Nat.le_of_ble_eq_true rfl⟩) [1] [0, 2] [0, 2, 1] rfl rfl rfl rfl (by decide) rfl rfl 0 1 rfl rfl rfl rfl rfl hl.1 (Nat.le_of_ble_eq_true rfl) dX2_pause_23 ⟨Nat.zero_le _, Nat.zero_le _⟩ (fun H locs hP hD hS => ?_)
      refine lv_if_ne (tgt := 36) hx hb dX2_pause_26 (by decide) (fun c5 => ?_) (fun c5 => ?_)
      · have hf := rf_ifn hf c5
        refine lv_aload_n hx hb dX2_pause_36 rfl (lv_at hl 0 rfl) ?_
        refine va_get (D := D) (ci := 2) (v := .ref a_this_now) (C := RX2) (T := TX2) (N := 12) hx hb hts jX2_pause_X2 hown hK hP 0 rfl rfl 0 (by decide) (hts _ kX2_pause_0) (fun _ h9 => h9) rfl dX2_pause_37 ?_
        refine lv_iload_n hx hb dX2_pause_40 rfl (lv_at hl 1 rfl) ?_
        obtain ⟨q6, hq6, hf⟩ := rf_bindq hf
        refine rf_Vv (As := [.int p1]) (rest := []) (wr := [(a_this, .inr (2, rf_o2 a_this_now a_this_then a_this_trial a_this_search a_this_letters a_this_numbers a_this_thickest a_this_refusals g_this)), (a_this_refusals, .inl (cA, 7, .inl f_this_refusals))]) (wn := [(a_this, .inr (2, rf_o2 a_this_now a_this_then a_this_trial a_this_search a_this_letters a_this_numbers a_this_thickest a_this_refusals g_this)), (a_this_now, .inr (0, rf_o0 a_this_now_kinds a_this_now_thicks q6)), (a_this_refusals, .inl (cA, 7, .inl f_this_refusals))]) ⟨hx, hb, hml, hown, hts⟩ hK hP hD hS hA hE (c_X0_rest l D cA ad a_this_now a_this_now_kinds a_this_now_thicks H.size g_this_now p1 q6 hq6) (cwV 1 hts gX2_pause_X0_rest rfl rfl rfl hv_X0_rest ⟨Nat.le_of_ble_eq_true rfl, Nat.le_of_ble_eq_true rfl⟩) [1] [0, 2] [0, 2, 1] rfl rfl rfl rfl (by decide) rfl rfl 0 1 rfl rfl rfl rfl rfl hl.1 (Nat.le_of_ble_eq_true rfl) dX2_pause_41 ⟨Nat.zero_le _, Nat.zero_le _⟩ (fun H locs hP hD hS => ?_)
        refine lv_aload_n hx hb dX2_pause_44 rfl (lv_at hl 0 rfl) ?_
        refine va_get (D := D) (ci := 2) (v := .ref a_this_now) (C := RX2) (T := TX2) (N := 12) hx hb hts jX2_pause_X2 hown hK hP 0 rfl rfl 0 (by decide) (hts _ kX2_pause_0) (fun _ h9 => h9) rfl dX2_pause_45 ?_
        refine va_get (D := D) (ci := 0) (v := .int (q6 8)) (C := RX0) (T := TX0) (N := 12) hx hb hts jX2_pause_X0 hown hK hP 1 rfl rfl 10 (by decide) (hts _ kX2_pause_1) (fun _ h9 => h9) rfl dX2_pause_48 ?_
        obtain rfl := Option.some.inj hf
        exact W.iret (v := (q6 8)) hx hb hr (fun t ht hW => ⟨⟨(q6 8), (), rfl, rfl, rf_mk ht hP hD⟩, hS.F ht⟩) hS.2.2 dX2_pause_51
      · have hf := rf_ifp hf c5
        refine lv_aload_n hx hb dX2_pause_29 rfl (lv_at hl 0 rfl) ?_
        refine lv_bipush (v := (-6)) hx hb dX2_pause_30 (by decide) ?_
        obtain ⟨q7, hq7, hf⟩ := rf_bindq hf
        refine rf_Vi (As := [.int (-6)]) (rest := []) (wr := [(a_this_now, .inr (0, rf_o0 a_this_now_kinds a_this_now_thicks g_this_now))]) (wn := [(a_this, .inr (2, rf_o2 a_this_now a_this_then a_this_trial a_this_search a_this_letters a_this_numbers a_this_thickest a_this_refusals g_this)), (a_this_now, .inr (0, rf_o0 a_this_now_kinds a_this_now_thicks g_this_now)), (a_this_refusals, .inl (cA, 7, .inl q7.2))]) ⟨hx, hb, hml, hown, hts⟩ hK hP hD hS hA hE (c_X2_refuse l D cA ad a_this a_this_now a_this_then a_this_trial a_this_search a_this_letters a_this_numbers a_this_thickest a_this_refusals H.size g_this f_this_refusals (-6) q7 hq7) (cwV 1 hts gX2_pause_X2_refuse rfl rfl rfl hv_X2_refuse ⟨Nat.le_of_ble_eq_true rfl, Nat.le_of_ble_eq_true rfl⟩) [0, 2] [1] [1, 0, 2] rfl rfl rfl rfl (by decide) rfl rfl 2 0 rfl rfl rfl rfl rfl hl.1 (Nat.le_of_ble_eq_true rfl) dX2_pause_32 ⟨Nat.zero_le _, Nat.zero_le _⟩ (fun H locs hP hD hS => ?_)
        obtain rfl := Option.some.inj hf
        exact W.iret (v := q7.1) hx hb hr (fun t ht hW => ⟨⟨q7.1, (), rfl, rfl, rf_mk ht hP hD⟩, hS.F ht⟩) hS.2.2 dX2_pause_35
  · have hf := rf_ifn hf c1
    refine lv_aload_n hx hb dX2_pause_5 rfl (lv_at hl 0 rfl) ?_
    refine lv_bipush (v := (-4)) hx hb dX2_pause_6 (by decide) ?_
    obtain ⟨q8, hq8, hf⟩ := rf_bindq hf
    refine rf_Vi (As := [.int (-4)]) (rest := []) (wr := [(a_this_now, .inr (0, rf_o0 a_this_now_kinds a_this_now_thicks g_this_now))]) (wn := [(a_this, .inr (2, rf_o2 a_this_now a_this_then a_this_trial a_this_search a_this_letters a_this_numbers a_this_thickest a_this_refusals g_this)), (a_this_now, .inr (0, rf_o0 a_this_now_kinds a_this_now_thicks g_this_now)), (a_this_refusals, .inl (cA, 7, .inl q8.2))]) ⟨hx, hb, hml, hown, hts⟩ hK hP hD hS hA hE (c_X2_refuse l D cA ad a_this a_this_now a_this_then a_this_trial a_this_search a_this_letters a_this_numbers a_this_thickest a_this_refusals s.heap.size g_this f_this_refusals (-4) q8 hq8) (cwV 1 hts gX2_pause_X2_refuse rfl rfl rfl hv_X2_refuse ⟨Nat.le_of_ble_eq_true rfl, Nat.le_of_ble_eq_true rfl⟩) [0, 2] [1] [1, 0, 2] rfl rfl rfl rfl (by decide) rfl rfl 2 0 rfl rfl rfl rfl rfl hl.1 (Nat.le_of_ble_eq_true rfl) dX2_pause_8 ⟨Nat.zero_le _, Nat.zero_le _⟩ (fun H locs hP hD hS => ?_)
    obtain rfl := Option.some.inj hf
    exact W.iret (v := q8.1) hx hb hr (fun t ht hW => ⟨⟨q8.1, (), rfl, rfl, rf_mk ht hP hD⟩, hS.F ht⟩) hS.2.2 dX2_pause_11
theorem kX2_would_0 : (.fieldLink RX2 10 "RingAndFinger" "now" "LRingAndFinger$Finger;" : Cond) ∈ wsX2_would := by decide +kernel
theorem jX2_would_X2 : ∀ w ∈ u_ws RX2 TX2 12, w ∈ wsX2_would := by decide +kernel
set_option maxHeartbeats 8000000 in
set_option maxRecDepth 100000 in
theorem c_X2_would (l : Launch) (D : va_G) (cA : ClassId) (ad : Nat → Nat) (a_this a_this_now a_this_then a_this_trial a_this_search a_this_letters a_this_numbers a_this_thickest a_this_refusals a_this_now_kinds a_this_now_thicks : Nat) (sz : Nat) (g_this g_this_now f_this_now_kinds f_this_now_thicks f_this_refusals : Nat → Int32) (p1 : Int32) (q : Int32 × (Nat → Int32)) (hf : f_X2_would g_this g_this_now f_this_now_kinds f_this_now_thicks f_this_refusals p1 = some q) : Met l yX2_would wsX2_would ({ frames := 3, cells := 0, slots := 0, locals := 69 } : Room) (va_Pc [.ref a_this, .int p1] (rf_Pre D cA ad [(a_this, .inr (2, rf_o2 a_this_now a_this_then a_this_trial a_this_search a_this_letters a_this_numbers a_this_thickest a_this_refusals g_this)), (a_this_now, .inr (0, rf_o0 a_this_now_kinds a_this_now_thicks g_this_now)), (a_this_now_kinds, .inl (cA, 6, .inl f_this_now_kinds)), (a_this_now_thicks, .inl (cA, 6, .inl f_this_now_thicks)), (a_this_refusals, .inl (cA, 7, .inl f_this_refusals))] sz)) (va_Qi (fun (r : Int32) (_ : Unit) => r = q.1) (fun _ t => rf_Post D (va_A [(a_this, .inr (2, rf_o2 a_this_now a_this_then a_this_trial a_this_search a_this_letters a_this_numbers a_this_thickest a_this_refusals g_this)), (a_this_now, .inr (0, rf_o0 a_this_now_kinds a_this_now_thicks g_this_now)), (a_this_now_kinds, .inl (cA, 6, .inl f_this_now_kinds)), (a_this_now_thicks, .inl (cA, 6, .inl f_this_now_thicks)), (a_this_refusals, .inl (cA, 7, .inl f_this_refusals))] sz) [(a_this, .inr (2, rf_o2 a_this_now a_this_then a_this_trial a_this_search a_this_letters a_this_numbers a_this_thickest a_this_refusals g_this)), (a_this_now, .inr (0, rf_o0 a_this_now_kinds a_this_now_thicks g_this_now)), (a_this_now_kinds, .inl (cA, 6, .inl f_this_now_kinds)), (a_this_now_thicks, .inl (cA, 6, .inl f_this_now_thicks)), (a_this_refusals, .inl (cA, 7, .inl q.2))] t) (va_A [(a_this, .inr (2, rf_o2 a_this_now a_this_then a_this_trial a_this_search a_this_letters a_this_numbers a_this_thickest a_this_refusals g_this)), (a_this_now, .inr (0, rf_o0 a_this_now_kinds a_this_now_thicks g_this_now)), (a_this_now_kinds, .inl (cA, 6, .inl f_this_now_kinds)), (a_this_now_thicks, .inl (cA, 6, .inl f_this_now_thicks)), (a_this_refusals, .inl (cA, 7, .inl f_this_refusals))] sz)) 0 0 (va_A [(a_this, .inr (2, rf_o2 a_this_now a_this_then a_this_trial a_this_search a_this_letters a_this_numbers a_this_thickest a_this_refusals g_this)), (a_this_now, .inr (0, rf_o0 a_this_now_kinds a_this_now_thicks g_this_now)), (a_this_now_kinds, .inl (cA, 6, .inl f_this_now_kinds)), (a_this_now_thicks, .inl (cA, 6, .inl f_this_now_thicks)), (a_this_refusals, .inl (cA, 7, .inl f_this_refusals))] sz) := by
  refine Met.ofW (cc := cX2_would) (maxL := 3) (ret := (some .int)) (by decide) rfl ?_
  intro p e s m args below meth c s₁ B hml hv
  obtain ⟨rfl, hsz, hP, hK, hD0, hE⟩ := hv
  have hx := B.exec
  have hb := B.bytes
  have hr := B.returns
  have hts := atoms_spec (ws := wsX2_would) B.pre
  have hown : s.vm.findClass RX2 = some m.cls := findClass_of_methodNamed B.named
  have hlocks := B.notSynchronized
  subst hsz
  have hD := hD0.self (sz := s.heap.size)
  generalize hAe : va_A [(a_this, .inr (2, rf_o2 a_this_now a_this_then a_this_trial a_this_search a_this_letters a_this_numbers a_this_thickest a_this_refusals g_this)), (a_this_now, .inr (0, rf_o0 a_this_now_kinds a_this_now_thicks g_this_now)), (a_this_now_kinds, .inl (cA, 6, .inl f_this_now_kinds)), (a_this_now_thicks, .inl (cA, 6, .inl f_this_now_thicks)), (a_this_refusals, .inl (cA, 7, .inl f_this_refusals))] s.heap.size = A at hD hE ⊢
  have hA : ∀ q : Nat, s.heap.size ≤ q → A q := fun q h => by rw [← hAe]; exact Or.inr h
  have hS : va_S A s.heap s.heap [] := va_S.rf
  have hP : va_P D vwCl [(a_this, .inr (2, rf_o2 a_this_now a_this_then a_this_trial a_this_search a_this_letters a_this_numbers a_this_thickest a_this_refusals g_this)), (a_this_now, .inr (0, rf_o0 a_this_now_kinds a_this_now_thicks g_this_now)), (a_this_now_kinds, .inl (cA, 6, .inl f_this_now_kinds)), (a_this_now_thicks, .inl (cA, 6, .inl f_this_now_thicks)), (a_this_refusals, .inl (cA, 7, .inl f_this_refusals))] s.heap := hP
  have hl := lv_entry ([.ref a_this, .int p1]) (n := 3) (Nat.le_of_ble_eq_true rfl)
  rw [lg_entry_eq]
  generalize (lg_sl ([.ref a_this, .int p1]) ++ List.replicate (3 - (lg_sl ([.ref a_this, .int p1])).length) Slot.unset).toArray = ls at hl ⊢
  have hl : lv_has ls 3 [(0, .ref a_this), (1, .int p1)] := hl
  rw [f_X2_would] at hf
  refine lv_aload_n hx hb dX2_would_0 rfl (lv_at hl 0 rfl) ?_
  refine lv_iload_n hx hb dX2_would_1 rfl (lv_at hl 1 rfl) ?_
  obtain ⟨q1, hq1, hf⟩ := rf_bindq hf
  refine rf_Vi (As := [.int p1]) (rest := []) (wr := [(a_this_now_kinds, .inl (cA, 6, .inl f_this_now_kinds)), (a_this_now_thicks, .inl (cA, 6, .inl f_this_now_thicks))]) (wn := [(a_this, .inr (2, rf_o2 a_this_now a_this_then a_this_trial a_this_search a_this_letters a_this_numbers a_this_thickest a_this_refusals g_this)), (a_this_now, .inr (0, rf_o0 a_this_now_kinds a_this_now_thicks g_this_now)), (a_this_now_kinds, .inl (cA, 6, .inl f_this_now_kinds)), (a_this_now_thicks, .inl (cA, 6, .inl f_this_now_thicks)), (a_this_refusals, .inl (cA, 7, .inl q1.2))]) ⟨hx, hb, hml, hown, hts⟩ hK hP hD hS hA hE (c_X2_tryRefusal l D cA ad a_this a_this_now a_this_then a_this_trial a_this_search a_this_letters a_this_numbers a_this_thickest a_this_refusals a_this_now_kinds a_this_now_thicks s.heap.size g_this g_this_now f_this_refusals p1 q1 hq1) (cwV 1 hts gX2_would_X2_tryRefusal rfl rfl rfl hv_X2_tryRefusal ⟨Nat.le_of_ble_eq_true rfl, Nat.le_of_ble_eq_true rfl⟩) [0, 1, 4] [2, 3] [2, 3, 0, 1, 4] rfl rfl rfl rfl (by decide) rfl rfl 2 0 rfl rfl rfl rfl rfl hl.1 (Nat.le_of_ble_eq_true rfl) dX2_would_2 ⟨Nat.zero_le _, Nat.zero_le _⟩ (fun H locs hP hD hS => ?_)
  refine lv_istore_n (lv' := [(2, .int q1.1), (0, .ref a_this), (1, .int p1)]) hx hb dX2_would_5 rfl hl (by decide) rfl (fun ls hl => ?_)
  refine lv_iload_n hx hb dX2_would_6 rfl (lv_at hl 0 rfl) ?_
  refine lv_if_eq (tgt := 12) hx hb dX2_would_7 (by decide) (fun c2 => ?_) (fun c2 => ?_)
  · have hf := rf_ifp hf c2
    refine lv_aload_n hx hb dX2_would_12 rfl (lv_at hl 1 rfl) ?_
    refine va_get (D := D) (ci := 2) (v := .ref a_this_now) (C := RX2) (T := TX2) (N := 12) hx hb hts jX2_would_X2 hown hK hP 0 rfl rfl 0 (by decide) (hts _ kX2_would_0) (fun _ h9 => h9) rfl dX2_would_13 ?_
    refine lv_iload_n hx hb dX2_would_16 rfl (lv_at hl 2 rfl) ?_
    obtain ⟨q3, hq3, hf⟩ := rf_bindq hf
    refine rf_Vi (As := [.int p1]) (rest := []) (wr := [(a_this, .inr (2, rf_o2 a_this_now a_this_then a_this_trial a_this_search a_this_letters a_this_numbers a_this_thickest a_this_refusals g_this)), (a_this_refusals, .inl (cA, 7, .inl q1.2))]) (wn := [(a_this, .inr (2, rf_o2 a_this_now a_this_then a_this_trial a_this_search a_this_letters a_this_numbers a_this_thickest a_this_refusals g_this)), (a_this_now, .inr (0, rf_o0 a_this_now_kinds a_this_now_thicks g_this_now)), (a_this_now_kinds, .inl (cA, 6, .inl f_this_now_kinds)), (a_this_now_thicks, .inl (cA, 6, .inl f_this_now_thicks)), (a_this_refusals, .inl (cA, 7, .inl q1.2))]) ⟨hx, hb, hml, hown, hts⟩ hK hP hD hS hA hE (c_X0_goesOver l D cA ad a_this_now a_this_now_kinds a_this_now_thicks H.size g_this_now f_this_now_kinds f_this_now_thicks p1 q3 hq3) (cwV 1 hts gX2_would_X0_goesOver rfl rfl rfl hv_X0_goesOver ⟨Nat.le_of_ble_eq_true rfl, Nat.le_of_ble_eq_true rfl⟩) [1, 2, 3] [0, 4] [0, 2, 3, 4, 1] rfl rfl rfl rfl (by decide) rfl rfl 0 1 rfl rfl rfl rfl rfl hl.1 (Nat.le_of_ble_eq_true rfl) dX2_would_17 ⟨Nat.zero_le _, Nat.zero_le _⟩ (fun H locs hP hD hS => ?_)
    refine lv_if_eq (tgt := 27) hx hb dX2_would_20 (by decide) (fun c4 => ?_) (fun c4 => ?_)
    · have hf := rf_ifp hf c4
      refine lv_iconst (v := 0) hx hb dX2_would_27 (by decide) ?_
      obtain rfl := Option.some.inj hf
      exact W.iret (v := 0) hx hb hr (fun t ht hW => ⟨⟨0, (), rfl, rfl, rf_mk ht hP hD⟩, hS.F ht⟩) hS.2.2 dX2_would_28
    · have hf := rf_ifn hf c4
      refine lv_iconst (v := 1) hx hb dX2_would_23 (by decide) ?_
      refine lv_goto (tgt := 28) hx hb dX2_would_24 (by decide) ?_
      obtain rfl := Option.some.inj hf
      exact W.iret (v := 1) hx hb hr (fun t ht hW => ⟨⟨1, (), rfl, rfl, rf_mk ht hP hD⟩, hS.F ht⟩) hS.2.2 dX2_would_28
  · have hf := rf_ifn hf c2
    refine lv_iload_n hx hb dX2_would_10 rfl (lv_at hl 0 rfl) ?_
    obtain rfl := Option.some.inj hf
    exact W.iret (v := q1.1) hx hb hr (fun t ht hW => ⟨⟨q1.1, (), rfl, rfl, rf_mk ht hP hD⟩, hS.F ht⟩) hS.2.2 dX2_would_11
theorem kX2_holds_0 : (.fieldLink RX2 10 "RingAndFinger" "now" "LRingAndFinger$Finger;" : Cond) ∈ wsX2_holds := by decide +kernel
theorem kX2_holds_1 : (.fieldLink RX2 100 "RingAndFinger$Finger" "front" "I" : Cond) ∈ wsX2_holds := by decide +kernel
theorem kX2_holds_2 : (.fieldLink RX2 146 "RingAndFinger$Finger" "size" "I" : Cond) ∈ wsX2_holds := by decide +kernel
theorem jX2_holds_X2 : ∀ w ∈ u_ws RX2 TX2 12, w ∈ wsX2_holds := by decide +kernel
theorem jX2_holds_X0 : ∀ w ∈ u_ws RX0 TX0 12, w ∈ wsX2_holds := by decide +kernel
set_option maxHeartbeats 8000000 in
set_option maxRecDepth 100000 in
theorem c_X2_holds (l : Launch) (D : va_G) (cA : ClassId) (ad : Nat → Nat) (a_this a_this_now a_this_then a_this_trial a_this_search a_this_letters a_this_numbers a_this_thickest a_this_refusals a_this_now_kinds a_this_now_thicks : Nat) (sz : Nat) (g_this g_this_now f_this_now_kinds f_this_now_thicks : Nat → Int32) (q : Int32) (hf : f_X2_holds g_this g_this_now f_this_now_kinds f_this_now_thicks = some q) : Met l yX2_holds wsX2_holds ({ frames := 3, cells := 0, slots := 0, locals := 68 } : Room) (va_Pc [.ref a_this] (rf_Pre D cA ad [(a_this, .inr (2, rf_o2 a_this_now a_this_then a_this_trial a_this_search a_this_letters a_this_numbers a_this_thickest a_this_refusals g_this)), (a_this_now, .inr (0, rf_o0 a_this_now_kinds a_this_now_thicks g_this_now)), (a_this_now_kinds, .inl (cA, 6, .inl f_this_now_kinds)), (a_this_now_thicks, .inl (cA, 6, .inl f_this_now_thicks))] sz)) (va_Qi (fun (r : Int32) (_ : Unit) => r = q) (fun _ t => rf_Post D (va_A [(a_this, .inr (2, rf_o2 a_this_now a_this_then a_this_trial a_this_search a_this_letters a_this_numbers a_this_thickest a_this_refusals g_this)), (a_this_now, .inr (0, rf_o0 a_this_now_kinds a_this_now_thicks g_this_now)), (a_this_now_kinds, .inl (cA, 6, .inl f_this_now_kinds)), (a_this_now_thicks, .inl (cA, 6, .inl f_this_now_thicks))] sz) [(a_this, .inr (2, rf_o2 a_this_now a_this_then a_this_trial a_this_search a_this_letters a_this_numbers a_this_thickest a_this_refusals g_this)), (a_this_now, .inr (0, rf_o0 a_this_now_kinds a_this_now_thicks g_this_now)), (a_this_now_kinds, .inl (cA, 6, .inl f_this_now_kinds)), (a_this_now_thicks, .inl (cA, 6, .inl f_this_now_thicks))] t) (va_A [(a_this, .inr (2, rf_o2 a_this_now a_this_then a_this_trial a_this_search a_this_letters a_this_numbers a_this_thickest a_this_refusals g_this)), (a_this_now, .inr (0, rf_o0 a_this_now_kinds a_this_now_thicks g_this_now)), (a_this_now_kinds, .inl (cA, 6, .inl f_this_now_kinds)), (a_this_now_thicks, .inl (cA, 6, .inl f_this_now_thicks))] sz)) 0 0 (va_A [(a_this, .inr (2, rf_o2 a_this_now a_this_then a_this_trial a_this_search a_this_letters a_this_numbers a_this_thickest a_this_refusals g_this)), (a_this_now, .inr (0, rf_o0 a_this_now_kinds a_this_now_thicks g_this_now)), (a_this_now_kinds, .inl (cA, 6, .inl f_this_now_kinds)), (a_this_now_thicks, .inl (cA, 6, .inl f_this_now_thicks))] sz) := by
  refine Met.ofW (cc := cX2_holds) (maxL := 1) (ret := (some .int)) (by decide) rfl ?_
  intro p e s m args below meth c s₁ B hml hv
  obtain ⟨rfl, hsz, hP, hK, hD0, hE⟩ := hv
  have hx := B.exec
  have hb := B.bytes
  have hr := B.returns
  have hts := atoms_spec (ws := wsX2_holds) B.pre
  have hown : s.vm.findClass RX2 = some m.cls := findClass_of_methodNamed B.named
  have hlocks := B.notSynchronized
  subst hsz
  have hD := hD0.self (sz := s.heap.size)
  generalize hAe : va_A [(a_this, .inr (2, rf_o2 a_this_now a_this_then a_this_trial a_this_search a_this_letters a_this_numbers a_this_thickest a_this_refusals g_this)), (a_this_now, .inr (0, rf_o0 a_this_now_kinds a_this_now_thicks g_this_now)), (a_this_now_kinds, .inl (cA, 6, .inl f_this_now_kinds)), (a_this_now_thicks, .inl (cA, 6, .inl f_this_now_thicks))] s.heap.size = A at hD hE ⊢
  have hA : ∀ q : Nat, s.heap.size ≤ q → A q := fun q h => by rw [← hAe]; exact Or.inr h
  have hS : va_S A s.heap s.heap [] := va_S.rf
  have hP : va_P D vwCl [(a_this, .inr (2, rf_o2 a_this_now a_this_then a_this_trial a_this_search a_this_letters a_this_numbers a_this_thickest a_this_refusals g_this)), (a_this_now, .inr (0, rf_o0 a_this_now_kinds a_this_now_thicks g_this_now)), (a_this_now_kinds, .inl (cA, 6, .inl f_this_now_kinds)), (a_this_now_thicks, .inl (cA, 6, .inl f_this_now_thicks))] s.heap := hP
  have hl := lv_entry ([.ref a_this]) (n := 1) (Nat.le_of_ble_eq_true rfl)
  rw [lg_entry_eq]
  generalize (lg_sl ([.ref a_this]) ++ List.replicate (1 - (lg_sl ([.ref a_this])).length) Slot.unset).toArray = ls at hl ⊢
  have hl : lv_has ls 1 [(0, .ref a_this)] := hl
  rw [f_X2_holds] at hf
  refine lv_aload_n hx hb dX2_holds_0 rfl (lv_at hl 0 rfl) ?_
  refine va_get (D := D) (ci := 2) (v := .ref a_this_now) (C := RX2) (T := TX2) (N := 12) hx hb hts jX2_holds_X2 hown hK hP 0 rfl rfl 0 (by decide) (hts _ kX2_holds_0) (fun _ h9 => h9) rfl dX2_holds_1 ?_
  obtain ⟨q1, hq1, hf⟩ := rf_bindq hf
  refine rf_Vi (As := []) (rest := []) (wr := [(a_this, .inr (2, rf_o2 a_this_now a_this_then a_this_trial a_this_search a_this_letters a_this_numbers a_this_thickest a_this_refusals g_this)), (a_this_now_kinds, .inl (cA, 6, .inl f_this_now_kinds)), (a_this_now_thicks, .inl (cA, 6, .inl f_this_now_thicks))]) (wn := [(a_this, .inr (2, rf_o2 a_this_now a_this_then a_this_trial a_this_search a_this_letters a_this_numbers a_this_thickest a_this_refusals g_this)), (a_this_now, .inr (0, rf_o0 a_this_now_kinds a_this_now_thicks g_this_now)), (a_this_now_kinds, .inl (cA, 6, .inl f_this_now_kinds)), (a_this_now_thicks, .inl (cA, 6, .inl f_this_now_thicks))]) ⟨hx, hb, hml, hown, hts⟩ hK hP hD hS hA hE (c_X0_isOff l D cA ad a_this_now a_this_now_kinds a_this_now_thicks s.heap.size g_this_now q1 hq1) (cwV 0 hts gX2_holds_X0_isOff rfl rfl rfl hv_X0_isOff ⟨Nat.le_of_ble_eq_true rfl, Nat.le_of_ble_eq_true rfl⟩) [1] [0, 2, 3] [0, 3, 1, 2] rfl rfl rfl rfl (by decide) rfl rfl 0 1 rfl rfl rfl rfl rfl hl.1 (Nat.le_of_ble_eq_true rfl) dX2_holds_4 ⟨Nat.zero_le _, Nat.zero_le _⟩ (fun H locs hP hD hS => ?_)
  refine lv_if_eq (tgt := 16) hx hb dX2_holds_7 (by decide) (fun c2 => ?_) (fun c2 => ?_)
  · have hf := rf_ifp hf c2
    refine lv_aload_n hx hb dX2_holds_16 rfl (lv_at hl 0 rfl) ?_
    refine va_get (D := D) (ci := 2) (v := .ref a_this_now) (C := RX2) (T := TX2) (N := 12) hx hb hts jX2_holds_X2 hown hK hP 0 rfl rfl 0 (by decide) (hts _ kX2_holds_0) (fun _ h9 => h9) rfl dX2_holds_17 ?_
    refine lv_aload_n hx hb dX2_holds_20 rfl (lv_at hl 0 rfl) ?_
    refine va_get (D := D) (ci := 2) (v := .ref a_this_now) (C := RX2) (T := TX2) (N := 12) hx hb hts jX2_holds_X2 hown hK hP 0 rfl rfl 0 (by decide) (hts _ kX2_holds_0) (fun _ h9 => h9) rfl dX2_holds_21 ?_
    refine va_get (D := D) (ci := 0) (v := .int (g_this_now 3)) (C := RX0) (T := TX0) (N := 12) hx hb hts jX2_holds_X0 hown hK hP 1 rfl rfl 5 (by decide) (hts _ kX2_holds_1) (fun _ h9 => h9) rfl dX2_holds_24 ?_
    obtain ⟨q3, hq3, hf⟩ := rf_bindq hf
    refine rf_Vi (As := [.int (g_this_now 3)]) (rest := []) (wr := [(a_this, .inr (2, rf_o2 a_this_now a_this_then a_this_trial a_this_search a_this_letters a_this_numbers a_this_thickest a_this_refusals g_this))]) (wn := [(a_this, .inr (2, rf_o2 a_this_now a_this_then a_this_trial a_this_search a_this_letters a_this_numbers a_this_thickest a_this_refusals g_this)), (a_this_now, .inr (0, rf_o0 a_this_now_kinds a_this_now_thicks g_this_now)), (a_this_now_kinds, .inl (cA, 6, .inl f_this_now_kinds)), (a_this_now_thicks, .inl (cA, 6, .inl f_this_now_thicks))]) ⟨hx, hb, hml, hown, hts⟩ hK hP hD hS hA hE (c_X0_thickNow l D cA ad a_this_now a_this_now_kinds a_this_now_thicks H.size g_this_now f_this_now_kinds f_this_now_thicks (g_this_now 3) q3 hq3) (cwV 1 hts gX2_holds_X0_thickNow rfl rfl rfl hv_X0_thickNow ⟨Nat.le_of_ble_eq_true rfl, Nat.le_of_ble_eq_true rfl⟩) [1, 2, 3] [0] [0, 1, 2, 3] rfl rfl rfl rfl (by decide) rfl rfl 0 1 rfl rfl rfl rfl rfl hl.1 (Nat.le_of_ble_eq_true rfl) dX2_holds_27 ⟨Nat.zero_le _, Nat.zero_le _⟩ (fun H locs hP hD hS => ?_)
    refine lv_aload_n hx hb dX2_holds_30 rfl (lv_at hl 0 rfl) ?_
    refine va_get (D := D) (ci := 2) (v := .ref a_this_now) (C := RX2) (T := TX2) (N := 12) hx hb hts jX2_holds_X2 hown hK hP 0 rfl rfl 0 (by decide) (hts _ kX2_holds_0) (fun _ h9 => h9) rfl dX2_holds_31 ?_
    refine va_get (D := D) (ci := 0) (v := .int (g_this_now 1)) (C := RX0) (T := TX0) (N := 12) hx hb hts jX2_holds_X0 hown hK hP 1 rfl rfl 3 (by decide) (hts _ kX2_holds_2) (fun _ h9 => h9) rfl dX2_holds_34 ?_
    refine lv_isub hx hb dX2_holds_37 ?_
    obtain rfl := Option.some.inj hf
    exact W.iret (v := (q3 - (g_this_now 1))) hx hb hr (fun t ht hW => ⟨⟨(q3 - (g_this_now 1)), (), rfl, rfl, rf_mk ht hP hD⟩, hS.F ht⟩) hS.2.2 dX2_holds_38
  · have hf := rf_ifn hf c2
    refine lv_sipush (v := (-9999)) hx hb dX2_holds_10 (by decide) ?_
    refine lv_goto (tgt := 38) hx hb dX2_holds_13 (by decide) ?_
    obtain rfl := Option.some.inj hf
    exact W.iret (v := (-9999)) hx hb hr (fun t ht hW => ⟨⟨(-9999), (), rfl, rfl, rf_mk ht hP hD⟩, hS.F ht⟩) hS.2.2 dX2_holds_38
theorem kX2_failuresAhead_0 : (.fieldLink RX2 19 "RingAndFinger" "trial" "LRingAndFinger$Finger;" : Cond) ∈ wsX2_failuresAhead := by decide +kernel
theorem kX2_failuresAhead_1 : (.fieldLink RX2 10 "RingAndFinger" "now" "LRingAndFinger$Finger;" : Cond) ∈ wsX2_failuresAhead := by decide +kernel
theorem jX2_failuresAhead_X2 : ∀ w ∈ u_ws RX2 TX2 12, w ∈ wsX2_failuresAhead := by decide +kernel
set_option maxHeartbeats 8000000 in
set_option maxRecDepth 100000 in
theorem c_X2_failuresAhead (l : Launch) (D : va_G) (cA : ClassId) (ad : Nat → Nat) (a_this a_this_now a_this_then a_this_trial a_this_search a_this_letters a_this_numbers a_this_thickest a_this_refusals a_this_now_kinds a_this_now_thicks a_this_trial_kinds a_this_trial_thicks : Nat) (sz : Nat) (g_this g_this_now f_this_now_kinds f_this_now_thicks g_this_trial f_this_trial_kinds f_this_trial_thicks : Nat → Int32) (p1 : Int32) (q : Int32 × (Nat → Int32) × (Nat → Int32) × (Nat → Int32)) (hf : f_X2_failuresAhead g_this g_this_now f_this_now_kinds f_this_now_thicks g_this_trial f_this_trial_kinds f_this_trial_thicks p1 = some q) : Met l yX2_failuresAhead wsX2_failuresAhead ({ frames := 3, cells := 0, slots := 0, locals := 81 } : Room) (va_Pc [.ref a_this, .int p1] (rf_Pre D cA ad [(a_this, .inr (2, rf_o2 a_this_now a_this_then a_this_trial a_this_search a_this_letters a_this_numbers a_this_thickest a_this_refusals g_this)), (a_this_now, .inr (0, rf_o0 a_this_now_kinds a_this_now_thicks g_this_now)), (a_this_now_kinds, .inl (cA, 6, .inl f_this_now_kinds)), (a_this_now_thicks, .inl (cA, 6, .inl f_this_now_thicks)), (a_this_trial, .inr (0, rf_o0 a_this_trial_kinds a_this_trial_thicks g_this_trial)), (a_this_trial_kinds, .inl (cA, 6, .inl f_this_trial_kinds)), (a_this_trial_thicks, .inl (cA, 6, .inl f_this_trial_thicks))] sz)) (va_Qi (fun (r : Int32) (_ : Unit) => r = q.1) (fun _ t => rf_Post D (va_A [(a_this, .inr (2, rf_o2 a_this_now a_this_then a_this_trial a_this_search a_this_letters a_this_numbers a_this_thickest a_this_refusals g_this)), (a_this_now, .inr (0, rf_o0 a_this_now_kinds a_this_now_thicks g_this_now)), (a_this_now_kinds, .inl (cA, 6, .inl f_this_now_kinds)), (a_this_now_thicks, .inl (cA, 6, .inl f_this_now_thicks)), (a_this_trial, .inr (0, rf_o0 a_this_trial_kinds a_this_trial_thicks g_this_trial)), (a_this_trial_kinds, .inl (cA, 6, .inl f_this_trial_kinds)), (a_this_trial_thicks, .inl (cA, 6, .inl f_this_trial_thicks))] sz) [(a_this, .inr (2, rf_o2 a_this_now a_this_then a_this_trial a_this_search a_this_letters a_this_numbers a_this_thickest a_this_refusals g_this)), (a_this_now, .inr (0, rf_o0 a_this_now_kinds a_this_now_thicks g_this_now)), (a_this_now_kinds, .inl (cA, 6, .inl f_this_now_kinds)), (a_this_now_thicks, .inl (cA, 6, .inl f_this_now_thicks)), (a_this_trial, .inr (0, rf_o0 a_this_trial_kinds a_this_trial_thicks q.2.1)), (a_this_trial_kinds, .inl (cA, 6, .inl q.2.2.1)), (a_this_trial_thicks, .inl (cA, 6, .inl q.2.2.2))] t) (va_A [(a_this, .inr (2, rf_o2 a_this_now a_this_then a_this_trial a_this_search a_this_letters a_this_numbers a_this_thickest a_this_refusals g_this)), (a_this_now, .inr (0, rf_o0 a_this_now_kinds a_this_now_thicks g_this_now)), (a_this_now_kinds, .inl (cA, 6, .inl f_this_now_kinds)), (a_this_now_thicks, .inl (cA, 6, .inl f_this_now_thicks)), (a_this_trial, .inr (0, rf_o0 a_this_trial_kinds a_this_trial_thicks g_this_trial)), (a_this_trial_kinds, .inl (cA, 6, .inl f_this_trial_kinds)), (a_this_trial_thicks, .inl (cA, 6, .inl f_this_trial_thicks))] sz)) 0 0 (va_A [(a_this, .inr (2, rf_o2 a_this_now a_this_then a_this_trial a_this_search a_this_letters a_this_numbers a_this_thickest a_this_refusals g_this)), (a_this_now, .inr (0, rf_o0 a_this_now_kinds a_this_now_thicks g_this_now)), (a_this_now_kinds, .inl (cA, 6, .inl f_this_now_kinds)), (a_this_now_thicks, .inl (cA, 6, .inl f_this_now_thicks)), (a_this_trial, .inr (0, rf_o0 a_this_trial_kinds a_this_trial_thicks g_this_trial)), (a_this_trial_kinds, .inl (cA, 6, .inl f_this_trial_kinds)), (a_this_trial_thicks, .inl (cA, 6, .inl f_this_trial_thicks))] sz) := by
  refine Met.ofW (cc := cX2_failuresAhead) (maxL := 3) (ret := (some .int)) (by decide) rfl ?_
  intro p e s m args below meth c s₁ B hml hv
  obtain ⟨rfl, hsz, hP, hK, hD0, hE⟩ := hv
  have hx := B.exec
  have hb := B.bytes
  have hr := B.returns
  have hts := atoms_spec (ws := wsX2_failuresAhead) B.pre
  have hown : s.vm.findClass RX2 = some m.cls := findClass_of_methodNamed B.named
  have hlocks := B.notSynchronized
  subst hsz
  have hD := hD0.self (sz := s.heap.size)
  generalize hAe : va_A [(a_this, .inr (2, rf_o2 a_this_now a_this_then a_this_trial a_this_search a_this_letters a_this_numbers a_this_thickest a_this_refusals g_this)), (a_this_now, .inr (0, rf_o0 a_this_now_kinds a_this_now_thicks g_this_now)), (a_this_now_kinds, .inl (cA, 6, .inl f_this_now_kinds)), (a_this_now_thicks, .inl (cA, 6, .inl f_this_now_thicks)), (a_this_trial, .inr (0, rf_o0 a_this_trial_kinds a_this_trial_thicks g_this_trial)), (a_this_trial_kinds, .inl (cA, 6, .inl f_this_trial_kinds)), (a_this_trial_thicks, .inl (cA, 6, .inl f_this_trial_thicks))] s.heap.size = A at hD hE ⊢
  have hA : ∀ q : Nat, s.heap.size ≤ q → A q := fun q h => by rw [← hAe]; exact Or.inr h
  have hS : va_S A s.heap s.heap [] := va_S.rf
  have hP : va_P D vwCl [(a_this, .inr (2, rf_o2 a_this_now a_this_then a_this_trial a_this_search a_this_letters a_this_numbers a_this_thickest a_this_refusals g_this)), (a_this_now, .inr (0, rf_o0 a_this_now_kinds a_this_now_thicks g_this_now)), (a_this_now_kinds, .inl (cA, 6, .inl f_this_now_kinds)), (a_this_now_thicks, .inl (cA, 6, .inl f_this_now_thicks)), (a_this_trial, .inr (0, rf_o0 a_this_trial_kinds a_this_trial_thicks g_this_trial)), (a_this_trial_kinds, .inl (cA, 6, .inl f_this_trial_kinds)), (a_this_trial_thicks, .inl (cA, 6, .inl f_this_trial_thicks))] s.heap := hP
  have hl := lv_entry ([.ref a_this, .int p1]) (n := 3) (Nat.le_of_ble_eq_true rfl)
  rw [lg_entry_eq]
  generalize (lg_sl ([.ref a_this, .int p1]) ++ List.replicate (3 - (lg_sl ([.ref a_this, .int p1])).length) Slot.unset).toArray = ls at hl ⊢
  have hl : lv_has ls 3 [(0, .ref a_this), (1, .int p1)] := hl
  have key_13 : ∀ (yf_this_trial_kinds yf_this_trial_thicks : Nat → Int32) (n : Nat) (x2 : Int32) (yg_this_trial : Nat → Int32) (ql : (Int32 × (Nat → Int32) × (Nat → Int32) × (Nat → Int32)) ⊕ (Int32 × (Nat → Int32))), f_X2_failuresAhead_L13 g_this g_this_now f_this_now_kinds f_this_now_thicks p1 yf_this_trial_kinds yf_this_trial_thicks n x2 yg_this_trial = some ql → ∀ (H : Heap) (locs : List Loc) (ls : Array Slot), va_P D vwCl [(a_this, .inr (2, rf_o2 a_this_now a_this_then a_this_trial a_this_search a_this_letters a_this_numbers a_this_thickest a_this_refusals g_this)), (a_this_now, .inr (0, rf_o0 a_this_now_kinds a_this_now_thicks g_this_now)), (a_this_now_kinds, .inl (cA, 6, .inl f_this_now_kinds)), (a_this_now_thicks, .inl (cA, 6, .inl f_this_now_thicks)), (a_this_trial, .inr (0, rf_o0 a_this_trial_kinds a_this_trial_thicks yg_this_trial)), (a_this_trial_kinds, .inl (cA, 6, .inl yf_this_trial_kinds)), (a_this_trial_thicks, .inl (cA, 6, .inl yf_this_trial_thicks))] H → va_D A [(a_this, .inr (2, rf_o2 a_this_now a_this_then a_this_trial a_this_search a_this_letters a_this_numbers a_this_thickest a_this_refusals g_this)), (a_this_now, .inr (0, rf_o0 a_this_now_kinds a_this_now_thicks g_this_now)), (a_this_now_kinds, .inl (cA, 6, .inl f_this_now_kinds)), (a_this_now_thicks, .inl (cA, 6, .inl f_this_now_thicks)), (a_this_trial, .inr (0, rf_o0 a_this_trial_kinds a_this_trial_thicks yg_this_trial)), (a_this_trial_kinds, .inl (cA, 6, .inl yf_this_trial_kinds)), (a_this_trial_thicks, .inl (cA, 6, .inl yf_this_trial_thicks))] → va_S A s.heap H locs → lv_has ls 3 [(0, .ref a_this), (1, .int p1), (2, .int x2)] → (∀ r : Int32 × (Nat → Int32) × (Nat → Int32) × (Nat → Int32), ql = .inl r → r = q) → (∀ (x : Int32 × (Nat → Int32)), ql = .inr x → ∀ (H : Heap) (locs : List Loc) (ls : Array Slot), va_P D vwCl [(a_this, .inr (2, rf_o2 a_this_now a_this_then a_this_trial a_this_search a_this_letters a_this_numbers a_this_thickest a_this_refusals g_this)), (a_this_now, .inr (0, rf_o0 a_this_now_kinds a_this_now_thicks g_this_now)), (a_this_now_kinds, .inl (cA, 6, .inl f_this_now_kinds)), (a_this_now_thicks, .inl (cA, 6, .inl f_this_now_thicks)), (a_this_trial, .inr (0, rf_o0 a_this_trial_kinds a_this_trial_thicks x.2)), (a_this_trial_kinds, .inl (cA, 6, .inl yf_this_trial_kinds)), (a_this_trial_thicks, .inl (cA, 6, .inl yf_this_trial_thicks))] H → va_D A [(a_this, .inr (2, rf_o2 a_this_now a_this_then a_this_trial a_this_search a_this_letters a_this_numbers a_this_thickest a_this_refusals g_this)), (a_this_now, .inr (0, rf_o0 a_this_now_kinds a_this_now_thicks g_this_now)), (a_this_now_kinds, .inl (cA, 6, .inl f_this_now_kinds)), (a_this_now_thicks, .inl (cA, 6, .inl f_this_now_thicks)), (a_this_trial, .inr (0, rf_o0 a_this_trial_kinds a_this_trial_thicks x.2)), (a_this_trial_kinds, .inl (cA, 6, .inl yf_this_trial_kinds)), (a_this_trial_thicks, .inl (cA, 6, .inl yf_this_trial_thicks))] → va_S A s.heap H locs → lv_has ls 3 [(0, .ref a_this), (1, .int p1), (2, .int x.1)] → W p l e (headSpec wsX2_failuresAhead ({ frames := 3, cells := 0, slots := 0, locals := 81 } : Room)).room s m ([.ref a_this, .int p1] : List Value).toArray below meth c H locs 0 0 (MQ below (va_Qi (fun (r : Int32) (_ : Unit) => r = q.1) (fun _ t => rf_Post D A [(a_this, .inr (2, rf_o2 a_this_now a_this_then a_this_trial a_this_search a_this_letters a_this_numbers a_this_thickest a_this_refusals g_this)), (a_this_now, .inr (0, rf_o0 a_this_now_kinds a_this_now_thicks g_this_now)), (a_this_now_kinds, .inl (cA, 6, .inl f_this_now_kinds)), (a_this_now_thicks, .inl (cA, 6, .inl f_this_now_thicks)), (a_this_trial, .inr (0, rf_o0 a_this_trial_kinds a_this_trial_thicks q.2.1)), (a_this_trial_kinds, .inl (cA, 6, .inl q.2.2.1)), (a_this_trial_thicks, .inl (cA, 6, .inl q.2.2.2))] t) A) ([.ref a_this, .int p1] : List Value).toArray s 0 0 A) (F0 m 46 ls [])) → W p l e (headSpec wsX2_failuresAhead ({ frames := 3, cells := 0, slots := 0, locals := 81 } : Room)).room s m ([.ref a_this, .int p1] : List Value).toArray below meth c H locs 0 0 (MQ below (va_Qi (fun (r : Int32) (_ : Unit) => r = q.1) (fun _ t => rf_Post D A [(a_this, .inr (2, rf_o2 a_this_now a_this_then a_this_trial a_this_search a_this_letters a_this_numbers a_this_thickest a_this_refusals g_this)), (a_this_now, .inr (0, rf_o0 a_this_now_kinds a_this_now_thicks g_this_now)), (a_this_now_kinds, .inl (cA, 6, .inl f_this_now_kinds)), (a_this_now_thicks, .inl (cA, 6, .inl f_this_now_thicks)), (a_this_trial, .inr (0, rf_o0 a_this_trial_kinds a_this_trial_thicks q.2.1)), (a_this_trial_kinds, .inl (cA, 6, .inl q.2.2.1)), (a_this_trial_thicks, .inl (cA, 6, .inl q.2.2.2))] t) A) ([.ref a_this, .int p1] : List Value).toArray s 0 0 A) (F0 m 13 ls []) := by
    intro yf_this_trial_kinds yf_this_trial_thicks n
    induction n with
    | zero =>
      intro x2 yg_this_trial ql hf H locs ls hP hD hS hl hret kx
      exact absurd (show (none : Option ((Int32 × (Nat → Int32) × (Nat → Int32) × (Nat → Int32)) ⊕ (Int32 × (Nat → Int32)))) = some ql from hf) (fun h9 => by cases h9)
    | succ n ih =>
      intro x2 yg_this_trial ql hf H locs ls hP hD hS hl hret kx
      rw [f_X2_failuresAhead_L13] at hf
      refine lv_iload_n hx hb dX2_failuresAhead_13 rfl (lv_at hl 2 rfl) ?_
      refine lv_bipush (v := 12) hx hb dX2_failuresAhead_14 (by decide) ?_
      refine lv_icmp_gt (tgt := 46) hx hb dX2_failuresAhead_16 (by decide) (fun c1 => ?_) (fun c1 => ?_)
      · have hf := rf_ifp hf c1
        exact kx _ (Option.some.inj hf).symm _ _ _ hP hD hS (lv_sub hl [0, 1, 2] rfl)
      · have hf := rf_ifn hf c1
        refine lv_aload_n hx hb dX2_failuresAhead_19 rfl (lv_at hl 0 rfl) ?_
        refine va_get (D := D) (ci := 2) (v := .ref a_this_trial) (C := RX2) (T := TX2) (N := 12) hx hb hts jX2_failuresAhead_X2 hown hK hP 0 rfl rfl 2 (by decide) (hts _ kX2_failuresAhead_0) (fun _ h9 => h9) rfl dX2_failuresAhead_20 ?_
        refine lv_iload_n hx hb dX2_failuresAhead_23 rfl (lv_at hl 1 rfl) ?_
        obtain ⟨q2, hq2, hf⟩ := rf_bindq hf
        refine rf_Vi (As := [.int p1]) (rest := []) (wr := [(a_this, .inr (2, rf_o2 a_this_now a_this_then a_this_trial a_this_search a_this_letters a_this_numbers a_this_thickest a_this_refusals g_this)), (a_this_now, .inr (0, rf_o0 a_this_now_kinds a_this_now_thicks g_this_now)), (a_this_now_kinds, .inl (cA, 6, .inl f_this_now_kinds)), (a_this_now_thicks, .inl (cA, 6, .inl f_this_now_thicks))]) (wn := [(a_this, .inr (2, rf_o2 a_this_now a_this_then a_this_trial a_this_search a_this_letters a_this_numbers a_this_thickest a_this_refusals g_this)), (a_this_now, .inr (0, rf_o0 a_this_now_kinds a_this_now_thicks g_this_now)), (a_this_now_kinds, .inl (cA, 6, .inl f_this_now_kinds)), (a_this_now_thicks, .inl (cA, 6, .inl f_this_now_thicks)), (a_this_trial, .inr (0, rf_o0 a_this_trial_kinds a_this_trial_thicks yg_this_trial)), (a_this_trial_kinds, .inl (cA, 6, .inl yf_this_trial_kinds)), (a_this_trial_thicks, .inl (cA, 6, .inl yf_this_trial_thicks))]) ⟨hx, hb, hml, hown, hts⟩ hK hP hD hS hA hE (c_X0_goesOver l D cA ad a_this_trial a_this_trial_kinds a_this_trial_thicks H.size yg_this_trial yf_this_trial_kinds yf_this_trial_thicks p1 q2 hq2) (cwV 1 hts gX2_failuresAhead_X0_goesOver rfl rfl rfl hv_X0_goesOver ⟨Nat.le_of_ble_eq_true rfl, Nat.le_of_ble_eq_true rfl⟩) [4, 5, 6] [0, 1, 2, 3] [0, 1, 2, 3, 4, 5, 6] rfl rfl rfl rfl (by decide) rfl rfl 0 4 rfl rfl rfl rfl rfl hl.1 (Nat.le_of_ble_eq_true rfl) dX2_failuresAhead_24 ⟨Nat.zero_le _, Nat.zero_le _⟩ (fun H locs hP hD hS => ?_)
        refine lv_if_eq (tgt := 32) hx hb dX2_failuresAhead_27 (by decide) (fun c3 => ?_) (fun c3 => ?_)
        · have hf := rf_ifp hf c3
          refine lv_aload_n hx hb dX2_failuresAhead_32 rfl (lv_at hl 0 rfl) ?_
          refine va_get (D := D) (ci := 2) (v := .ref a_this_trial) (C := RX2) (T := TX2) (N := 12) hx hb hts jX2_failuresAhead_X2 hown hK hP 0 rfl rfl 2 (by decide) (hts _ kX2_failuresAhead_0) (fun _ h9 => h9) rfl dX2_failuresAhead_33 ?_
          refine lv_iload_n hx hb dX2_failuresAhead_36 rfl (lv_at hl 1 rfl) ?_
          obtain ⟨q4, hq4, hf⟩ := rf_bindq hf
          refine rf_Vv (As := [.int p1]) (rest := []) (wr := [(a_this, .inr (2, rf_o2 a_this_now a_this_then a_this_trial a_this_search a_this_letters a_this_numbers a_this_thickest a_this_refusals g_this)), (a_this_now, .inr (0, rf_o0 a_this_now_kinds a_this_now_thicks g_this_now)), (a_this_now_kinds, .inl (cA, 6, .inl f_this_now_kinds)), (a_this_now_thicks, .inl (cA, 6, .inl f_this_now_thicks)), (a_this_trial_kinds, .inl (cA, 6, .inl yf_this_trial_kinds)), (a_this_trial_thicks, .inl (cA, 6, .inl yf_this_trial_thicks))]) (wn := [(a_this, .inr (2, rf_o2 a_this_now a_this_then a_this_trial a_this_search a_this_letters a_this_numbers a_this_thickest a_this_refusals g_this)), (a_this_now, .inr (0, rf_o0 a_this_now_kinds a_this_now_thicks g_this_now)), (a_this_now_kinds, .inl (cA, 6, .inl f_this_now_kinds)), (a_this_now_thicks, .inl (cA, 6, .inl f_this_now_thicks)), (a_this_trial, .inr (0, rf_o0 a_this_trial_kinds a_this_trial_thicks q4)), (a_this_trial_kinds, .inl (cA, 6, .inl yf_this_trial_kinds)), (a_this_trial_thicks, .inl (cA, 6, .inl yf_this_trial_thicks))]) ⟨hx, hb, hml, hown, hts⟩ hK hP hD hS hA hE (c_X0_strain l D cA ad a_this_trial a_this_trial_kinds a_this_trial_thicks H.size yg_this_trial p1 q4 hq4) (cwV 1 hts gX2_failuresAhead_X0_strain rfl rfl rfl hv_X0_strain ⟨Nat.le_of_ble_eq_true rfl, Nat.le_of_ble_eq_true rfl⟩) [4] [0, 1, 2, 3, 5, 6] [0, 1, 2, 3, 6, 4, 5] rfl rfl rfl rfl (by decide) rfl rfl 0 4 rfl rfl rfl rfl rfl hl.1 (Nat.le_of_ble_eq_true rfl) dX2_failuresAhead_37 ⟨Nat.zero_le _, Nat.zero_le _⟩ (fun H locs hP hD hS => ?_)
          obtain ⟨v5, ev5⟩ : ∃ y : Int32, y = x2 + 1 := ⟨_, rfl⟩
          have hf := rf_bindv hf ev5
          refine lv_iinc (v := v5) (lv' := [(2, .int v5), (0, .ref a_this), (1, .int p1)]) hx hb dX2_failuresAhead_40 hl (k := 2) rfl (by rw [ev5]; rfl) (by decide) rfl (fun ls hl => ?_)
          clear ev5
          refine lv_goto (tgt := 13) hx hb dX2_failuresAhead_43 (by decide) ?_
          exact ih v5 q4 ql hf _ _ _ hP hD hS (lv_sub hl [1, 2, 0] rfl) hret kx
        · have hf := rf_ifn hf c3
          refine lv_iload_n hx hb dX2_failuresAhead_30 rfl (lv_at hl 2 rfl) ?_
          obtain rfl := hret _ (Option.some.inj hf).symm
          exact W.iret (v := x2) hx hb hr (fun t ht hW => ⟨⟨x2, (), rfl, rfl, rf_mk ht hP hD⟩, hS.F ht⟩) hS.2.2 dX2_failuresAhead_31
  rw [f_X2_failuresAhead] at hf
  refine lv_aload_n hx hb dX2_failuresAhead_0 rfl (lv_at hl 0 rfl) ?_
  refine va_get (D := D) (ci := 2) (v := .ref a_this_trial) (C := RX2) (T := TX2) (N := 12) hx hb hts jX2_failuresAhead_X2 hown hK hP 0 rfl rfl 2 (by decide) (hts _ kX2_failuresAhead_0) (fun _ h9 => h9) rfl dX2_failuresAhead_1 ?_
  refine lv_aload_n hx hb dX2_failuresAhead_4 rfl (lv_at hl 0 rfl) ?_
  refine va_get (D := D) (ci := 2) (v := .ref a_this_now) (C := RX2) (T := TX2) (N := 12) hx hb hts jX2_failuresAhead_X2 hown hK hP 0 rfl rfl 0 (by decide) (hts _ kX2_failuresAhead_1) (fun _ h9 => h9) rfl dX2_failuresAhead_5 ?_
  obtain ⟨q6, hq6, hf⟩ := rf_bindq hf
  refine rf_Vv (As := [.ref a_this_now]) (rest := []) (wr := [(a_this, .inr (2, rf_o2 a_this_now a_this_then a_this_trial a_this_search a_this_letters a_this_numbers a_this_thickest a_this_refusals g_this))]) (wn := [(a_this, .inr (2, rf_o2 a_this_now a_this_then a_this_trial a_this_search a_this_letters a_this_numbers a_this_thickest a_this_refusals g_this)), (a_this_now, .inr (0, rf_o0 a_this_now_kinds a_this_now_thicks g_this_now)), (a_this_now_kinds, .inl (cA, 6, .inl f_this_now_kinds)), (a_this_now_thicks, .inl (cA, 6, .inl f_this_now_thicks)), (a_this_trial, .inr (0, rf_o0 a_this_trial_kinds a_this_trial_thicks q6.1)), (a_this_trial_kinds, .inl (cA, 6, .inl q6.2.1)), (a_this_trial_thicks, .inl (cA, 6, .inl q6.2.2))]) ⟨hx, hb, hml, hown, hts⟩ hK hP hD hS hA hE (c_X0_copyFrom l D cA ad a_this_trial a_this_trial_kinds a_this_trial_thicks a_this_now a_this_now_kinds a_this_now_thicks s.heap.size g_this_trial f_this_trial_kinds f_this_trial_thicks g_this_now f_this_now_kinds f_this_now_thicks q6 hq6) (cwV 1 hts gX2_failuresAhead_X0_copyFrom rfl rfl rfl hv_X0_copyFrom ⟨Nat.le_of_ble_eq_true rfl, Nat.le_of_ble_eq_true rfl⟩) [4, 5, 6, 1, 2, 3] [0] [0, 4, 5, 6, 1, 2, 3] rfl rfl rfl rfl (by decide) rfl rfl 0 4 rfl rfl rfl rfl rfl hl.1 (Nat.le_of_ble_eq_true rfl) dX2_failuresAhead_8 ⟨Nat.zero_le _, Nat.zero_le _⟩ (fun H locs hP hD hS => ?_)
  refine lv_iconst (v := 0) hx hb dX2_failuresAhead_11 (by decide) ?_
  refine lv_istore_n (lv' := [(2, .int 0), (0, .ref a_this), (1, .int p1)]) hx hb dX2_failuresAhead_12 rfl hl (by decide) rfl (fun ls hl => ?_)
  obtain ⟨q7, hq7, hf⟩ := rf_bindq hf
  refine key_13 q6.2.1 q6.2.2 rf_fu 0 q6.1 q7 hq7 _ _ _ hP hD hS (lv_sub hl [1, 2, 0] rfl) (fun r h9 => ?_) (fun x8 h9 H locs ls hP hD hS hl => ?_)
  · subst h9
    exact Option.some.inj hf
  · subst h9
    have hf := rf_sumr hf
    refine lv_bipush (v := (-9)) hx hb dX2_failuresAhead_46 (by decide) ?_
    obtain rfl := Option.some.inj hf
    exact W.iret (v := (-9)) hx hb hr (fun t ht hW => ⟨⟨(-9), (), rfl, rfl, rf_mk ht hP hD⟩, hS.F ht⟩) hS.2.2 dX2_failuresAhead_48

set_option maxHeartbeats 8000000 in
set_option maxRecDepth 100000 in
theorem c_X2_goes (l : Launch) (D : va_G) (cA : ClassId) (ad : Nat → Nat) (a_this a_this_now a_this_then a_this_trial a_this_search a_this_letters a_this_numbers a_this_thickest a_this_refusals a_this_now_kinds a_this_now_thicks a_this_trial_kinds a_this_trial_thicks : Nat) (sz : Nat) (g_this g_this_now f_this_now_kinds f_this_now_thicks g_this_trial f_this_trial_kinds f_this_trial_thicks f_this_refusals : Nat → Int32) (p1 : Int32) (q : Int32 × (Nat → Int32) × (Nat → Int32) × (Nat → Int32) × (Nat → Int32)) (hf : f_X2_goes g_this g_this_now f_this_now_kinds f_this_now_thicks g_this_trial f_this_trial_kinds f_this_trial_thicks f_this_refusals p1 = some q) : Met l yX2_goes wsX2_goes ({ frames := 4, cells := 0, slots := 0, locals := 103 } : Room) (va_Pc [.ref a_this, .int p1] (rf_Pre D cA ad [(a_this, .inr (2, rf_o2 a_this_now a_this_then a_this_trial a_this_search a_this_letters a_this_numbers a_this_thickest a_this_refusals g_this)), (a_this_now, .inr (0, rf_o0 a_this_now_kinds a_this_now_thicks g_this_now)), (a_this_now_kinds, .inl (cA, 6, .inl f_this_now_kinds)), (a_this_now_thicks, .inl (cA, 6, .inl f_this_now_thicks)), (a_this_trial, .inr (0, rf_o0 a_this_trial_kinds a_this_trial_thicks g_this_trial)), (a_this_trial_kinds, .inl (cA, 6, .inl f_this_trial_kinds)), (a_this_trial_thicks, .inl (cA, 6, .inl f_this_trial_thicks)), (a_this_refusals, .inl (cA, 7, .inl f_this_refusals))] sz)) (va_Qi (fun (r : Int32) (_ : Unit) => r = q.1) (fun _ t => rf_Post D (va_A [(a_this, .inr (2, rf_o2 a_this_now a_this_then a_this_trial a_this_search a_this_letters a_this_numbers a_this_thickest a_this_refusals g_this)), (a_this_now, .inr (0, rf_o0 a_this_now_kinds a_this_now_thicks g_this_now)), (a_this_now_kinds, .inl (cA, 6, .inl f_this_now_kinds)), (a_this_now_thicks, .inl (cA, 6, .inl f_this_now_thicks)), (a_this_trial, .inr (0, rf_o0 a_this_trial_kinds a_this_trial_thicks g_this_trial)), (a_this_trial_kinds, .inl (cA, 6, .inl f_this_trial_kinds)), (a_this_trial_thicks, .inl (cA, 6, .inl f_this_trial_thicks)), (a_this_refusals, .inl (cA, 7, .inl f_this_refusals))] sz) [(a_this, .inr (2, rf_o2 a_this_now a_this_then a_this_trial a_this_search a_this_letters a_this_numbers a_this_thickest a_this_refusals g_this)), (a_this_now, .inr (0, rf_o0 a_this_now_kinds a_this_now_thicks g_this_now)), (a_this_now_kinds, .inl (cA, 6, .inl f_this_now_kinds)), (a_this_now_thicks, .inl (cA, 6, .inl f_this_now_thicks)), (a_this_trial, .inr (0, rf_o0 a_this_trial_kinds a_this_trial_thicks q.2.1)), (a_this_trial_kinds, .inl (cA, 6, .inl q.2.2.1)), (a_this_trial_thicks, .inl (cA, 6, .inl q.2.2.2.1)), (a_this_refusals, .inl (cA, 7, .inl q.2.2.2.2))] t) (va_A [(a_this, .inr (2, rf_o2 a_this_now a_this_then a_this_trial a_this_search a_this_letters a_this_numbers a_this_thickest a_this_refusals g_this)), (a_this_now, .inr (0, rf_o0 a_this_now_kinds a_this_now_thicks g_this_now)), (a_this_now_kinds, .inl (cA, 6, .inl f_this_now_kinds)), (a_this_now_thicks, .inl (cA, 6, .inl f_this_now_thicks)), (a_this_trial, .inr (0, rf_o0 a_this_trial_kinds a_this_trial_thicks g_this_trial)), (a_this_trial_kinds, .inl (cA, 6, .inl f_this_trial_kinds)), (a_this_trial_thicks, .inl (cA, 6, .inl f_this_trial_thicks)), (a_this_refusals, .inl (cA, 7, .inl f_this_refusals))] sz)) 0 0 (va_A [(a_this, .inr (2, rf_o2 a_this_now a_this_then a_this_trial a_this_search a_this_letters a_this_numbers a_this_thickest a_this_refusals g_this)), (a_this_now, .inr (0, rf_o0 a_this_now_kinds a_this_now_thicks g_this_now)), (a_this_now_kinds, .inl (cA, 6, .inl f_this_now_kinds)), (a_this_now_thicks, .inl (cA, 6, .inl f_this_now_thicks)), (a_this_trial, .inr (0, rf_o0 a_this_trial_kinds a_this_trial_thicks g_this_trial)), (a_this_trial_kinds, .inl (cA, 6, .inl f_this_trial_kinds)), (a_this_trial_thicks, .inl (cA, 6, .inl f_this_trial_thicks)), (a_this_refusals, .inl (cA, 7, .inl f_this_refusals))] sz) := by
  refine Met.ofW (cc := cX2_goes) (maxL := 3) (ret := (some .int)) (by decide) rfl ?_
  intro p e s m args below meth c s₁ B hml hv
  obtain ⟨rfl, hsz, hP, hK, hD0, hE⟩ := hv
  have hx := B.exec
  have hb := B.bytes
  have hr := B.returns
  have hts := atoms_spec (ws := wsX2_goes) B.pre
  have hown : s.vm.findClass RX2 = some m.cls := findClass_of_methodNamed B.named
  have hlocks := B.notSynchronized
  subst hsz
  have hD := hD0.self (sz := s.heap.size)
  generalize hAe : va_A [(a_this, .inr (2, rf_o2 a_this_now a_this_then a_this_trial a_this_search a_this_letters a_this_numbers a_this_thickest a_this_refusals g_this)), (a_this_now, .inr (0, rf_o0 a_this_now_kinds a_this_now_thicks g_this_now)), (a_this_now_kinds, .inl (cA, 6, .inl f_this_now_kinds)), (a_this_now_thicks, .inl (cA, 6, .inl f_this_now_thicks)), (a_this_trial, .inr (0, rf_o0 a_this_trial_kinds a_this_trial_thicks g_this_trial)), (a_this_trial_kinds, .inl (cA, 6, .inl f_this_trial_kinds)), (a_this_trial_thicks, .inl (cA, 6, .inl f_this_trial_thicks)), (a_this_refusals, .inl (cA, 7, .inl f_this_refusals))] s.heap.size = A at hD hE ⊢
  have hA : ∀ q : Nat, s.heap.size ≤ q → A q := fun q h => by rw [← hAe]; exact Or.inr h
  have hS : va_S A s.heap s.heap [] := va_S.rf
  have hP : va_P D vwCl [(a_this, .inr (2, rf_o2 a_this_now a_this_then a_this_trial a_this_search a_this_letters a_this_numbers a_this_thickest a_this_refusals g_this)), (a_this_now, .inr (0, rf_o0 a_this_now_kinds a_this_now_thicks g_this_now)), (a_this_now_kinds, .inl (cA, 6, .inl f_this_now_kinds)), (a_this_now_thicks, .inl (cA, 6, .inl f_this_now_thicks)), (a_this_trial, .inr (0, rf_o0 a_this_trial_kinds a_this_trial_thicks g_this_trial)), (a_this_trial_kinds, .inl (cA, 6, .inl f_this_trial_kinds)), (a_this_trial_thicks, .inl (cA, 6, .inl f_this_trial_thicks)), (a_this_refusals, .inl (cA, 7, .inl f_this_refusals))] s.heap := hP
  have hl := lv_entry ([.ref a_this, .int p1]) (n := 3) (Nat.le_of_ble_eq_true rfl)
  rw [lg_entry_eq]
  generalize (lg_sl ([.ref a_this, .int p1]) ++ List.replicate (3 - (lg_sl ([.ref a_this, .int p1])).length) Slot.unset).toArray = ls at hl ⊢
  have hl : lv_has ls 3 [(0, .ref a_this), (1, .int p1)] := hl
  rw [f_X2_goes] at hf
  refine lv_aload_n hx hb dX2_goes_0 rfl (lv_at hl 0 rfl) ?_
  refine lv_iload_n hx hb dX2_goes_1 rfl (lv_at hl 1 rfl) ?_
  obtain ⟨q1, hq1, hf⟩ := rf_bindq hf
  refine rf_Vi (As := [.int p1]) (rest := []) (wr := [(a_this_now_kinds, .inl (cA, 6, .inl f_this_now_kinds)), (a_this_now_thicks, .inl (cA, 6, .inl f_this_now_thicks)), (a_this_trial, .inr (0, rf_o0 a_this_trial_kinds a_this_trial_thicks g_this_trial)), (a_this_trial_kinds, .inl (cA, 6, .inl f_this_trial_kinds)), (a_this_trial_thicks, .inl (cA, 6, .inl f_this_trial_thicks))]) (wn := [(a_this, .inr (2, rf_o2 a_this_now a_this_then a_this_trial a_this_search a_this_letters a_this_numbers a_this_thickest a_this_refusals g_this)), (a_this_now, .inr (0, rf_o0 a_this_now_kinds a_this_now_thicks g_this_now)), (a_this_now_kinds, .inl (cA, 6, .inl f_this_now_kinds)), (a_this_now_thicks, .inl (cA, 6, .inl f_this_now_thicks)), (a_this_trial, .inr (0, rf_o0 a_this_trial_kinds a_this_trial_thicks g_this_trial)), (a_this_trial_kinds, .inl (cA, 6, .inl f_this_trial_kinds)), (a_this_trial_thicks, .inl (cA, 6, .inl f_this_trial_thicks)), (a_this_refusals, .inl (cA, 7, .inl q1.2))]) ⟨hx, hb, hml, hown, hts⟩ hK hP hD hS hA hE (c_X2_tryRefusal l D cA ad a_this a_this_now a_this_then a_this_trial a_this_search a_this_letters a_this_numbers a_this_thickest a_this_refusals a_this_now_kinds a_this_now_thicks s.heap.size g_this g_this_now f_this_refusals p1 q1 hq1) (cwV 1 hts gX2_goes_X2_tryRefusal rfl rfl rfl hv_X2_tryRefusal ⟨Nat.le_of_ble_eq_true rfl, Nat.le_of_ble_eq_true rfl⟩) [0, 1, 7] [2, 3, 4, 5, 6] [5, 6, 0, 1, 2, 3, 4, 7] rfl rfl rfl rfl (by decide) rfl rfl 2 0 rfl rfl rfl rfl rfl hl.1 (Nat.le_of_ble_eq_true rfl) dX2_goes_2 ⟨Nat.zero_le _, Nat.zero_le _⟩ (fun H locs hP hD hS => ?_)
  refine lv_istore_n (lv' := [(2, .int q1.1), (0, .ref a_this), (1, .int p1)]) hx hb dX2_goes_5 rfl hl (by decide) rfl (fun ls hl => ?_)
  refine lv_iload_n hx hb dX2_goes_6 rfl (lv_at hl 0 rfl) ?_
  refine lv_if_eq (tgt := 14) hx hb dX2_goes_7 (by decide) (fun c2 => ?_) (fun c2 => ?_)
  · have hf := rf_ifp hf c2
    refine lv_aload_n hx hb dX2_goes_14 rfl (lv_at hl 1 rfl) ?_
    refine lv_iload_n hx hb dX2_goes_15 rfl (lv_at hl 2 rfl) ?_
    obtain ⟨q3, hq3, hf⟩ := rf_bindq hf
    refine rf_Vi (As := [.int p1]) (rest := []) (wr := [(a_this_refusals, .inl (cA, 7, .inl q1.2))]) (wn := [(a_this, .inr (2, rf_o2 a_this_now a_this_then a_this_trial a_this_search a_this_letters a_this_numbers a_this_thickest a_this_refusals g_this)), (a_this_now, .inr (0, rf_o0 a_this_now_kinds a_this_now_thicks g_this_now)), (a_this_now_kinds, .inl (cA, 6, .inl f_this_now_kinds)), (a_this_now_thicks, .inl (cA, 6, .inl f_this_now_thicks)), (a_this_trial, .inr (0, rf_o0 a_this_trial_kinds a_this_trial_thicks q3.2.1)), (a_this_trial_kinds, .inl (cA, 6, .inl q3.2.2.1)), (a_this_trial_thicks, .inl (cA, 6, .inl q3.2.2.2)), (a_this_refusals, .inl (cA, 7, .inl q1.2))]) ⟨hx, hb, hml, hown, hts⟩ hK hP hD hS hA hE (c_X2_failuresAhead l D cA ad a_this a_this_now a_this_then a_this_trial a_this_search a_this_letters a_this_numbers a_this_thickest a_this_refusals a_this_now_kinds a_this_now_thicks a_this_trial_kinds a_this_trial_thicks H.size g_this g_this_now f_this_now_kinds f_this_now_thicks g_this_trial f_this_trial_kinds f_this_trial_thicks p1 q3 hq3) (cwV 1 hts gX2_goes_X2_failuresAhead rfl rfl rfl hv_X2_failuresAhead ⟨Nat.le_of_ble_eq_true rfl, Nat.le_of_ble_eq_true rfl⟩) [0, 1, 2, 3, 4, 5, 6] [7] [1, 2, 3, 4, 5, 6, 7, 0] rfl rfl rfl rfl (by decide) rfl rfl 2 0 rfl rfl rfl rfl rfl hl.1 (Nat.le_of_ble_eq_true rfl) dX2_goes_16 ⟨Nat.zero_le _, Nat.zero_le _⟩ (fun H locs hP hD hS => ?_)
    obtain rfl := Option.some.inj hf
    exact W.iret (v := q3.1) hx hb hr (fun t ht hW => ⟨⟨q3.1, (), rfl, rfl, rf_mk ht hP hD⟩, hS.F ht⟩) hS.2.2 dX2_goes_19
  · have hf := rf_ifn hf c2
    refine lv_iload_n hx hb dX2_goes_10 rfl (lv_at hl 0 rfl) ?_
    refine lv_goto (tgt := 19) hx hb dX2_goes_11 (by decide) ?_
    obtain rfl := Option.some.inj hf
    exact W.iret (v := q1.1) hx hb hr (fun t ht hW => ⟨⟨q1.1, (), rfl, rfl, rf_mk ht hP hD⟩, hS.F ht⟩) hS.2.2 dX2_goes_19
theorem kX2_stop_0 : (.fieldLink RX2 10 "RingAndFinger" "now" "LRingAndFinger$Finger;" : Cond) ∈ wsX2_stop := by decide +kernel
theorem jX2_stop_X2 : ∀ w ∈ u_ws RX2 TX2 12, w ∈ wsX2_stop := by decide +kernel
set_option maxHeartbeats 8000000 in
set_option maxRecDepth 100000 in
theorem c_X2_stop (l : Launch) (D : va_G) (cA : ClassId) (ad : Nat → Nat) (a_this a_this_now a_this_then a_this_trial a_this_search a_this_letters a_this_numbers a_this_thickest a_this_refusals a_this_now_kinds a_this_now_thicks a_this_trial_kinds a_this_trial_thicks : Nat) (sz : Nat) (g_this g_this_now f_this_now_kinds f_this_now_thicks g_this_trial f_this_trial_kinds f_this_trial_thicks f_this_refusals : Nat → Int32) (q : Int32 × (Nat → Int32) × (Nat → Int32) × (Nat → Int32) × (Nat → Int32)) (hf : f_X2_stop g_this g_this_now f_this_now_kinds f_this_now_thicks g_this_trial f_this_trial_kinds f_this_trial_thicks f_this_refusals = some q) : Met l yX2_stop wsX2_stop ({ frames := 4, cells := 0, slots := 0, locals := 103 } : Room) (va_Pc [.ref a_this] (rf_Pre D cA ad [(a_this, .inr (2, rf_o2 a_this_now a_this_then a_this_trial a_this_search a_this_letters a_this_numbers a_this_thickest a_this_refusals g_this)), (a_this_now, .inr (0, rf_o0 a_this_now_kinds a_this_now_thicks g_this_now)), (a_this_now_kinds, .inl (cA, 6, .inl f_this_now_kinds)), (a_this_now_thicks, .inl (cA, 6, .inl f_this_now_thicks)), (a_this_trial, .inr (0, rf_o0 a_this_trial_kinds a_this_trial_thicks g_this_trial)), (a_this_trial_kinds, .inl (cA, 6, .inl f_this_trial_kinds)), (a_this_trial_thicks, .inl (cA, 6, .inl f_this_trial_thicks)), (a_this_refusals, .inl (cA, 7, .inl f_this_refusals))] sz)) (va_Qi (fun (r : Int32) (_ : Unit) => r = q.1) (fun _ t => rf_Post D (va_A [(a_this, .inr (2, rf_o2 a_this_now a_this_then a_this_trial a_this_search a_this_letters a_this_numbers a_this_thickest a_this_refusals g_this)), (a_this_now, .inr (0, rf_o0 a_this_now_kinds a_this_now_thicks g_this_now)), (a_this_now_kinds, .inl (cA, 6, .inl f_this_now_kinds)), (a_this_now_thicks, .inl (cA, 6, .inl f_this_now_thicks)), (a_this_trial, .inr (0, rf_o0 a_this_trial_kinds a_this_trial_thicks g_this_trial)), (a_this_trial_kinds, .inl (cA, 6, .inl f_this_trial_kinds)), (a_this_trial_thicks, .inl (cA, 6, .inl f_this_trial_thicks)), (a_this_refusals, .inl (cA, 7, .inl f_this_refusals))] sz) [(a_this, .inr (2, rf_o2 a_this_now a_this_then a_this_trial a_this_search a_this_letters a_this_numbers a_this_thickest a_this_refusals g_this)), (a_this_now, .inr (0, rf_o0 a_this_now_kinds a_this_now_thicks g_this_now)), (a_this_now_kinds, .inl (cA, 6, .inl f_this_now_kinds)), (a_this_now_thicks, .inl (cA, 6, .inl f_this_now_thicks)), (a_this_trial, .inr (0, rf_o0 a_this_trial_kinds a_this_trial_thicks q.2.1)), (a_this_trial_kinds, .inl (cA, 6, .inl q.2.2.1)), (a_this_trial_thicks, .inl (cA, 6, .inl q.2.2.2.1)), (a_this_refusals, .inl (cA, 7, .inl q.2.2.2.2))] t) (va_A [(a_this, .inr (2, rf_o2 a_this_now a_this_then a_this_trial a_this_search a_this_letters a_this_numbers a_this_thickest a_this_refusals g_this)), (a_this_now, .inr (0, rf_o0 a_this_now_kinds a_this_now_thicks g_this_now)), (a_this_now_kinds, .inl (cA, 6, .inl f_this_now_kinds)), (a_this_now_thicks, .inl (cA, 6, .inl f_this_now_thicks)), (a_this_trial, .inr (0, rf_o0 a_this_trial_kinds a_this_trial_thicks g_this_trial)), (a_this_trial_kinds, .inl (cA, 6, .inl f_this_trial_kinds)), (a_this_trial_thicks, .inl (cA, 6, .inl f_this_trial_thicks)), (a_this_refusals, .inl (cA, 7, .inl f_this_refusals))] sz)) 0 0 (va_A [(a_this, .inr (2, rf_o2 a_this_now a_this_then a_this_trial a_this_search a_this_letters a_this_numbers a_this_thickest a_this_refusals g_this)), (a_this_now, .inr (0, rf_o0 a_this_now_kinds a_this_now_thicks g_this_now)), (a_this_now_kinds, .inl (cA, 6, .inl f_this_now_kinds)), (a_this_now_thicks, .inl (cA, 6, .inl f_this_now_thicks)), (a_this_trial, .inr (0, rf_o0 a_this_trial_kinds a_this_trial_thicks g_this_trial)), (a_this_trial_kinds, .inl (cA, 6, .inl f_this_trial_kinds)), (a_this_trial_thicks, .inl (cA, 6, .inl f_this_trial_thicks)), (a_this_refusals, .inl (cA, 7, .inl f_this_refusals))] sz) := by
  refine Met.ofW (cc := cX2_stop) (maxL := 5) (ret := (some .int)) (by decide) rfl ?_
  intro p e s m args below meth c s₁ B hml hv
  obtain ⟨rfl, hsz, hP, hK, hD0, hE⟩ := hv
  have hx := B.exec
  have hb := B.bytes
  have hr := B.returns
  have hts := atoms_spec (ws := wsX2_stop) B.pre
  have hown : s.vm.findClass RX2 = some m.cls := findClass_of_methodNamed B.named
  have hlocks := B.notSynchronized
  subst hsz
  have hD := hD0.self (sz := s.heap.size)
  generalize hAe : va_A [(a_this, .inr (2, rf_o2 a_this_now a_this_then a_this_trial a_this_search a_this_letters a_this_numbers a_this_thickest a_this_refusals g_this)), (a_this_now, .inr (0, rf_o0 a_this_now_kinds a_this_now_thicks g_this_now)), (a_this_now_kinds, .inl (cA, 6, .inl f_this_now_kinds)), (a_this_now_thicks, .inl (cA, 6, .inl f_this_now_thicks)), (a_this_trial, .inr (0, rf_o0 a_this_trial_kinds a_this_trial_thicks g_this_trial)), (a_this_trial_kinds, .inl (cA, 6, .inl f_this_trial_kinds)), (a_this_trial_thicks, .inl (cA, 6, .inl f_this_trial_thicks)), (a_this_refusals, .inl (cA, 7, .inl f_this_refusals))] s.heap.size = A at hD hE ⊢
  have hA : ∀ q : Nat, s.heap.size ≤ q → A q := fun q h => by rw [← hAe]; exact Or.inr h
  have hS : va_S A s.heap s.heap [] := va_S.rf
  have hP : va_P D vwCl [(a_this, .inr (2, rf_o2 a_this_now a_this_then a_this_trial a_this_search a_this_letters a_this_numbers a_this_thickest a_this_refusals g_this)), (a_this_now, .inr (0, rf_o0 a_this_now_kinds a_this_now_thicks g_this_now)), (a_this_now_kinds, .inl (cA, 6, .inl f_this_now_kinds)), (a_this_now_thicks, .inl (cA, 6, .inl f_this_now_thicks)), (a_this_trial, .inr (0, rf_o0 a_this_trial_kinds a_this_trial_thicks g_this_trial)), (a_this_trial_kinds, .inl (cA, 6, .inl f_this_trial_kinds)), (a_this_trial_thicks, .inl (cA, 6, .inl f_this_trial_thicks)), (a_this_refusals, .inl (cA, 7, .inl f_this_refusals))] s.heap := hP
  have hl := lv_entry ([.ref a_this]) (n := 5) (Nat.le_of_ble_eq_true rfl)
  rw [lg_entry_eq]
  generalize (lg_sl ([.ref a_this]) ++ List.replicate (5 - (lg_sl ([.ref a_this])).length) Slot.unset).toArray = ls at hl ⊢
  have hl : lv_has ls 5 [(0, .ref a_this)] := hl
  have key_25 : ∀ (yf_this_refusals : Nat → Int32) (n : Nat) (x1 x2 x3 : Int32) (yg_this_trial yf_this_trial_kinds yf_this_trial_thicks : Nat → Int32) (ql : Int32 × Int32 × Int32 × (Nat → Int32) × (Nat → Int32) × (Nat → Int32)), f_X2_stop_L25 g_this g_this_now f_this_now_kinds f_this_now_thicks yf_this_refusals n x1 x2 x3 yg_this_trial yf_this_trial_kinds yf_this_trial_thicks = some ql → ∀ (H : Heap) (locs : List Loc) (ls : Array Slot), va_P D vwCl [(a_this, .inr (2, rf_o2 a_this_now a_this_then a_this_trial a_this_search a_this_letters a_this_numbers a_this_thickest a_this_refusals g_this)), (a_this_now, .inr (0, rf_o0 a_this_now_kinds a_this_now_thicks g_this_now)), (a_this_now_kinds, .inl (cA, 6, .inl f_this_now_kinds)), (a_this_now_thicks, .inl (cA, 6, .inl f_this_now_thicks)), (a_this_trial, .inr (0, rf_o0 a_this_trial_kinds a_this_trial_thicks yg_this_trial)), (a_this_trial_kinds, .inl (cA, 6, .inl yf_this_trial_kinds)), (a_this_trial_thicks, .inl (cA, 6, .inl yf_this_trial_thicks)), (a_this_refusals, .inl (cA, 7, .inl yf_this_refusals))] H → va_D A [(a_this, .inr (2, rf_o2 a_this_now a_this_then a_this_trial a_this_search a_this_letters a_this_numbers a_this_thickest a_this_refusals g_this)), (a_this_now, .inr (0, rf_o0 a_this_now_kinds a_this_now_thicks g_this_now)), (a_this_now_kinds, .inl (cA, 6, .inl f_this_now_kinds)), (a_this_now_thicks, .inl (cA, 6, .inl f_this_now_thicks)), (a_this_trial, .inr (0, rf_o0 a_this_trial_kinds a_this_trial_thicks yg_this_trial)), (a_this_trial_kinds, .inl (cA, 6, .inl yf_this_trial_kinds)), (a_this_trial_thicks, .inl (cA, 6, .inl yf_this_trial_thicks)), (a_this_refusals, .inl (cA, 7, .inl yf_this_refusals))] → va_S A s.heap H locs → lv_has ls 5 [(0, .ref a_this), (1, .int x1), (2, .int x2), (3, .int x3)] → (∀ (H : Heap) (locs : List Loc) (ls : Array Slot), va_P D vwCl [(a_this, .inr (2, rf_o2 a_this_now a_this_then a_this_trial a_this_search a_this_letters a_this_numbers a_this_thickest a_this_refusals g_this)), (a_this_now, .inr (0, rf_o0 a_this_now_kinds a_this_now_thicks g_this_now)), (a_this_now_kinds, .inl (cA, 6, .inl f_this_now_kinds)), (a_this_now_thicks, .inl (cA, 6, .inl f_this_now_thicks)), (a_this_trial, .inr (0, rf_o0 a_this_trial_kinds a_this_trial_thicks ql.2.2.2.1)), (a_this_trial_kinds, .inl (cA, 6, .inl ql.2.2.2.2.1)), (a_this_trial_thicks, .inl (cA, 6, .inl ql.2.2.2.2.2)), (a_this_refusals, .inl (cA, 7, .inl yf_this_refusals))] H → va_D A [(a_this, .inr (2, rf_o2 a_this_now a_this_then a_this_trial a_this_search a_this_letters a_this_numbers a_this_thickest a_this_refusals g_this)), (a_this_now, .inr (0, rf_o0 a_this_now_kinds a_this_now_thicks g_this_now)), (a_this_now_kinds, .inl (cA, 6, .inl f_this_now_kinds)), (a_this_now_thicks, .inl (cA, 6, .inl f_this_now_thicks)), (a_this_trial, .inr (0, rf_o0 a_this_trial_kinds a_this_trial_thicks ql.2.2.2.1)), (a_this_trial_kinds, .inl (cA, 6, .inl ql.2.2.2.2.1)), (a_this_trial_thicks, .inl (cA, 6, .inl ql.2.2.2.2.2)), (a_this_refusals, .inl (cA, 7, .inl yf_this_refusals))] → va_S A s.heap H locs → lv_has ls 5 [(0, .ref a_this), (1, .int ql.1), (2, .int ql.2.1), (3, .int ql.2.2.1)] → W p l e (headSpec wsX2_stop ({ frames := 4, cells := 0, slots := 0, locals := 103 } : Room)).room s m ([.ref a_this] : List Value).toArray below meth c H locs 0 0 (MQ below (va_Qi (fun (r : Int32) (_ : Unit) => r = q.1) (fun _ t => rf_Post D A [(a_this, .inr (2, rf_o2 a_this_now a_this_then a_this_trial a_this_search a_this_letters a_this_numbers a_this_thickest a_this_refusals g_this)), (a_this_now, .inr (0, rf_o0 a_this_now_kinds a_this_now_thicks g_this_now)), (a_this_now_kinds, .inl (cA, 6, .inl f_this_now_kinds)), (a_this_now_thicks, .inl (cA, 6, .inl f_this_now_thicks)), (a_this_trial, .inr (0, rf_o0 a_this_trial_kinds a_this_trial_thicks q.2.1)), (a_this_trial_kinds, .inl (cA, 6, .inl q.2.2.1)), (a_this_trial_thicks, .inl (cA, 6, .inl q.2.2.2.1)), (a_this_refusals, .inl (cA, 7, .inl q.2.2.2.2))] t) A) ([.ref a_this] : List Value).toArray s 0 0 A) (F0 m 60 ls [])) → W p l e (headSpec wsX2_stop ({ frames := 4, cells := 0, slots := 0, locals := 103 } : Room)).room s m ([.ref a_this] : List Value).toArray below meth c H locs 0 0 (MQ below (va_Qi (fun (r : Int32) (_ : Unit) => r = q.1) (fun _ t => rf_Post D A [(a_this, .inr (2, rf_o2 a_this_now a_this_then a_this_trial a_this_search a_this_letters a_this_numbers a_this_thickest a_this_refusals g_this)), (a_this_now, .inr (0, rf_o0 a_this_now_kinds a_this_now_thicks g_this_now)), (a_this_now_kinds, .inl (cA, 6, .inl f_this_now_kinds)), (a_this_now_thicks, .inl (cA, 6, .inl f_this_now_thicks)), (a_this_trial, .inr (0, rf_o0 a_this_trial_kinds a_this_trial_thicks q.2.1)), (a_this_trial_kinds, .inl (cA, 6, .inl q.2.2.1)), (a_this_trial_thicks, .inl (cA, 6, .inl q.2.2.2.1)), (a_this_refusals, .inl (cA, 7, .inl q.2.2.2.2))] t) A) ([.ref a_this] : List Value).toArray s 0 0 A) (F0 m 25 ls []) := by
    intro yf_this_refusals n
    induction n with
    | zero =>
      intro x1 x2 x3 yg_this_trial yf_this_trial_kinds yf_this_trial_thicks ql hf H locs ls hP hD hS hl kx
      exact absurd (show (none : Option (Int32 × Int32 × Int32 × (Nat → Int32) × (Nat → Int32) × (Nat → Int32))) = some ql from hf) (fun h9 => by cases h9)
    | succ n ih =>
      intro x1 x2 x3 yg_this_trial yf_this_trial_kinds yf_this_trial_thicks ql hf H locs ls hP hD hS hl kx
      rw [f_X2_stop_L25] at hf
      refine lv_iload_n hx hb dX2_stop_25 rfl (lv_at hl 3 rfl) ?_
      refine lv_bipush (v := 6) hx hb dX2_stop_26 (by decide) ?_
      refine lv_icmp_gt (tgt := 60) hx hb dX2_stop_28 (by decide) (fun c1 => ?_) (fun c1 => ?_)
      · have hf := rf_ifp hf c1
        obtain rfl := Option.some.inj hf
        exact kx _ _ _ hP hD hS (lv_sub hl [0, 1, 2, 3] rfl)
      · have hf := rf_ifn hf c1
        refine lv_aload_n hx hb dX2_stop_31 rfl (lv_at hl 0 rfl) ?_
        refine lv_iload_n hx hb dX2_stop_32 rfl (lv_at hl 3 rfl) ?_
        obtain ⟨q2, hq2, hf⟩ := rf_bindq hf
        refine rf_Vi (As := [.int x3]) (rest := []) (wr := [(a_this_refusals, .inl (cA, 7, .inl yf_this_refusals))]) (wn := [(a_this, .inr (2, rf_o2 a_this_now a_this_then a_this_trial a_this_search a_this_letters a_this_numbers a_this_thickest a_this_refusals g_this)), (a_this_now, .inr (0, rf_o0 a_this_now_kinds a_this_now_thicks g_this_now)), (a_this_now_kinds, .inl (cA, 6, .inl f_this_now_kinds)), (a_this_now_thicks, .inl (cA, 6, .inl f_this_now_thicks)), (a_this_trial, .inr (0, rf_o0 a_this_trial_kinds a_this_trial_thicks q2.2.1)), (a_this_trial_kinds, .inl (cA, 6, .inl q2.2.2.1)), (a_this_trial_thicks, .inl (cA, 6, .inl q2.2.2.2)), (a_this_refusals, .inl (cA, 7, .inl yf_this_refusals))]) ⟨hx, hb, hml, hown, hts⟩ hK hP hD hS hA hE (c_X2_failuresAhead l D cA ad a_this a_this_now a_this_then a_this_trial a_this_search a_this_letters a_this_numbers a_this_thickest a_this_refusals a_this_now_kinds a_this_now_thicks a_this_trial_kinds a_this_trial_thicks H.size g_this g_this_now f_this_now_kinds f_this_now_thicks yg_this_trial yf_this_trial_kinds yf_this_trial_thicks x3 q2 hq2) (cwV 1 hts gX2_stop_X2_failuresAhead rfl rfl rfl hv_X2_failuresAhead ⟨Nat.le_of_ble_eq_true rfl, Nat.le_of_ble_eq_true rfl⟩) [0, 1, 2, 3, 4, 5, 6] [7] [1, 2, 3, 4, 5, 6, 7, 0] rfl rfl rfl rfl (by decide) rfl rfl 2 0 rfl rfl rfl rfl rfl hl.1 (Nat.le_of_ble_eq_true rfl) dX2_stop_33 ⟨Nat.zero_le _, Nat.zero_le _⟩ (fun H locs hP hD hS => ?_)
        refine lv_istore (lv' := [(4, .int q2.1), (0, .ref a_this), (1, .int x1), (2, .int x2), (3, .int x3)]) hx hb dX2_stop_36 hl (by decide) rfl (fun ls hl => ?_)
        refine lv_iload hx hb dX2_stop_38 (lv_at hl 0 rfl) ?_
        refine lv_if_lt (tgt := 54) hx hb dX2_stop_40 (by decide) (fun c3 => ?_) (fun c3 => ?_)
        · have hf := rf_ifp hf c3
          obtain ⟨v4, ev4⟩ : ∃ y : Int32, y = x3 + 1 := ⟨_, rfl⟩
          have hf := rf_bindv hf ev4
          refine lv_iinc (v := v4) (lv' := [(3, .int v4), (4, .int q2.1), (0, .ref a_this), (1, .int x1), (2, .int x2)]) hx hb dX2_stop_54 hl (k := 4) rfl (by rw [ev4]; rfl) (by decide) rfl (fun ls hl => ?_)
          clear ev4
          refine lv_goto (tgt := 25) hx hb dX2_stop_57 (by decide) ?_
          exact ih x1 x2 v4 q2.2.1 q2.2.2.1 q2.2.2.2 ql hf _ _ _ hP hD hS (lv_sub hl [2, 3, 4, 0] rfl) kx
        · have hf := rf_ifn hf c3
          refine lv_iload hx hb dX2_stop_43 (lv_at hl 0 rfl) ?_
          refine lv_iload_n hx hb dX2_stop_45 rfl (lv_at hl 3 rfl) ?_
          refine lv_icmp_ge (tgt := 54) hx hb dX2_stop_46 (by decide) (fun c5 => ?_) (fun c5 => ?_)
          · have hf := rf_ifp hf c5
            obtain ⟨v6, ev6⟩ : ∃ y : Int32, y = x3 + 1 := ⟨_, rfl⟩
            have hf := rf_bindv hf ev6
            refine lv_iinc (v := v6) (lv' := [(3, .int v6), (4, .int q2.1), (0, .ref a_this), (1, .int x1), (2, .int x2)]) hx hb dX2_stop_54 hl (k := 4) rfl (by rw [ev6]; rfl) (by decide) rfl (fun ls hl => ?_)
            clear ev6
            refine lv_goto (tgt := 25) hx hb dX2_stop_57 (by decide) ?_
            exact ih x1 x2 v6 q2.2.1 q2.2.2.1 q2.2.2.2 ql hf _ _ _ hP hD hS (lv_sub hl [2, 3, 4, 0] rfl) kx
          · have hf := rf_ifn hf c5
            refine lv_iload_n hx hb dX2_stop_49 rfl (lv_at hl 4 rfl) ?_
            refine lv_istore_n (lv' := [(1, .int x3), (4, .int q2.1), (0, .ref a_this), (2, .int x2), (3, .int x3)]) hx hb dX2_stop_50 rfl hl (by decide) rfl (fun ls hl => ?_)
            refine lv_iload hx hb dX2_stop_51 (lv_at hl 1 rfl) ?_
            refine lv_istore_n (lv' := [(2, .int q2.1), (1, .int x3), (4, .int q2.1), (0, .ref a_this), (3, .int x3)]) hx hb dX2_stop_53 rfl hl (by decide) rfl (fun ls hl => ?_)
            obtain ⟨v7, ev7⟩ : ∃ y : Int32, y = x3 + 1 := ⟨_, rfl⟩
            have hf := rf_bindv hf ev7
            refine lv_iinc (v := v7) (lv' := [(3, .int v7), (2, .int q2.1), (1, .int x3), (4, .int q2.1), (0, .ref a_this)]) hx hb dX2_stop_54 hl (k := 4) rfl (by rw [ev7]; rfl) (by decide) rfl (fun ls hl => ?_)
            clear ev7
            refine lv_goto (tgt := 25) hx hb dX2_stop_57 (by decide) ?_
            exact ih x3 q2.1 v7 q2.2.1 q2.2.2.1 q2.2.2.2 ql hf _ _ _ hP hD hS (lv_sub hl [4, 2, 1, 0] rfl) kx
  rw [f_X2_stop] at hf
  refine lv_aload_n hx hb dX2_stop_0 rfl (lv_at hl 0 rfl) ?_
  refine va_get (D := D) (ci := 2) (v := .ref a_this_now) (C := RX2) (T := TX2) (N := 12) hx hb hts jX2_stop_X2 hown hK hP 0 rfl rfl 0 (by decide) (hts _ kX2_stop_0) (fun _ h9 => h9) rfl dX2_stop_1 ?_
  obtain ⟨q8, hq8, hf⟩ := rf_bindq hf
  refine rf_Vi (As := []) (rest := []) (wr := [(a_this, .inr (2, rf_o2 a_this_now a_this_then a_this_trial a_this_search a_this_letters a_this_numbers a_this_thickest a_this_refusals g_this)), (a_this_now_kinds, .inl (cA, 6, .inl f_this_now_kinds)), (a_this_now_thicks, .inl (cA, 6, .inl f_this_now_thicks)), (a_this_trial, .inr (0, rf_o0 a_this_trial_kinds a_this_trial_thicks g_this_trial)), (a_this_trial_kinds, .inl (cA, 6, .inl f_this_trial_kinds)), (a_this_trial_thicks, .inl (cA, 6, .inl f_this_trial_thicks)), (a_this_refusals, .inl (cA, 7, .inl f_this_refusals))]) (wn := [(a_this, .inr (2, rf_o2 a_this_now a_this_then a_this_trial a_this_search a_this_letters a_this_numbers a_this_thickest a_this_refusals g_this)), (a_this_now, .inr (0, rf_o0 a_this_now_kinds a_this_now_thicks g_this_now)), (a_this_now_kinds, .inl (cA, 6, .inl f_this_now_kinds)), (a_this_now_thicks, .inl (cA, 6, .inl f_this_now_thicks)), (a_this_trial, .inr (0, rf_o0 a_this_trial_kinds a_this_trial_thicks g_this_trial)), (a_this_trial_kinds, .inl (cA, 6, .inl f_this_trial_kinds)), (a_this_trial_thicks, .inl (cA, 6, .inl f_this_trial_thicks)), (a_this_refusals, .inl (cA, 7, .inl f_this_refusals))]) ⟨hx, hb, hml, hown, hts⟩ hK hP hD hS hA hE (c_X0_isOff l D cA ad a_this_now a_this_now_kinds a_this_now_thicks s.heap.size g_this_now q8 hq8) (cwV 0 hts gX2_stop_X0_isOff rfl rfl rfl hv_X0_isOff ⟨Nat.le_of_ble_eq_true rfl, Nat.le_of_ble_eq_true rfl⟩) [1] [0, 2, 3, 4, 5, 6, 7] [0, 7, 1, 2, 3, 4, 5, 6] rfl rfl rfl rfl (by decide) rfl rfl 0 1 rfl rfl rfl rfl rfl hl.1 (Nat.le_of_ble_eq_true rfl) dX2_stop_4 ⟨Nat.zero_le _, Nat.zero_le _⟩ (fun H locs hP hD hS => ?_)
  refine lv_if_eq (tgt := 17) hx hb dX2_stop_7 (by decide) (fun c9 => ?_) (fun c9 => ?_)
  · have hf := rf_ifp hf c9
    refine lv_bipush (v := (-9)) hx hb dX2_stop_17 (by decide) ?_
    refine lv_istore_n (lv' := [(1, .int (-9)), (0, .ref a_this)]) hx hb dX2_stop_19 rfl hl (by decide) rfl (fun ls hl => ?_)
    refine lv_bipush (v := 13) hx hb dX2_stop_20 (by decide) ?_
    refine lv_istore_n (lv' := [(2, .int 13), (1, .int (-9)), (0, .ref a_this)]) hx hb dX2_stop_22 rfl hl (by decide) rfl (fun ls hl => ?_)
    refine lv_iconst (v := 0) hx hb dX2_stop_23 (by decide) ?_
    refine lv_istore_n (lv' := [(3, .int 0), (2, .int 13), (1, .int (-9)), (0, .ref a_this)]) hx hb dX2_stop_24 rfl hl (by decide) rfl (fun ls hl => ?_)
    obtain ⟨q10, hq10, hf⟩ := rf_bindq hf
    refine key_25 f_this_refusals rf_fu (-9) 13 0 g_this_trial f_this_trial_kinds f_this_trial_thicks q10 hq10 _ _ _ hP hD hS (lv_sub hl [3, 2, 1, 0] rfl) (fun H locs ls hP hD hS hl => ?_)
    refine lv_iload_n hx hb dX2_stop_60 rfl (lv_at hl 1 rfl) ?_
    obtain rfl := Option.some.inj hf
    exact W.iret (v := q10.1) hx hb hr (fun t ht hW => ⟨⟨q10.1, (), rfl, rfl, rf_mk ht hP hD⟩, hS.F ht⟩) hS.2.2 dX2_stop_61
  · have hf := rf_ifn hf c9
    refine lv_aload_n hx hb dX2_stop_10 rfl (lv_at hl 0 rfl) ?_
    refine lv_bipush (v := (-3)) hx hb dX2_stop_11 (by decide) ?_
    obtain ⟨q11, hq11, hf⟩ := rf_bindq hf
    refine rf_Vi (As := [.int (-3)]) (rest := []) (wr := [(a_this_now, .inr (0, rf_o0 a_this_now_kinds a_this_now_thicks g_this_now)), (a_this_now_kinds, .inl (cA, 6, .inl f_this_now_kinds)), (a_this_now_thicks, .inl (cA, 6, .inl f_this_now_thicks)), (a_this_trial, .inr (0, rf_o0 a_this_trial_kinds a_this_trial_thicks g_this_trial)), (a_this_trial_kinds, .inl (cA, 6, .inl f_this_trial_kinds)), (a_this_trial_thicks, .inl (cA, 6, .inl f_this_trial_thicks))]) (wn := [(a_this, .inr (2, rf_o2 a_this_now a_this_then a_this_trial a_this_search a_this_letters a_this_numbers a_this_thickest a_this_refusals g_this)), (a_this_now, .inr (0, rf_o0 a_this_now_kinds a_this_now_thicks g_this_now)), (a_this_now_kinds, .inl (cA, 6, .inl f_this_now_kinds)), (a_this_now_thicks, .inl (cA, 6, .inl f_this_now_thicks)), (a_this_trial, .inr (0, rf_o0 a_this_trial_kinds a_this_trial_thicks g_this_trial)), (a_this_trial_kinds, .inl (cA, 6, .inl f_this_trial_kinds)), (a_this_trial_thicks, .inl (cA, 6, .inl f_this_trial_thicks)), (a_this_refusals, .inl (cA, 7, .inl q11.2))]) ⟨hx, hb, hml, hown, hts⟩ hK hP hD hS hA hE (c_X2_refuse l D cA ad a_this a_this_now a_this_then a_this_trial a_this_search a_this_letters a_this_numbers a_this_thickest a_this_refusals H.size g_this f_this_refusals (-3) q11 hq11) (cwV 1 hts gX2_stop_X2_refuse rfl rfl rfl hv_X2_refuse ⟨Nat.le_of_ble_eq_true rfl, Nat.le_of_ble_eq_true rfl⟩) [0, 7] [1, 2, 3, 4, 5, 6] [6, 0, 1, 2, 3, 4, 5, 7] rfl rfl rfl rfl (by decide) rfl rfl 2 0 rfl rfl rfl rfl rfl hl.1 (Nat.le_of_ble_eq_true rfl) dX2_stop_13 ⟨Nat.zero_le _, Nat.zero_le _⟩ (fun H locs hP hD hS => ?_)
    obtain rfl := Option.some.inj hf
    exact W.iret (v := q11.1) hx hb hr (fun t ht hW => ⟨⟨q11.1, (), rfl, rfl, rf_mk ht hP hD⟩, hS.F ht⟩) hS.2.2 dX2_stop_16
theorem kX2_waited_0 : (.fieldLink RX2 19 "RingAndFinger" "trial" "LRingAndFinger$Finger;" : Cond) ∈ wsX2_waited := by decide +kernel
theorem kX2_waited_1 : (.fieldLink RX2 10 "RingAndFinger" "now" "LRingAndFinger$Finger;" : Cond) ∈ wsX2_waited := by decide +kernel
theorem jX2_waited_X2 : ∀ w ∈ u_ws RX2 TX2 12, w ∈ wsX2_waited := by decide +kernel
set_option maxHeartbeats 8000000 in
set_option maxRecDepth 100000 in
theorem c_X2_waited (l : Launch) (D : va_G) (cA : ClassId) (ad : Nat → Nat) (a_this a_this_now a_this_then a_this_trial a_this_search a_this_letters a_this_numbers a_this_thickest a_this_refusals a_this_now_kinds a_this_now_thicks a_this_trial_kinds a_this_trial_thicks : Nat) (sz : Nat) (g_this g_this_now f_this_now_kinds f_this_now_thicks g_this_trial f_this_trial_kinds f_this_trial_thicks f_this_refusals : Nat → Int32) (p1 : Int32) (q : Int32 × (Nat → Int32) × (Nat → Int32) × (Nat → Int32) × (Nat → Int32)) (hf : f_X2_waited g_this g_this_now f_this_now_kinds f_this_now_thicks g_this_trial f_this_trial_kinds f_this_trial_thicks f_this_refusals p1 = some q) : Met l yX2_waited wsX2_waited ({ frames := 3, cells := 0, slots := 0, locals := 81 } : Room) (va_Pc [.ref a_this, .int p1] (rf_Pre D cA ad [(a_this, .inr (2, rf_o2 a_this_now a_this_then a_this_trial a_this_search a_this_letters a_this_numbers a_this_thickest a_this_refusals g_this)), (a_this_now, .inr (0, rf_o0 a_this_now_kinds a_this_now_thicks g_this_now)), (a_this_now_kinds, .inl (cA, 6, .inl f_this_now_kinds)), (a_this_now_thicks, .inl (cA, 6, .inl f_this_now_thicks)), (a_this_trial, .inr (0, rf_o0 a_this_trial_kinds a_this_trial_thicks g_this_trial)), (a_this_trial_kinds, .inl (cA, 6, .inl f_this_trial_kinds)), (a_this_trial_thicks, .inl (cA, 6, .inl f_this_trial_thicks)), (a_this_refusals, .inl (cA, 7, .inl f_this_refusals))] sz)) (va_Qi (fun (r : Int32) (_ : Unit) => r = q.1) (fun _ t => rf_Post D (va_A [(a_this, .inr (2, rf_o2 a_this_now a_this_then a_this_trial a_this_search a_this_letters a_this_numbers a_this_thickest a_this_refusals g_this)), (a_this_now, .inr (0, rf_o0 a_this_now_kinds a_this_now_thicks g_this_now)), (a_this_now_kinds, .inl (cA, 6, .inl f_this_now_kinds)), (a_this_now_thicks, .inl (cA, 6, .inl f_this_now_thicks)), (a_this_trial, .inr (0, rf_o0 a_this_trial_kinds a_this_trial_thicks g_this_trial)), (a_this_trial_kinds, .inl (cA, 6, .inl f_this_trial_kinds)), (a_this_trial_thicks, .inl (cA, 6, .inl f_this_trial_thicks)), (a_this_refusals, .inl (cA, 7, .inl f_this_refusals))] sz) [(a_this, .inr (2, rf_o2 a_this_now a_this_then a_this_trial a_this_search a_this_letters a_this_numbers a_this_thickest a_this_refusals g_this)), (a_this_now, .inr (0, rf_o0 a_this_now_kinds a_this_now_thicks g_this_now)), (a_this_now_kinds, .inl (cA, 6, .inl f_this_now_kinds)), (a_this_now_thicks, .inl (cA, 6, .inl f_this_now_thicks)), (a_this_trial, .inr (0, rf_o0 a_this_trial_kinds a_this_trial_thicks q.2.1)), (a_this_trial_kinds, .inl (cA, 6, .inl q.2.2.1)), (a_this_trial_thicks, .inl (cA, 6, .inl q.2.2.2.1)), (a_this_refusals, .inl (cA, 7, .inl q.2.2.2.2))] t) (va_A [(a_this, .inr (2, rf_o2 a_this_now a_this_then a_this_trial a_this_search a_this_letters a_this_numbers a_this_thickest a_this_refusals g_this)), (a_this_now, .inr (0, rf_o0 a_this_now_kinds a_this_now_thicks g_this_now)), (a_this_now_kinds, .inl (cA, 6, .inl f_this_now_kinds)), (a_this_now_thicks, .inl (cA, 6, .inl f_this_now_thicks)), (a_this_trial, .inr (0, rf_o0 a_this_trial_kinds a_this_trial_thicks g_this_trial)), (a_this_trial_kinds, .inl (cA, 6, .inl f_this_trial_kinds)), (a_this_trial_thicks, .inl (cA, 6, .inl f_this_trial_thicks)), (a_this_refusals, .inl (cA, 7, .inl f_this_refusals))] sz)) 0 0 (va_A [(a_this, .inr (2, rf_o2 a_this_now a_this_then a_this_trial a_this_search a_this_letters a_this_numbers a_this_thickest a_this_refusals g_this)), (a_this_now, .inr (0, rf_o0 a_this_now_kinds a_this_now_thicks g_this_now)), (a_this_now_kinds, .inl (cA, 6, .inl f_this_now_kinds)), (a_this_now_thicks, .inl (cA, 6, .inl f_this_now_thicks)), (a_this_trial, .inr (0, rf_o0 a_this_trial_kinds a_this_trial_thicks g_this_trial)), (a_this_trial_kinds, .inl (cA, 6, .inl f_this_trial_kinds)), (a_this_trial_thicks, .inl (cA, 6, .inl f_this_trial_thicks)), (a_this_refusals, .inl (cA, 7, .inl f_this_refusals))] sz) := by
  refine Met.ofW (cc := cX2_waited) (maxL := 4) (ret := (some .int)) (by decide) rfl ?_
  intro p e s m args below meth c s₁ B hml hv
  obtain ⟨rfl, hsz, hP, hK, hD0, hE⟩ := hv
  have hx := B.exec
  have hb := B.bytes
  have hr := B.returns
  have hts := atoms_spec (ws := wsX2_waited) B.pre
  have hown : s.vm.findClass RX2 = some m.cls := findClass_of_methodNamed B.named
  have hlocks := B.notSynchronized
  subst hsz
  have hD := hD0.self (sz := s.heap.size)
  generalize hAe : va_A [(a_this, .inr (2, rf_o2 a_this_now a_this_then a_this_trial a_this_search a_this_letters a_this_numbers a_this_thickest a_this_refusals g_this)), (a_this_now, .inr (0, rf_o0 a_this_now_kinds a_this_now_thicks g_this_now)), (a_this_now_kinds, .inl (cA, 6, .inl f_this_now_kinds)), (a_this_now_thicks, .inl (cA, 6, .inl f_this_now_thicks)), (a_this_trial, .inr (0, rf_o0 a_this_trial_kinds a_this_trial_thicks g_this_trial)), (a_this_trial_kinds, .inl (cA, 6, .inl f_this_trial_kinds)), (a_this_trial_thicks, .inl (cA, 6, .inl f_this_trial_thicks)), (a_this_refusals, .inl (cA, 7, .inl f_this_refusals))] s.heap.size = A at hD hE ⊢
  have hA : ∀ q : Nat, s.heap.size ≤ q → A q := fun q h => by rw [← hAe]; exact Or.inr h
  have hS : va_S A s.heap s.heap [] := va_S.rf
  have hP : va_P D vwCl [(a_this, .inr (2, rf_o2 a_this_now a_this_then a_this_trial a_this_search a_this_letters a_this_numbers a_this_thickest a_this_refusals g_this)), (a_this_now, .inr (0, rf_o0 a_this_now_kinds a_this_now_thicks g_this_now)), (a_this_now_kinds, .inl (cA, 6, .inl f_this_now_kinds)), (a_this_now_thicks, .inl (cA, 6, .inl f_this_now_thicks)), (a_this_trial, .inr (0, rf_o0 a_this_trial_kinds a_this_trial_thicks g_this_trial)), (a_this_trial_kinds, .inl (cA, 6, .inl f_this_trial_kinds)), (a_this_trial_thicks, .inl (cA, 6, .inl f_this_trial_thicks)), (a_this_refusals, .inl (cA, 7, .inl f_this_refusals))] s.heap := hP
  have hl := lv_entry ([.ref a_this, .int p1]) (n := 4) (Nat.le_of_ble_eq_true rfl)
  rw [lg_entry_eq]
  generalize (lg_sl ([.ref a_this, .int p1]) ++ List.replicate (4 - (lg_sl ([.ref a_this, .int p1])).length) Slot.unset).toArray = ls at hl ⊢
  have hl : lv_has ls 4 [(0, .ref a_this), (1, .int p1)] := hl
  have key_14 : ∀ (yf_this_refusals : Nat → Int32) (n : Nat) (x3 : Int32) (yg_this_trial yf_this_trial_kinds yf_this_trial_thicks : Nat → Int32) (ql : (Int32 × (Nat → Int32) × (Nat → Int32) × (Nat → Int32) × (Nat → Int32)) ⊕ (Int32 × (Nat → Int32) × (Nat → Int32) × (Nat → Int32))), f_X2_waited_L14 g_this g_this_now f_this_now_kinds f_this_now_thicks p1 yf_this_refusals n x3 yg_this_trial yf_this_trial_kinds yf_this_trial_thicks = some ql → ∀ (H : Heap) (locs : List Loc) (ls : Array Slot), va_P D vwCl [(a_this, .inr (2, rf_o2 a_this_now a_this_then a_this_trial a_this_search a_this_letters a_this_numbers a_this_thickest a_this_refusals g_this)), (a_this_now, .inr (0, rf_o0 a_this_now_kinds a_this_now_thicks g_this_now)), (a_this_now_kinds, .inl (cA, 6, .inl f_this_now_kinds)), (a_this_now_thicks, .inl (cA, 6, .inl f_this_now_thicks)), (a_this_trial, .inr (0, rf_o0 a_this_trial_kinds a_this_trial_thicks yg_this_trial)), (a_this_trial_kinds, .inl (cA, 6, .inl yf_this_trial_kinds)), (a_this_trial_thicks, .inl (cA, 6, .inl yf_this_trial_thicks)), (a_this_refusals, .inl (cA, 7, .inl yf_this_refusals))] H → va_D A [(a_this, .inr (2, rf_o2 a_this_now a_this_then a_this_trial a_this_search a_this_letters a_this_numbers a_this_thickest a_this_refusals g_this)), (a_this_now, .inr (0, rf_o0 a_this_now_kinds a_this_now_thicks g_this_now)), (a_this_now_kinds, .inl (cA, 6, .inl f_this_now_kinds)), (a_this_now_thicks, .inl (cA, 6, .inl f_this_now_thicks)), (a_this_trial, .inr (0, rf_o0 a_this_trial_kinds a_this_trial_thicks yg_this_trial)), (a_this_trial_kinds, .inl (cA, 6, .inl yf_this_trial_kinds)), (a_this_trial_thicks, .inl (cA, 6, .inl yf_this_trial_thicks)), (a_this_refusals, .inl (cA, 7, .inl yf_this_refusals))] → va_S A s.heap H locs → lv_has ls 4 [(0, .ref a_this), (1, .int p1), (3, .int x3)] → (∀ r : Int32 × (Nat → Int32) × (Nat → Int32) × (Nat → Int32) × (Nat → Int32), ql = .inl r → r = q) → (∀ (x : Int32 × (Nat → Int32) × (Nat → Int32) × (Nat → Int32)), ql = .inr x → ∀ (H : Heap) (locs : List Loc) (ls : Array Slot), va_P D vwCl [(a_this, .inr (2, rf_o2 a_this_now a_this_then a_this_trial a_this_search a_this_letters a_this_numbers a_this_thickest a_this_refusals g_this)), (a_this_now, .inr (0, rf_o0 a_this_now_kinds a_this_now_thicks g_this_now)), (a_this_now_kinds, .inl (cA, 6, .inl f_this_now_kinds)), (a_this_now_thicks, .inl (cA, 6, .inl f_this_now_thicks)), (a_this_trial, .inr (0, rf_o0 a_this_trial_kinds a_this_trial_thicks x.2.1)), (a_this_trial_kinds, .inl (cA, 6, .inl x.2.2.1)), (a_this_trial_thicks, .inl (cA, 6, .inl x.2.2.2)), (a_this_refusals, .inl (cA, 7, .inl yf_this_refusals))] H → va_D A [(a_this, .inr (2, rf_o2 a_this_now a_this_then a_this_trial a_this_search a_this_letters a_this_numbers a_this_thickest a_this_refusals g_this)), (a_this_now, .inr (0, rf_o0 a_this_now_kinds a_this_now_thicks g_this_now)), (a_this_now_kinds, .inl (cA, 6, .inl f_this_now_kinds)), (a_this_now_thicks, .inl (cA, 6, .inl f_this_now_thicks)), (a_this_trial, .inr (0, rf_o0 a_this_trial_kinds a_this_trial_thicks x.2.1)), (a_this_trial_kinds, .inl (cA, 6, .inl x.2.2.1)), (a_this_trial_thicks, .inl (cA, 6, .inl x.2.2.2)), (a_this_refusals, .inl (cA, 7, .inl yf_this_refusals))] → va_S A s.heap H locs → lv_has ls 4 [(0, .ref a_this), (1, .int p1), (3, .int x.1)] → W p l e (headSpec wsX2_waited ({ frames := 3, cells := 0, slots := 0, locals := 81 } : Room)).room s m ([.ref a_this, .int p1] : List Value).toArray below meth c H locs 0 0 (MQ below (va_Qi (fun (r : Int32) (_ : Unit) => r = q.1) (fun _ t => rf_Post D A [(a_this, .inr (2, rf_o2 a_this_now a_this_then a_this_trial a_this_search a_this_letters a_this_numbers a_this_thickest a_this_refusals g_this)), (a_this_now, .inr (0, rf_o0 a_this_now_kinds a_this_now_thicks g_this_now)), (a_this_now_kinds, .inl (cA, 6, .inl f_this_now_kinds)), (a_this_now_thicks, .inl (cA, 6, .inl f_this_now_thicks)), (a_this_trial, .inr (0, rf_o0 a_this_trial_kinds a_this_trial_thicks q.2.1)), (a_this_trial_kinds, .inl (cA, 6, .inl q.2.2.1)), (a_this_trial_thicks, .inl (cA, 6, .inl q.2.2.2.1)), (a_this_refusals, .inl (cA, 7, .inl q.2.2.2.2))] t) A) ([.ref a_this, .int p1] : List Value).toArray s 0 0 A) (F0 m 58 ls [])) → W p l e (headSpec wsX2_waited ({ frames := 3, cells := 0, slots := 0, locals := 81 } : Room)).room s m ([.ref a_this, .int p1] : List Value).toArray below meth c H locs 0 0 (MQ below (va_Qi (fun (r : Int32) (_ : Unit) => r = q.1) (fun _ t => rf_Post D A [(a_this, .inr (2, rf_o2 a_this_now a_this_then a_this_trial a_this_search a_this_letters a_this_numbers a_this_thickest a_this_refusals g_this)), (a_this_now, .inr (0, rf_o0 a_this_now_kinds a_this_now_thicks g_this_now)), (a_this_now_kinds, .inl (cA, 6, .inl f_this_now_kinds)), (a_this_now_thicks, .inl (cA, 6, .inl f_this_now_thicks)), (a_this_trial, .inr (0, rf_o0 a_this_trial_kinds a_this_trial_thicks q.2.1)), (a_this_trial_kinds, .inl (cA, 6, .inl q.2.2.1)), (a_this_trial_thicks, .inl (cA, 6, .inl q.2.2.2.1)), (a_this_refusals, .inl (cA, 7, .inl q.2.2.2.2))] t) A) ([.ref a_this, .int p1] : List Value).toArray s 0 0 A) (F0 m 14 ls []) := by
    intro yf_this_refusals n
    induction n with
    | zero =>
      intro x3 yg_this_trial yf_this_trial_kinds yf_this_trial_thicks ql hf H locs ls hP hD hS hl hret kx
      exact absurd (show (none : Option ((Int32 × (Nat → Int32) × (Nat → Int32) × (Nat → Int32) × (Nat → Int32)) ⊕ (Int32 × (Nat → Int32) × (Nat → Int32) × (Nat → Int32)))) = some ql from hf) (fun h9 => by cases h9)
    | succ n ih =>
      intro x3 yg_this_trial yf_this_trial_kinds yf_this_trial_thicks ql hf H locs ls hP hD hS hl hret kx
      rw [f_X2_waited_L14] at hf
      refine lv_iload_n hx hb dX2_waited_14 rfl (lv_at hl 2 rfl) ?_
      refine lv_bipush (v := 60) hx hb dX2_waited_15 (by decide) ?_
      refine lv_icmp_gt (tgt := 58) hx hb dX2_waited_17 (by decide) (fun c1 => ?_) (fun c1 => ?_)
      · have hf := rf_ifp hf c1
        exact kx _ (Option.some.inj hf).symm _ _ _ hP hD hS (lv_sub hl [0, 1, 2] rfl)
      · have hf := rf_ifn hf c1
        refine lv_aload_n hx hb dX2_waited_20 rfl (lv_at hl 0 rfl) ?_
        refine va_get (D := D) (ci := 2) (v := .ref a_this_trial) (C := RX2) (T := TX2) (N := 12) hx hb hts jX2_waited_X2 hown hK hP 0 rfl rfl 2 (by decide) (hts _ kX2_waited_0) (fun _ h9 => h9) rfl dX2_waited_21 ?_
        refine lv_aload_n hx hb dX2_waited_24 rfl (lv_at hl 0 rfl) ?_
        refine va_get (D := D) (ci := 2) (v := .ref a_this_now) (C := RX2) (T := TX2) (N := 12) hx hb hts jX2_waited_X2 hown hK hP 0 rfl rfl 0 (by decide) (hts _ kX2_waited_1) (fun _ h9 => h9) rfl dX2_waited_25 ?_
        obtain ⟨q2, hq2, hf⟩ := rf_bindq hf
        refine rf_Vv (As := [.ref a_this_now]) (rest := []) (wr := [(a_this, .inr (2, rf_o2 a_this_now a_this_then a_this_trial a_this_search a_this_letters a_this_numbers a_this_thickest a_this_refusals g_this)), (a_this_refusals, .inl (cA, 7, .inl yf_this_refusals))]) (wn := [(a_this, .inr (2, rf_o2 a_this_now a_this_then a_this_trial a_this_search a_this_letters a_this_numbers a_this_thickest a_this_refusals g_this)), (a_this_now, .inr (0, rf_o0 a_this_now_kinds a_this_now_thicks g_this_now)), (a_this_now_kinds, .inl (cA, 6, .inl f_this_now_kinds)), (a_this_now_thicks, .inl (cA, 6, .inl f_this_now_thicks)), (a_this_trial, .inr (0, rf_o0 a_this_trial_kinds a_this_trial_thicks q2.1)), (a_this_trial_kinds, .inl (cA, 6, .inl q2.2.1)), (a_this_trial_thicks, .inl (cA, 6, .inl q2.2.2)), (a_this_refusals, .inl (cA, 7, .inl yf_this_refusals))]) ⟨hx, hb, hml, hown, hts⟩ hK hP hD hS hA hE (c_X0_copyFrom l D cA ad a_this_trial a_this_trial_kinds a_this_trial_thicks a_this_now a_this_now_kinds a_this_now_thicks H.size yg_this_trial yf_this_trial_kinds yf_this_trial_thicks g_this_now f_this_now_kinds f_this_now_thicks q2 hq2) (cwV 1 hts gX2_waited_X0_copyFrom rfl rfl rfl hv_X0_copyFrom ⟨Nat.le_of_ble_eq_true rfl, Nat.le_of_ble_eq_true rfl⟩) [4, 5, 6, 1, 2, 3] [0, 7] [0, 5, 6, 7, 2, 3, 4, 1] rfl rfl rfl rfl (by decide) rfl rfl 0 4 rfl rfl rfl rfl rfl hl.1 (Nat.le_of_ble_eq_true rfl) dX2_waited_28 ⟨Nat.zero_le _, Nat.zero_le _⟩ (fun H locs hP hD hS => ?_)
        refine lv_aload_n hx hb dX2_waited_31 rfl (lv_at hl 0 rfl) ?_
        refine va_get (D := D) (ci := 2) (v := .ref a_this_trial) (C := RX2) (T := TX2) (N := 12) hx hb hts jX2_waited_X2 hown hK hP 0 rfl rfl 2 (by decide) (hts _ kX2_waited_0) (fun _ h9 => h9) rfl dX2_waited_32 ?_
        refine lv_iload_n hx hb dX2_waited_35 rfl (lv_at hl 2 rfl) ?_
        obtain ⟨q3, hq3, hf⟩ := rf_bindq hf
        refine rf_Vv (As := [.int x3]) (rest := []) (wr := [(a_this, .inr (2, rf_o2 a_this_now a_this_then a_this_trial a_this_search a_this_letters a_this_numbers a_this_thickest a_this_refusals g_this)), (a_this_now, .inr (0, rf_o0 a_this_now_kinds a_this_now_thicks g_this_now)), (a_this_now_kinds, .inl (cA, 6, .inl f_this_now_kinds)), (a_this_now_thicks, .inl (cA, 6, .inl f_this_now_thicks)), (a_this_trial_kinds, .inl (cA, 6, .inl q2.2.1)), (a_this_trial_thicks, .inl (cA, 6, .inl q2.2.2)), (a_this_refusals, .inl (cA, 7, .inl yf_this_refusals))]) (wn := [(a_this, .inr (2, rf_o2 a_this_now a_this_then a_this_trial a_this_search a_this_letters a_this_numbers a_this_thickest a_this_refusals g_this)), (a_this_now, .inr (0, rf_o0 a_this_now_kinds a_this_now_thicks g_this_now)), (a_this_now_kinds, .inl (cA, 6, .inl f_this_now_kinds)), (a_this_now_thicks, .inl (cA, 6, .inl f_this_now_thicks)), (a_this_trial, .inr (0, rf_o0 a_this_trial_kinds a_this_trial_thicks q3)), (a_this_trial_kinds, .inl (cA, 6, .inl q2.2.1)), (a_this_trial_thicks, .inl (cA, 6, .inl q2.2.2)), (a_this_refusals, .inl (cA, 7, .inl yf_this_refusals))]) ⟨hx, hb, hml, hown, hts⟩ hK hP hD hS hA hE (c_X0_rest l D cA ad a_this_trial a_this_trial_kinds a_this_trial_thicks H.size q2.1 x3 q3 hq3) (cwV 1 hts gX2_waited_X0_rest rfl rfl rfl hv_X0_rest ⟨Nat.le_of_ble_eq_true rfl, Nat.le_of_ble_eq_true rfl⟩) [4] [0, 1, 2, 3, 5, 6, 7] [0, 1, 2, 3, 7, 4, 5, 6] rfl rfl rfl rfl (by decide) rfl rfl 0 4 rfl rfl rfl rfl rfl hl.1 (Nat.le_of_ble_eq_true rfl) dX2_waited_36 ⟨Nat.zero_le _, Nat.zero_le _⟩ (fun H locs hP hD hS => ?_)
        refine lv_aload_n hx hb dX2_waited_39 rfl (lv_at hl 0 rfl) ?_
        refine va_get (D := D) (ci := 2) (v := .ref a_this_trial) (C := RX2) (T := TX2) (N := 12) hx hb hts jX2_waited_X2 hown hK hP 0 rfl rfl 2 (by decide) (hts _ kX2_waited_0) (fun _ h9 => h9) rfl dX2_waited_40 ?_
        refine lv_iload_n hx hb dX2_waited_43 rfl (lv_at hl 1 rfl) ?_
        obtain ⟨q4, hq4, hf⟩ := rf_bindq hf
        refine rf_Vi (As := [.int p1]) (rest := []) (wr := [(a_this, .inr (2, rf_o2 a_this_now a_this_then a_this_trial a_this_search a_this_letters a_this_numbers a_this_thickest a_this_refusals g_this)), (a_this_now, .inr (0, rf_o0 a_this_now_kinds a_this_now_thicks g_this_now)), (a_this_now_kinds, .inl (cA, 6, .inl f_this_now_kinds)), (a_this_now_thicks, .inl (cA, 6, .inl f_this_now_thicks)), (a_this_refusals, .inl (cA, 7, .inl yf_this_refusals))]) (wn := [(a_this, .inr (2, rf_o2 a_this_now a_this_then a_this_trial a_this_search a_this_letters a_this_numbers a_this_thickest a_this_refusals g_this)), (a_this_now, .inr (0, rf_o0 a_this_now_kinds a_this_now_thicks g_this_now)), (a_this_now_kinds, .inl (cA, 6, .inl f_this_now_kinds)), (a_this_now_thicks, .inl (cA, 6, .inl f_this_now_thicks)), (a_this_trial, .inr (0, rf_o0 a_this_trial_kinds a_this_trial_thicks q3)), (a_this_trial_kinds, .inl (cA, 6, .inl q2.2.1)), (a_this_trial_thicks, .inl (cA, 6, .inl q2.2.2)), (a_this_refusals, .inl (cA, 7, .inl yf_this_refusals))]) ⟨hx, hb, hml, hown, hts⟩ hK hP hD hS hA hE (c_X0_goesOver l D cA ad a_this_trial a_this_trial_kinds a_this_trial_thicks H.size q3 q2.2.1 q2.2.2 p1 q4 hq4) (cwV 1 hts gX2_waited_X0_goesOver rfl rfl rfl hv_X0_goesOver ⟨Nat.le_of_ble_eq_true rfl, Nat.le_of_ble_eq_true rfl⟩) [4, 5, 6] [0, 1, 2, 3, 7] [0, 1, 2, 3, 5, 6, 7, 4] rfl rfl rfl rfl (by decide) rfl rfl 0 4 rfl rfl rfl rfl rfl hl.1 (Nat.le_of_ble_eq_true rfl) dX2_waited_44 ⟨Nat.zero_le _, Nat.zero_le _⟩ (fun H locs hP hD hS => ?_)
        refine lv_if_eq (tgt := 52) hx hb dX2_waited_47 (by decide) (fun c5 => ?_) (fun c5 => ?_)
        · have hf := rf_ifp hf c5
          obtain ⟨v6, ev6⟩ : ∃ y : Int32, y = x3 + 1 := ⟨_, rfl⟩
          have hf := rf_bindv hf ev6
          refine lv_iinc (v := v6) (lv' := [(3, .int v6), (0, .ref a_this), (1, .int p1)]) hx hb dX2_waited_52 hl (k := 2) rfl (by rw [ev6]; rfl) (by decide) rfl (fun ls hl => ?_)
          clear ev6
          refine lv_goto (tgt := 14) hx hb dX2_waited_55 (by decide) ?_
          exact ih v6 q3 q2.2.1 q2.2.2 ql hf _ _ _ hP hD hS (lv_sub hl [1, 2, 0] rfl) hret kx
        · have hf := rf_ifn hf c5
          refine lv_iload_n hx hb dX2_waited_50 rfl (lv_at hl 2 rfl) ?_
          obtain rfl := hret _ (Option.some.inj hf).symm
          exact W.iret (v := x3) hx hb hr (fun t ht hW => ⟨⟨x3, (), rfl, rfl, rf_mk ht hP hD⟩, hS.F ht⟩) hS.2.2 dX2_waited_51
  rw [f_X2_waited] at hf
  refine lv_aload_n hx hb dX2_waited_0 rfl (lv_at hl 0 rfl) ?_
  refine lv_iload_n hx hb dX2_waited_1 rfl (lv_at hl 1 rfl) ?_
  obtain ⟨q7, hq7, hf⟩ := rf_bindq hf
  refine rf_Vi (As := [.int p1]) (rest := []) (wr := [(a_this_now_kinds, .inl (cA, 6, .inl f_this_now_kinds)), (a_this_now_thicks, .inl (cA, 6, .inl f_this_now_thicks)), (a_this_trial, .inr (0, rf_o0 a_this_trial_kinds a_this_trial_thicks g_this_trial)), (a_this_trial_kinds, .inl (cA, 6, .inl f_this_trial_kinds)), (a_this_trial_thicks, .inl (cA, 6, .inl f_this_trial_thicks))]) (wn := [(a_this, .inr (2, rf_o2 a_this_now a_this_then a_this_trial a_this_search a_this_letters a_this_numbers a_this_thickest a_this_refusals g_this)), (a_this_now, .inr (0, rf_o0 a_this_now_kinds a_this_now_thicks g_this_now)), (a_this_now_kinds, .inl (cA, 6, .inl f_this_now_kinds)), (a_this_now_thicks, .inl (cA, 6, .inl f_this_now_thicks)), (a_this_trial, .inr (0, rf_o0 a_this_trial_kinds a_this_trial_thicks g_this_trial)), (a_this_trial_kinds, .inl (cA, 6, .inl f_this_trial_kinds)), (a_this_trial_thicks, .inl (cA, 6, .inl f_this_trial_thicks)), (a_this_refusals, .inl (cA, 7, .inl q7.2))]) ⟨hx, hb, hml, hown, hts⟩ hK hP hD hS hA hE (c_X2_tryRefusal l D cA ad a_this a_this_now a_this_then a_this_trial a_this_search a_this_letters a_this_numbers a_this_thickest a_this_refusals a_this_now_kinds a_this_now_thicks s.heap.size g_this g_this_now f_this_refusals p1 q7 hq7) (cwV 1 hts gX2_waited_X2_tryRefusal rfl rfl rfl hv_X2_tryRefusal ⟨Nat.le_of_ble_eq_true rfl, Nat.le_of_ble_eq_true rfl⟩) [0, 1, 7] [2, 3, 4, 5, 6] [5, 6, 0, 1, 2, 3, 4, 7] rfl rfl rfl rfl (by decide) rfl rfl 2 0 rfl rfl rfl rfl rfl hl.1 (Nat.le_of_ble_eq_true rfl) dX2_waited_2 ⟨Nat.zero_le _, Nat.zero_le _⟩ (fun H locs hP hD hS => ?_)
  refine lv_istore_n (lv' := [(2, .int q7.1), (0, .ref a_this), (1, .int p1)]) hx hb dX2_waited_5 rfl hl (by decide) rfl (fun ls hl => ?_)
  refine lv_iload_n hx hb dX2_waited_6 rfl (lv_at hl 0 rfl) ?_
  refine lv_if_eq (tgt := 12) hx hb dX2_waited_7 (by decide) (fun c8 => ?_) (fun c8 => ?_)
  · have hf := rf_ifp hf c8
    refine lv_iconst (v := 0) hx hb dX2_waited_12 (by decide) ?_
    refine lv_istore_n (lv' := [(3, .int 0), (2, .int q7.1), (0, .ref a_this), (1, .int p1)]) hx hb dX2_waited_13 rfl hl (by decide) rfl (fun ls hl => ?_)
    obtain ⟨q9, hq9, hf⟩ := rf_bindq hf
    refine key_14 q7.2 rf_fu 0 g_this_trial f_this_trial_kinds f_this_trial_thicks q9 hq9 _ _ _ hP hD hS (lv_sub hl [2, 3, 0] rfl) (fun r h9 => ?_) (fun x10 h9 H locs ls hP hD hS hl => ?_)
    · subst h9
      exact Option.some.inj hf
    · subst h9
      have hf := rf_sumr hf
      refine lv_bipush (v := (-9)) hx hb dX2_waited_58 (by decide) ?_
      obtain rfl := Option.some.inj hf
      exact W.iret (v := (-9)) hx hb hr (fun t ht hW => ⟨⟨(-9), (), rfl, rfl, rf_mk ht hP hD⟩, hS.F ht⟩) hS.2.2 dX2_waited_60
  · have hf := rf_ifn hf c8
    refine lv_iload_n hx hb dX2_waited_10 rfl (lv_at hl 0 rfl) ?_
    obtain rfl := Option.some.inj hf
    exact W.iret (v := q7.1) hx hb hr (fun t ht hW => ⟨⟨q7.1, (), rfl, rfl, rf_mk ht hP hD⟩, hS.F ht⟩) hS.2.2 dX2_waited_11
theorem kX2_danger_0 : (.fieldLink RX2 10 "RingAndFinger" "now" "LRingAndFinger$Finger;" : Cond) ∈ wsX2_danger := by decide +kernel
theorem kX2_danger_1 : (.fieldLink RX2 167 "RingAndFinger$Finger" "blue" "I" : Cond) ∈ wsX2_danger := by decide +kernel
theorem kX2_danger_2 : (.methodLink RX2 170 Lib.Math.min.name : Cond) ∈ wsX2_danger := by decide +kernel
theorem kX2_danger_3 : (.static Lib.Math.min.name : Cond) ∈ wsX2_danger := by decide +kernel
theorem kX2_danger_4 : (.initialized "java/lang/Math" : Cond) ∈ wsX2_danger := by decide +kernel
theorem kX2_danger_5 : (.code Lib.Math.min.name Lib.Math.min.code 2 (some .int) : Cond) ∈ wsX2_danger := by decide +kernel
theorem kX2_danger_6 : (.methodLink RX2 175 Lib.Math.max.name : Cond) ∈ wsX2_danger := by decide +kernel
theorem kX2_danger_7 : (.static Lib.Math.max.name : Cond) ∈ wsX2_danger := by decide +kernel
theorem kX2_danger_8 : (.code Lib.Math.max.name Lib.Math.max.code 2 (some .int) : Cond) ∈ wsX2_danger := by decide +kernel
theorem jX2_danger_X2 : ∀ w ∈ u_ws RX2 TX2 12, w ∈ wsX2_danger := by decide +kernel
theorem jX2_danger_X0 : ∀ w ∈ u_ws RX0 TX0 12, w ∈ wsX2_danger := by decide +kernel
set_option maxHeartbeats 8000000 in
set_option maxRecDepth 100000 in
theorem c_X2_danger (l : Launch) (D : va_G) (cA : ClassId) (ad : Nat → Nat) (a_this a_this_now a_this_then a_this_trial a_this_search a_this_letters a_this_numbers a_this_thickest a_this_refusals a_this_now_kinds a_this_now_thicks : Nat) (sz : Nat) (g_this g_this_now f_this_refusals : Nat → Int32) (p1 : Int32) (q : Int32 × (Nat → Int32)) (hf : f_X2_danger g_this g_this_now f_this_refusals p1 = some q) : Met l yX2_danger wsX2_danger ({ frames := 2, cells := 0, slots := 0, locals := 43 } : Room) (va_Pc [.ref a_this, .int p1] (rf_Pre D cA ad [(a_this, .inr (2, rf_o2 a_this_now a_this_then a_this_trial a_this_search a_this_letters a_this_numbers a_this_thickest a_this_refusals g_this)), (a_this_now, .inr (0, rf_o0 a_this_now_kinds a_this_now_thicks g_this_now)), (a_this_refusals, .inl (cA, 7, .inl f_this_refusals))] sz)) (va_Qi (fun (r : Int32) (_ : Unit) => r = q.1) (fun _ t => rf_Post D (va_A [(a_this, .inr (2, rf_o2 a_this_now a_this_then a_this_trial a_this_search a_this_letters a_this_numbers a_this_thickest a_this_refusals g_this)), (a_this_now, .inr (0, rf_o0 a_this_now_kinds a_this_now_thicks g_this_now)), (a_this_refusals, .inl (cA, 7, .inl f_this_refusals))] sz) [(a_this, .inr (2, rf_o2 a_this_now a_this_then a_this_trial a_this_search a_this_letters a_this_numbers a_this_thickest a_this_refusals g_this)), (a_this_now, .inr (0, rf_o0 a_this_now_kinds a_this_now_thicks g_this_now)), (a_this_refusals, .inl (cA, 7, .inl q.2))] t) (va_A [(a_this, .inr (2, rf_o2 a_this_now a_this_then a_this_trial a_this_search a_this_letters a_this_numbers a_this_thickest a_this_refusals g_this)), (a_this_now, .inr (0, rf_o0 a_this_now_kinds a_this_now_thicks g_this_now)), (a_this_refusals, .inl (cA, 7, .inl f_this_refusals))] sz)) 0 0 (va_A [(a_this, .inr (2, rf_o2 a_this_now a_this_then a_this_trial a_this_search a_this_letters a_this_numbers a_this_thickest a_this_refusals g_this)), (a_this_now, .inr (0, rf_o0 a_this_now_kinds a_this_now_thicks g_this_now)), (a_this_refusals, .inl (cA, 7, .inl f_this_refusals))] sz) := by
  refine Met.ofW (cc := cX2_danger) (maxL := 3) (ret := (some .int)) (by decide) rfl ?_
  intro p e s m args below meth c s₁ B hml hv
  obtain ⟨rfl, hsz, hP, hK, hD0, hE⟩ := hv
  have hx := B.exec
  have hb := B.bytes
  have hr := B.returns
  have hts := atoms_spec (ws := wsX2_danger) B.pre
  have hown : s.vm.findClass RX2 = some m.cls := findClass_of_methodNamed B.named
  have hlocks := B.notSynchronized
  subst hsz
  have hD := hD0.self (sz := s.heap.size)
  generalize hAe : va_A [(a_this, .inr (2, rf_o2 a_this_now a_this_then a_this_trial a_this_search a_this_letters a_this_numbers a_this_thickest a_this_refusals g_this)), (a_this_now, .inr (0, rf_o0 a_this_now_kinds a_this_now_thicks g_this_now)), (a_this_refusals, .inl (cA, 7, .inl f_this_refusals))] s.heap.size = A at hD hE ⊢
  have hA : ∀ q : Nat, s.heap.size ≤ q → A q := fun q h => by rw [← hAe]; exact Or.inr h
  have hS : va_S A s.heap s.heap [] := va_S.rf
  have hP : va_P D vwCl [(a_this, .inr (2, rf_o2 a_this_now a_this_then a_this_trial a_this_search a_this_letters a_this_numbers a_this_thickest a_this_refusals g_this)), (a_this_now, .inr (0, rf_o0 a_this_now_kinds a_this_now_thicks g_this_now)), (a_this_refusals, .inl (cA, 7, .inl f_this_refusals))] s.heap := hP
  have hl := lv_entry ([.ref a_this, .int p1]) (n := 3) (Nat.le_of_ble_eq_true rfl)
  rw [lg_entry_eq]
  generalize (lg_sl ([.ref a_this, .int p1]) ++ List.replicate (3 - (lg_sl ([.ref a_this, .int p1])).length) Slot.unset).toArray = ls at hl ⊢
  have hl : lv_has ls 3 [(0, .ref a_this), (1, .int p1)] := hl
  rw [f_X2_danger] at hf
  refine lv_iload_n hx hb dX2_danger_0 rfl (lv_at hl 1 rfl) ?_
  refine lv_if_ge (tgt := 11) hx hb dX2_danger_1 (by decide) (fun c1 => ?_) (fun c1 => ?_)
  · have hf := rf_ifp hf c1
    refine lv_iload_n hx hb dX2_danger_11 rfl (lv_at hl 1 rfl) ?_
    refine lv_bipush (v := 9) hx hb dX2_danger_12 (by decide) ?_
    refine lv_icmp_le (tgt := 24) hx hb dX2_danger_14 (by decide) (fun c2 => ?_) (fun c2 => ?_)
    · have hf := rf_ifp hf c2
      refine lv_bipush (v := 99) hx hb dX2_danger_24 (by decide) ?_
      refine lv_aload_n hx hb dX2_danger_26 rfl (lv_at hl 0 rfl) ?_
      refine va_get (D := D) (ci := 2) (v := .ref a_this_now) (C := RX2) (T := TX2) (N := 12) hx hb hts jX2_danger_X2 hown hK hP 0 rfl rfl 0 (by decide) (hts _ kX2_danger_0) (fun _ h9 => h9) rfl dX2_danger_27 ?_
      refine va_get (D := D) (ci := 0) (v := .int (g_this_now 6)) (C := RX0) (T := TX0) (N := 12) hx hb hts jX2_danger_X0 hown hK hP 1 rfl rfl 8 (by decide) (hts _ kX2_danger_1) (fun _ h9 => h9) rfl dX2_danger_30 ?_
      refine lv_iload_n hx hb dX2_danger_33 rfl (lv_at hl 1 rfl) ?_
      refine lv_iconst (v := 5) hx hb dX2_danger_34 (by decide) ?_
      refine lv_imul hx hb dX2_danger_35 ?_
      refine lv_iadd hx hb dX2_danger_36 ?_
      refine va_mmin hx hb (hml.trans hl.1.symm) hown (hts _ kX2_danger_2) (hts _ kX2_danger_3) (hts _ kX2_danger_4) (hts _ kX2_danger_5) (Nat.le_of_ble_eq_true rfl) (Nat.le_of_ble_eq_true rfl) (Nat.zero_le _) (Nat.zero_le _) dX2_danger_37 ?_
      refine lv_topi (fun v3 ev3 => ?_)
      have hf := rf_bindv hf ev3
      clear ev3
      refine lv_istore_n (lv' := [(2, .int v3), (0, .ref a_this), (1, .int p1)]) hx hb dX2_danger_40 rfl hl (by decide) rfl (fun ls hl => ?_)
      refine lv_iconst (v := 0) hx hb dX2_danger_41 (by decide) ?_
      refine lv_iload_n hx hb dX2_danger_42 rfl (lv_at hl 0 rfl) ?_
      refine lv_bipush (v := 9) hx hb dX2_danger_43 (by decide) ?_
      refine lv_isub hx hb dX2_danger_45 ?_
      refine va_mmax hx hb (hml.trans hl.1.symm) hown (hts _ kX2_danger_6) (hts _ kX2_danger_7) (hts _ kX2_danger_4) (hts _ kX2_danger_8) (Nat.le_of_ble_eq_true rfl) (Nat.le_of_ble_eq_true rfl) (Nat.zero_le _) (Nat.zero_le _) dX2_danger_46 ?_
      refine lv_topi (fun v4 ev4 => ?_)
      have hf := rf_bindv hf ev4
      clear ev4
      obtain rfl := Option.some.inj hf
      exact W.iret (v := v4) hx hb hr (fun t ht hW => ⟨⟨v4, (), rfl, rfl, rf_mk ht hP hD⟩, hS.F ht⟩) hS.2.2 dX2_danger_49
    · have hf := rf_ifn hf c2
      refine lv_aload_n hx hb dX2_danger_17 rfl (lv_at hl 0 rfl) ?_
      refine lv_bipush (v := (-6)) hx hb dX2_danger_18 (by decide) ?_
      obtain ⟨q5, hq5, hf⟩ := rf_bindq hf
      refine rf_Vi (As := [.int (-6)]) (rest := []) (wr := [(a_this_now, .inr (0, rf_o0 a_this_now_kinds a_this_now_thicks g_this_now))]) (wn := [(a_this, .inr (2, rf_o2 a_this_now a_this_then a_this_trial a_this_search a_this_letters a_this_numbers a_this_thickest a_this_refusals g_this)), (a_this_now, .inr (0, rf_o0 a_this_now_kinds a_this_now_thicks g_this_now)), (a_this_refusals, .inl (cA, 7, .inl q5.2))]) ⟨hx, hb, hml, hown, hts⟩ hK hP hD hS hA hE (c_X2_refuse l D cA ad a_this a_this_now a_this_then a_this_trial a_this_search a_this_letters a_this_numbers a_this_thickest a_this_refusals s.heap.size g_this f_this_refusals (-6) q5 hq5) (cwV 1 hts gX2_danger_X2_refuse rfl rfl rfl hv_X2_refuse ⟨Nat.le_of_ble_eq_true rfl, Nat.le_of_ble_eq_true rfl⟩) [0, 2] [1] [1, 0, 2] rfl rfl rfl rfl (by decide) rfl rfl 2 0 rfl rfl rfl rfl rfl hl.1 (Nat.le_of_ble_eq_true rfl) dX2_danger_20 ⟨Nat.zero_le _, Nat.zero_le _⟩ (fun H locs hP hD hS => ?_)
      obtain rfl := Option.some.inj hf
      exact W.iret (v := q5.1) hx hb hr (fun t ht hW => ⟨⟨q5.1, (), rfl, rfl, rf_mk ht hP hD⟩, hS.F ht⟩) hS.2.2 dX2_danger_23
  · have hf := rf_ifn hf c1
    refine lv_aload_n hx hb dX2_danger_4 rfl (lv_at hl 0 rfl) ?_
    refine lv_bipush (v := (-4)) hx hb dX2_danger_5 (by decide) ?_
    obtain ⟨q6, hq6, hf⟩ := rf_bindq hf
    refine rf_Vi (As := [.int (-4)]) (rest := []) (wr := [(a_this_now, .inr (0, rf_o0 a_this_now_kinds a_this_now_thicks g_this_now))]) (wn := [(a_this, .inr (2, rf_o2 a_this_now a_this_then a_this_trial a_this_search a_this_letters a_this_numbers a_this_thickest a_this_refusals g_this)), (a_this_now, .inr (0, rf_o0 a_this_now_kinds a_this_now_thicks g_this_now)), (a_this_refusals, .inl (cA, 7, .inl q6.2))]) ⟨hx, hb, hml, hown, hts⟩ hK hP hD hS hA hE (c_X2_refuse l D cA ad a_this a_this_now a_this_then a_this_trial a_this_search a_this_letters a_this_numbers a_this_thickest a_this_refusals s.heap.size g_this f_this_refusals (-4) q6 hq6) (cwV 1 hts gX2_danger_X2_refuse rfl rfl rfl hv_X2_refuse ⟨Nat.le_of_ble_eq_true rfl, Nat.le_of_ble_eq_true rfl⟩) [0, 2] [1] [1, 0, 2] rfl rfl rfl rfl (by decide) rfl rfl 2 0 rfl rfl rfl rfl rfl hl.1 (Nat.le_of_ble_eq_true rfl) dX2_danger_7 ⟨Nat.zero_le _, Nat.zero_le _⟩ (fun H locs hP hD hS => ?_)
    obtain rfl := Option.some.inj hf
    exact W.iret (v := q6.1) hx hb hr (fun t ht hW => ⟨⟨q6.1, (), rfl, rfl, rf_mk ht hP hD⟩, hS.F ht⟩) hS.2.2 dX2_danger_10

set_option maxHeartbeats 8000000 in
set_option maxRecDepth 100000 in
theorem c_X2_isEither (l : Launch) (D : va_G) (cA : ClassId) (ad : Nat → Nat) (sz : Nat) (p0 : Int32) (q : Int32) (hf : f_X2_isEither p0 = some q) : Met l yX2_isEither wsX2_isEither ({ frames := 0, cells := 0, slots := 0, locals := 0 } : Room) (va_Pc [.int p0] (rf_Pre D cA ad [] sz)) (va_Qi (fun (r : Int32) (_ : Unit) => r = q) (fun _ t => rf_Post D (va_A [] sz) [] t) (va_A [] sz)) 0 0 (va_A [] sz) := by
  refine Met.ofW (cc := cX2_isEither) (maxL := 1) (ret := (some .boolean)) (by decide) rfl ?_
  intro p e s m args below meth c s₁ B hml hv
  obtain ⟨rfl, hsz, hP, hK, hD0, hE⟩ := hv
  have hx := B.exec
  have hb := B.bytes
  have hr := B.returns
  have hts := atoms_spec (ws := wsX2_isEither) B.pre
  have hown : s.vm.findClass RX2 = some m.cls := findClass_of_methodNamed B.named
  have hlocks := B.notSynchronized
  subst hsz
  have hD := hD0.self (sz := s.heap.size)
  generalize hAe : va_A [] s.heap.size = A at hD hE ⊢
  have hA : ∀ q : Nat, s.heap.size ≤ q → A q := fun q h => by rw [← hAe]; exact Or.inr h
  have hS : va_S A s.heap s.heap [] := va_S.rf
  have hP : va_P D vwCl [] s.heap := hP
  have hl := lv_entry ([.int p0]) (n := 1) (Nat.le_of_ble_eq_true rfl)
  rw [lg_entry_eq]
  generalize (lg_sl ([.int p0]) ++ List.replicate (1 - (lg_sl ([.int p0])).length) Slot.unset).toArray = ls at hl ⊢
  have hl : lv_has ls 1 [(0, .int p0)] := hl
  rw [f_X2_isEither] at hf
  refine lv_iload_n hx hb dX2_isEither_0 rfl (lv_at hl 0 rfl) ?_
  refine lv_if_eq (tgt := 9) hx hb dX2_isEither_1 (by decide) (fun c1 => ?_) (fun c1 => ?_)
  · have hf := rf_ifp hf c1
    refine lv_iconst (v := 1) hx hb dX2_isEither_9 (by decide) ?_
    refine lv_goto (tgt := 14) hx hb dX2_isEither_10 (by decide) ?_
    obtain rfl := Option.some.inj hf
    exact W.zret (v := 1) hx hb hr rfl (fun t ht hW => ⟨⟨1, (), rfl, rfl, rf_mk ht hP hD⟩, hS.F ht⟩) hS.2.2 dX2_isEither_14
  · have hf := rf_ifn hf c1
    refine lv_iload_n hx hb dX2_isEither_4 rfl (lv_at hl 0 rfl) ?_
    refine lv_iconst (v := 1) hx hb dX2_isEither_5 (by decide) ?_
    refine lv_icmp_ne (tgt := 13) hx hb dX2_isEither_6 (by decide) (fun c2 => ?_) (fun c2 => ?_)
    · have hf := rf_ifn hf c2
      refine lv_iconst (v := 0) hx hb dX2_isEither_13 (by decide) ?_
      obtain rfl := Option.some.inj hf
      exact W.zret (v := 0) hx hb hr rfl (fun t ht hW => ⟨⟨0, (), rfl, rfl, rf_mk ht hP hD⟩, hS.F ht⟩) hS.2.2 dX2_isEither_14
    · have hf := rf_ifp hf c2
      refine lv_iconst (v := 1) hx hb dX2_isEither_9 (by decide) ?_
      refine lv_goto (tgt := 14) hx hb dX2_isEither_10 (by decide) ?_
      obtain rfl := Option.some.inj hf
      exact W.zret (v := 1) hx hb hr rfl (fun t ht hW => ⟨⟨1, (), rfl, rfl, rf_mk ht hP hD⟩, hS.F ht⟩) hS.2.2 dX2_isEither_14
theorem kX2_went_0 : (.fieldLink RX2 19 "RingAndFinger" "trial" "LRingAndFinger$Finger;" : Cond) ∈ wsX2_went := by decide +kernel
theorem kX2_went_1 : (.fieldLink RX2 214 "RingAndFinger$Finger" "swell" "I" : Cond) ∈ wsX2_went := by decide +kernel
theorem kX2_went_2 : (.fieldLink RX2 146 "RingAndFinger$Finger" "size" "I" : Cond) ∈ wsX2_went := by decide +kernel
theorem kX2_went_3 : (.fieldLink RX2 107 "RingAndFinger$Finger" "broad" "I" : Cond) ∈ wsX2_went := by decide +kernel
theorem kX2_went_4 : (.fieldLink RX2 10 "RingAndFinger" "now" "LRingAndFinger$Finger;" : Cond) ∈ wsX2_went := by decide +kernel
theorem jX2_went_X2 : ∀ w ∈ u_ws RX2 TX2 12, w ∈ wsX2_went := by decide +kernel
theorem jX2_went_X0 : ∀ w ∈ u_ws RX0 TX0 12, w ∈ wsX2_went := by decide +kernel
set_option maxHeartbeats 8000000 in
set_option maxRecDepth 100000 in
theorem c_X2_went (l : Launch) (D : va_G) (cA : ClassId) (ad : Nat → Nat) (a_this a_this_now a_this_then a_this_trial a_this_search a_this_letters a_this_numbers a_this_thickest a_this_refusals a_this_now_kinds a_this_now_thicks a_this_trial_kinds a_this_trial_thicks : Nat) (sz : Nat) (g_this g_this_now f_this_now_kinds f_this_now_thicks g_this_trial f_this_trial_kinds f_this_trial_thicks f_this_refusals : Nat → Int32) (p1 p2 : Int32) (q : Int32 × (Nat → Int32) × (Nat → Int32) × (Nat → Int32) × (Nat → Int32)) (hf : f_X2_went g_this g_this_now f_this_now_kinds f_this_now_thicks g_this_trial f_this_trial_kinds f_this_trial_thicks f_this_refusals p1 p2 = some q) : Met l yX2_went wsX2_went ({ frames := 4, cells := 0, slots := 0, locals := 90 } : Room) (va_Pc [.ref a_this, .int p1, .int p2] (rf_Pre D cA ad [(a_this, .inr (2, rf_o2 a_this_now a_this_then a_this_trial a_this_search a_this_letters a_this_numbers a_this_thickest a_this_refusals g_this)), (a_this_now, .inr (0, rf_o0 a_this_now_kinds a_this_now_thicks g_this_now)), (a_this_now_kinds, .inl (cA, 6, .inl f_this_now_kinds)), (a_this_now_thicks, .inl (cA, 6, .inl f_this_now_thicks)), (a_this_trial, .inr (0, rf_o0 a_this_trial_kinds a_this_trial_thicks g_this_trial)), (a_this_trial_kinds, .inl (cA, 6, .inl f_this_trial_kinds)), (a_this_trial_thicks, .inl (cA, 6, .inl f_this_trial_thicks)), (a_this_refusals, .inl (cA, 7, .inl f_this_refusals))] sz)) (va_Qi (fun (r : Int32) (_ : Unit) => r = q.1) (fun _ t => rf_Post D (va_A [(a_this, .inr (2, rf_o2 a_this_now a_this_then a_this_trial a_this_search a_this_letters a_this_numbers a_this_thickest a_this_refusals g_this)), (a_this_now, .inr (0, rf_o0 a_this_now_kinds a_this_now_thicks g_this_now)), (a_this_now_kinds, .inl (cA, 6, .inl f_this_now_kinds)), (a_this_now_thicks, .inl (cA, 6, .inl f_this_now_thicks)), (a_this_trial, .inr (0, rf_o0 a_this_trial_kinds a_this_trial_thicks g_this_trial)), (a_this_trial_kinds, .inl (cA, 6, .inl f_this_trial_kinds)), (a_this_trial_thicks, .inl (cA, 6, .inl f_this_trial_thicks)), (a_this_refusals, .inl (cA, 7, .inl f_this_refusals))] sz) [(a_this, .inr (2, rf_o2 a_this_now a_this_then a_this_trial a_this_search a_this_letters a_this_numbers a_this_thickest a_this_refusals g_this)), (a_this_now, .inr (0, rf_o0 a_this_now_kinds a_this_now_thicks g_this_now)), (a_this_now_kinds, .inl (cA, 6, .inl f_this_now_kinds)), (a_this_now_thicks, .inl (cA, 6, .inl f_this_now_thicks)), (a_this_trial, .inr (0, rf_o0 a_this_trial_kinds a_this_trial_thicks q.2.1)), (a_this_trial_kinds, .inl (cA, 6, .inl q.2.2.1)), (a_this_trial_thicks, .inl (cA, 6, .inl q.2.2.2.1)), (a_this_refusals, .inl (cA, 7, .inl q.2.2.2.2))] t) (va_A [(a_this, .inr (2, rf_o2 a_this_now a_this_then a_this_trial a_this_search a_this_letters a_this_numbers a_this_thickest a_this_refusals g_this)), (a_this_now, .inr (0, rf_o0 a_this_now_kinds a_this_now_thicks g_this_now)), (a_this_now_kinds, .inl (cA, 6, .inl f_this_now_kinds)), (a_this_now_thicks, .inl (cA, 6, .inl f_this_now_thicks)), (a_this_trial, .inr (0, rf_o0 a_this_trial_kinds a_this_trial_thicks g_this_trial)), (a_this_trial_kinds, .inl (cA, 6, .inl f_this_trial_kinds)), (a_this_trial_thicks, .inl (cA, 6, .inl f_this_trial_thicks)), (a_this_refusals, .inl (cA, 7, .inl f_this_refusals))] sz)) 0 0 (va_A [(a_this, .inr (2, rf_o2 a_this_now a_this_then a_this_trial a_this_search a_this_letters a_this_numbers a_this_thickest a_this_refusals g_this)), (a_this_now, .inr (0, rf_o0 a_this_now_kinds a_this_now_thicks g_this_now)), (a_this_now_kinds, .inl (cA, 6, .inl f_this_now_kinds)), (a_this_now_thicks, .inl (cA, 6, .inl f_this_now_thicks)), (a_this_trial, .inr (0, rf_o0 a_this_trial_kinds a_this_trial_thicks g_this_trial)), (a_this_trial_kinds, .inl (cA, 6, .inl f_this_trial_kinds)), (a_this_trial_thicks, .inl (cA, 6, .inl f_this_trial_thicks)), (a_this_refusals, .inl (cA, 7, .inl f_this_refusals))] sz) := by
  refine Met.ofW (cc := cX2_went) (maxL := 6) (ret := (some .int)) (by decide) rfl ?_
  intro p e s m args below meth c s₁ B hml hv
  obtain ⟨rfl, hsz, hP, hK, hD0, hE⟩ := hv
  have hx := B.exec
  have hb := B.bytes
  have hr := B.returns
  have hts := atoms_spec (ws := wsX2_went) B.pre
  have hown : s.vm.findClass RX2 = some m.cls := findClass_of_methodNamed B.named
  have hlocks := B.notSynchronized
  subst hsz
  have hD := hD0.self (sz := s.heap.size)
  generalize hAe : va_A [(a_this, .inr (2, rf_o2 a_this_now a_this_then a_this_trial a_this_search a_this_letters a_this_numbers a_this_thickest a_this_refusals g_this)), (a_this_now, .inr (0, rf_o0 a_this_now_kinds a_this_now_thicks g_this_now)), (a_this_now_kinds, .inl (cA, 6, .inl f_this_now_kinds)), (a_this_now_thicks, .inl (cA, 6, .inl f_this_now_thicks)), (a_this_trial, .inr (0, rf_o0 a_this_trial_kinds a_this_trial_thicks g_this_trial)), (a_this_trial_kinds, .inl (cA, 6, .inl f_this_trial_kinds)), (a_this_trial_thicks, .inl (cA, 6, .inl f_this_trial_thicks)), (a_this_refusals, .inl (cA, 7, .inl f_this_refusals))] s.heap.size = A at hD hE ⊢
  have hA : ∀ q : Nat, s.heap.size ≤ q → A q := fun q h => by rw [← hAe]; exact Or.inr h
  have hS : va_S A s.heap s.heap [] := va_S.rf
  have hP : va_P D vwCl [(a_this, .inr (2, rf_o2 a_this_now a_this_then a_this_trial a_this_search a_this_letters a_this_numbers a_this_thickest a_this_refusals g_this)), (a_this_now, .inr (0, rf_o0 a_this_now_kinds a_this_now_thicks g_this_now)), (a_this_now_kinds, .inl (cA, 6, .inl f_this_now_kinds)), (a_this_now_thicks, .inl (cA, 6, .inl f_this_now_thicks)), (a_this_trial, .inr (0, rf_o0 a_this_trial_kinds a_this_trial_thicks g_this_trial)), (a_this_trial_kinds, .inl (cA, 6, .inl f_this_trial_kinds)), (a_this_trial_thicks, .inl (cA, 6, .inl f_this_trial_thicks)), (a_this_refusals, .inl (cA, 7, .inl f_this_refusals))] s.heap := hP
  have hl := lv_entry ([.ref a_this, .int p1, .int p2]) (n := 6) (Nat.le_of_ble_eq_true rfl)
  rw [lg_entry_eq]
  generalize (lg_sl ([.ref a_this, .int p1, .int p2]) ++ List.replicate (6 - (lg_sl ([.ref a_this, .int p1, .int p2])).length) Slot.unset).toArray = ls at hl ⊢
  have hl : lv_has ls 6 [(0, .ref a_this), (1, .int p1), (2, .int p2)] := hl
  have key_41 : ∀ (yf_this_trial_kinds yf_this_trial_thicks yf_this_refusals : Nat → Int32) (n : Nat) (x3 x4 x5 : Int32) (yg_this_trial : Nat → Int32) (ql : Int32 × Int32 × Int32 × (Nat → Int32)), f_X2_went_L41 g_this g_this_now f_this_now_kinds f_this_now_thicks p1 p2 yf_this_trial_kinds yf_this_trial_thicks yf_this_refusals n x3 x4 x5 yg_this_trial = some ql → ∀ (H : Heap) (locs : List Loc) (ls : Array Slot), va_P D vwCl [(a_this, .inr (2, rf_o2 a_this_now a_this_then a_this_trial a_this_search a_this_letters a_this_numbers a_this_thickest a_this_refusals g_this)), (a_this_now, .inr (0, rf_o0 a_this_now_kinds a_this_now_thicks g_this_now)), (a_this_now_kinds, .inl (cA, 6, .inl f_this_now_kinds)), (a_this_now_thicks, .inl (cA, 6, .inl f_this_now_thicks)), (a_this_trial, .inr (0, rf_o0 a_this_trial_kinds a_this_trial_thicks yg_this_trial)), (a_this_trial_kinds, .inl (cA, 6, .inl yf_this_trial_kinds)), (a_this_trial_thicks, .inl (cA, 6, .inl yf_this_trial_thicks)), (a_this_refusals, .inl (cA, 7, .inl yf_this_refusals))] H → va_D A [(a_this, .inr (2, rf_o2 a_this_now a_this_then a_this_trial a_this_search a_this_letters a_this_numbers a_this_thickest a_this_refusals g_this)), (a_this_now, .inr (0, rf_o0 a_this_now_kinds a_this_now_thicks g_this_now)), (a_this_now_kinds, .inl (cA, 6, .inl f_this_now_kinds)), (a_this_now_thicks, .inl (cA, 6, .inl f_this_now_thicks)), (a_this_trial, .inr (0, rf_o0 a_this_trial_kinds a_this_trial_thicks yg_this_trial)), (a_this_trial_kinds, .inl (cA, 6, .inl yf_this_trial_kinds)), (a_this_trial_thicks, .inl (cA, 6, .inl yf_this_trial_thicks)), (a_this_refusals, .inl (cA, 7, .inl yf_this_refusals))] → va_S A s.heap H locs → lv_has ls 6 [(0, .ref a_this), (1, .int p1), (2, .int p2), (3, .int x3), (4, .int x4), (5, .int x5)] → (∀ (H : Heap) (locs : List Loc) (ls : Array Slot), va_P D vwCl [(a_this, .inr (2, rf_o2 a_this_now a_this_then a_this_trial a_this_search a_this_letters a_this_numbers a_this_thickest a_this_refusals g_this)), (a_this_now, .inr (0, rf_o0 a_this_now_kinds a_this_now_thicks g_this_now)), (a_this_now_kinds, .inl (cA, 6, .inl f_this_now_kinds)), (a_this_now_thicks, .inl (cA, 6, .inl f_this_now_thicks)), (a_this_trial, .inr (0, rf_o0 a_this_trial_kinds a_this_trial_thicks ql.2.2.2)), (a_this_trial_kinds, .inl (cA, 6, .inl yf_this_trial_kinds)), (a_this_trial_thicks, .inl (cA, 6, .inl yf_this_trial_thicks)), (a_this_refusals, .inl (cA, 7, .inl yf_this_refusals))] H → va_D A [(a_this, .inr (2, rf_o2 a_this_now a_this_then a_this_trial a_this_search a_this_letters a_this_numbers a_this_thickest a_this_refusals g_this)), (a_this_now, .inr (0, rf_o0 a_this_now_kinds a_this_now_thicks g_this_now)), (a_this_now_kinds, .inl (cA, 6, .inl f_this_now_kinds)), (a_this_now_thicks, .inl (cA, 6, .inl f_this_now_thicks)), (a_this_trial, .inr (0, rf_o0 a_this_trial_kinds a_this_trial_thicks ql.2.2.2)), (a_this_trial_kinds, .inl (cA, 6, .inl yf_this_trial_kinds)), (a_this_trial_thicks, .inl (cA, 6, .inl yf_this_trial_thicks)), (a_this_refusals, .inl (cA, 7, .inl yf_this_refusals))] → va_S A s.heap H locs → lv_has ls 6 [(0, .ref a_this), (1, .int p1), (2, .int p2), (3, .int ql.1), (4, .int ql.2.1), (5, .int ql.2.2.1)] → W p l e (headSpec wsX2_went ({ frames := 4, cells := 0, slots := 0, locals := 90 } : Room)).room s m ([.ref a_this, .int p1, .int p2] : List Value).toArray below meth c H locs 0 0 (MQ below (va_Qi (fun (r : Int32) (_ : Unit) => r = q.1) (fun _ t => rf_Post D A [(a_this, .inr (2, rf_o2 a_this_now a_this_then a_this_trial a_this_search a_this_letters a_this_numbers a_this_thickest a_this_refusals g_this)), (a_this_now, .inr (0, rf_o0 a_this_now_kinds a_this_now_thicks g_this_now)), (a_this_now_kinds, .inl (cA, 6, .inl f_this_now_kinds)), (a_this_now_thicks, .inl (cA, 6, .inl f_this_now_thicks)), (a_this_trial, .inr (0, rf_o0 a_this_trial_kinds a_this_trial_thicks q.2.1)), (a_this_trial_kinds, .inl (cA, 6, .inl q.2.2.1)), (a_this_trial_thicks, .inl (cA, 6, .inl q.2.2.2.1)), (a_this_refusals, .inl (cA, 7, .inl q.2.2.2.2))] t) A) ([.ref a_this, .int p1, .int p2] : List Value).toArray s 0 0 A) (F0 m 99 ls [])) → W p l e (headSpec wsX2_went ({ frames := 4, cells := 0, slots := 0, locals := 90 } : Room)).room s m ([.ref a_this, .int p1, .int p2] : List Value).toArray below meth c H locs 0 0 (MQ below (va_Qi (fun (r : Int32) (_ : Unit) => r = q.1) (fun _ t => rf_Post D A [(a_this, .inr (2, rf_o2 a_this_now a_this_then a_this_trial a_this_search a_this_letters a_this_numbers a_this_thickest a_this_refusals g_this)), (a_this_now, .inr (0, rf_o0 a_this_now_kinds a_this_now_thicks g_this_now)), (a_this_now_kinds, .inl (cA, 6, .inl f_this_now_kinds)), (a_this_now_thicks, .inl (cA, 6, .inl f_this_now_thicks)), (a_this_trial, .inr (0, rf_o0 a_this_trial_kinds a_this_trial_thicks q.2.1)), (a_this_trial_kinds, .inl (cA, 6, .inl q.2.2.1)), (a_this_trial_thicks, .inl (cA, 6, .inl q.2.2.2.1)), (a_this_refusals, .inl (cA, 7, .inl q.2.2.2.2))] t) A) ([.ref a_this, .int p1, .int p2] : List Value).toArray s 0 0 A) (F0 m 41 ls []) := by
    intro yf_this_trial_kinds yf_this_trial_thicks yf_this_refusals n
    induction n with
    | zero =>
      intro x3 x4 x5 yg_this_trial ql hf H locs ls hP hD hS hl kx
      exact absurd (show (none : Option (Int32 × Int32 × Int32 × (Nat → Int32))) = some ql from hf) (fun h9 => by cases h9)
    | succ n ih =>
      intro x3 x4 x5 yg_this_trial ql hf H locs ls hP hD hS hl kx
      rw [f_X2_went_L41] at hf
      refine lv_iload hx hb dX2_went_41 (lv_at hl 5 rfl) ?_
      refine lv_bipush (v := 30) hx hb dX2_went_43 (by decide) ?_
      refine lv_icmp_gt (tgt := 99) hx hb dX2_went_45 (by decide) (fun c1 => ?_) (fun c1 => ?_)
      · have hf := rf_ifp hf c1
        obtain rfl := Option.some.inj hf
        exact kx _ _ _ hP hD hS (lv_sub hl [0, 1, 2, 3, 4, 5] rfl)
      · have hf := rf_ifn hf c1
        refine lv_aload_n hx hb dX2_went_48 rfl (lv_at hl 0 rfl) ?_
        refine va_get (D := D) (ci := 2) (v := .ref a_this_trial) (C := RX2) (T := TX2) (N := 12) hx hb hts jX2_went_X2 hown hK hP 0 rfl rfl 2 (by decide) (hts _ kX2_went_0) (fun _ h9 => h9) rfl dX2_went_49 ?_
        refine lv_iload hx hb dX2_went_52 (lv_at hl 5 rfl) ?_
        refine va_put (D := D) (ci := 0) (v := .int x5) (ty := .int) (C := RX0) (T := TX0) (N := 12) hx hb hts jX2_went_X0 tyX0 tyX0_ok nmX0 hown hK hP hD hS 4 rfl rfl 6 (by decide) (hts _ kX2_went_1) (fun _ h9 => h9) rfl (by decide +kernel) rfl rfl (Nat.le_of_ble_eq_true rfl) dX2_went_54 (fun H locs hP hD hS => ?_)
        have hP : va_P D vwCl [(a_this, .inr (2, rf_o2 a_this_now a_this_then a_this_trial a_this_search a_this_letters a_this_numbers a_this_thickest a_this_refusals g_this)), (a_this_now, .inr (0, rf_o0 a_this_now_kinds a_this_now_thicks g_this_now)), (a_this_now_kinds, .inl (cA, 6, .inl f_this_now_kinds)), (a_this_now_thicks, .inl (cA, 6, .inl f_this_now_thicks)), (a_this_trial, .inr (0, rf_o0 a_this_trial_kinds a_this_trial_thicks (upd yg_this_trial 4 x5))), (a_this_trial_kinds, .inl (cA, 6, .inl yf_this_trial_kinds)), (a_this_trial_thicks, .inl (cA, 6, .inl yf_this_trial_thicks)), (a_this_refusals, .inl (cA, 7, .inl yf_this_refusals))] H := hP
        have hD : va_D A [(a_this, .inr (2, rf_o2 a_this_now a_this_then a_this_trial a_this_search a_this_letters a_this_numbers a_this_thickest a_this_refusals g_this)), (a_this_now, .inr (0, rf_o0 a_this_now_kinds a_this_now_thicks g_this_now)), (a_this_now_kinds, .inl (cA, 6, .inl f_this_now_kinds)), (a_this_now_thicks, .inl (cA, 6, .inl f_this_now_thicks)), (a_this_trial, .inr (0, rf_o0 a_this_trial_kinds a_this_trial_thicks (upd yg_this_trial 4 x5))), (a_this_trial_kinds, .inl (cA, 6, .inl yf_this_trial_kinds)), (a_this_trial_thicks, .inl (cA, 6, .inl yf_this_trial_thicks)), (a_this_refusals, .inl (cA, 7, .inl yf_this_refusals))] := hD
        refine lv_aload_n hx hb dX2_went_57 rfl (lv_at hl 0 rfl) ?_
        refine va_get (D := D) (ci := 2) (v := .ref a_this_trial) (C := RX2) (T := TX2) (N := 12) hx hb hts jX2_went_X2 hown hK hP 0 rfl rfl 2 (by decide) (hts _ kX2_went_0) (fun _ h9 => h9) rfl dX2_went_58 ?_
        obtain ⟨q2, hq2, hf⟩ := rf_bindq hf
        refine rf_Vi (As := []) (rest := []) (wr := [(a_this, .inr (2, rf_o2 a_this_now a_this_then a_this_trial a_this_search a_this_letters a_this_numbers a_this_thickest a_this_refusals g_this)), (a_this_now, .inr (0, rf_o0 a_this_now_kinds a_this_now_thicks g_this_now)), (a_this_now_kinds, .inl (cA, 6, .inl f_this_now_kinds)), (a_this_now_thicks, .inl (cA, 6, .inl f_this_now_thicks)), (a_this_refusals, .inl (cA, 7, .inl yf_this_refusals))]) (wn := [(a_this, .inr (2, rf_o2 a_this_now a_this_then a_this_trial a_this_search a_this_letters a_this_numbers a_this_thickest a_this_refusals g_this)), (a_this_now, .inr (0, rf_o0 a_this_now_kinds a_this_now_thicks g_this_now)), (a_this_now_kinds, .inl (cA, 6, .inl f_this_now_kinds)), (a_this_now_thicks, .inl (cA, 6, .inl f_this_now_thicks)), (a_this_trial, .inr (0, rf_o0 a_this_trial_kinds a_this_trial_thicks (upd yg_this_trial 4 x5))), (a_this_trial_kinds, .inl (cA, 6, .inl yf_this_trial_kinds)), (a_this_trial_thicks, .inl (cA, 6, .inl yf_this_trial_thicks)), (a_this_refusals, .inl (cA, 7, .inl yf_this_refusals))]) ⟨hx, hb, hml, hown, hts⟩ hK hP hD hS hA hE (c_X0_thickestNow l D cA ad a_this_trial a_this_trial_kinds a_this_trial_thicks H.size (upd yg_this_trial 4 x5) yf_this_trial_kinds yf_this_trial_thicks q2 hq2) (cwV 0 hts gX2_went_X0_thickestNow rfl rfl rfl hv_X0_thickestNow ⟨Nat.le_of_ble_eq_true rfl, Nat.le_of_ble_eq_true rfl⟩) [4, 5, 6] [0, 1, 2, 3, 7] [0, 1, 2, 3, 5, 6, 7, 4] rfl rfl rfl rfl (by decide) rfl rfl 0 4 rfl rfl rfl rfl rfl hl.1 (Nat.le_of_ble_eq_true rfl) dX2_went_61 ⟨Nat.zero_le _, Nat.zero_le _⟩ (fun H locs hP hD hS => ?_)
        refine lv_aload_n hx hb dX2_went_64 rfl (lv_at hl 0 rfl) ?_
        refine va_get (D := D) (ci := 2) (v := .ref a_this_trial) (C := RX2) (T := TX2) (N := 12) hx hb hts jX2_went_X2 hown hK hP 0 rfl rfl 2 (by decide) (hts _ kX2_went_0) (fun _ h9 => h9) rfl dX2_went_65 ?_
        refine va_get (D := D) (ci := 0) (v := .int (yg_this_trial 1)) (C := RX0) (T := TX0) (N := 12) hx hb hts jX2_went_X0 hown hK hP 4 rfl rfl 3 (by decide) (hts _ kX2_went_2) (fun _ h9 => h9) rfl dX2_went_68 ?_
        refine lv_iload_n hx hb dX2_went_71 rfl (lv_at hl 1 rfl) ?_
        refine lv_aload_n hx hb dX2_went_72 rfl (lv_at hl 0 rfl) ?_
        refine va_get (D := D) (ci := 2) (v := .ref a_this_trial) (C := RX2) (T := TX2) (N := 12) hx hb hts jX2_went_X2 hown hK hP 0 rfl rfl 2 (by decide) (hts _ kX2_went_0) (fun _ h9 => h9) rfl dX2_went_73 ?_
        refine va_get (D := D) (ci := 0) (v := .int (yg_this_trial 2)) (C := RX0) (T := TX0) (N := 12) hx hb hts jX2_went_X0 hown hK hP 4 rfl rfl 4 (by decide) (hts _ kX2_went_3) (fun _ h9 => h9) rfl dX2_went_76 ?_
        obtain ⟨q3, hq3, hf⟩ := rf_bindq hf
        refine rf_Si (As := [.int p1, .int (yg_this_trial 2)]) (rest := [.int (yg_this_trial 1), .int q2]) (wr := [(a_this, .inr (2, rf_o2 a_this_now a_this_then a_this_trial a_this_search a_this_letters a_this_numbers a_this_thickest a_this_refusals g_this)), (a_this_now, .inr (0, rf_o0 a_this_now_kinds a_this_now_thicks g_this_now)), (a_this_now_kinds, .inl (cA, 6, .inl f_this_now_kinds)), (a_this_now_thicks, .inl (cA, 6, .inl f_this_now_thicks)), (a_this_trial, .inr (0, rf_o0 a_this_trial_kinds a_this_trial_thicks (upd yg_this_trial 4 x5))), (a_this_trial_kinds, .inl (cA, 6, .inl yf_this_trial_kinds)), (a_this_trial_thicks, .inl (cA, 6, .inl yf_this_trial_thicks)), (a_this_refusals, .inl (cA, 7, .inl yf_this_refusals))]) (wn := [(a_this, .inr (2, rf_o2 a_this_now a_this_then a_this_trial a_this_search a_this_letters a_this_numbers a_this_thickest a_this_refusals g_this)), (a_this_now, .inr (0, rf_o0 a_this_now_kinds a_this_now_thicks g_this_now)), (a_this_now_kinds, .inl (cA, 6, .inl f_this_now_kinds)), (a_this_now_thicks, .inl (cA, 6, .inl f_this_now_thicks)), (a_this_trial, .inr (0, rf_o0 a_this_trial_kinds a_this_trial_thicks (upd yg_this_trial 4 x5))), (a_this_trial_kinds, .inl (cA, 6, .inl yf_this_trial_kinds)), (a_this_trial_thicks, .inl (cA, 6, .inl yf_this_trial_thicks)), (a_this_refusals, .inl (cA, 7, .inl yf_this_refusals))]) ⟨hx, hb, hml, hown, hts⟩ hK hP hD hS hA hE (c_X2_allowance l D cA ad H.size p1 (yg_this_trial 2) q3 hq3) (va_cwS 2 hts gX2_went_X2_allowance rfl rfl rfl hs_X2_allowance ⟨Nat.le_of_ble_eq_true rfl, Nat.le_of_ble_eq_true rfl⟩) [] [0, 1, 2, 3, 4, 5, 6, 7] [0, 1, 2, 3, 4, 5, 6, 7] rfl rfl rfl rfl (by decide) rfl rfl rfl rfl hl.1 (Nat.le_of_ble_eq_true rfl) dX2_went_79 ⟨Nat.zero_le _, Nat.zero_le _⟩ (fun H locs hP hD hS => ?_)
        refine lv_iadd hx hb dX2_went_82 ?_
        refine lv_icmp_gt (tgt := 93) hx hb dX2_went_83 (by decide) (fun c4 => ?_) (fun c4 => ?_)
        · have hf := rf_ifp hf c4
          obtain ⟨v5, ev5⟩ : ∃ y : Int32, y = x5 + 1 := ⟨_, rfl⟩
          have hf := rf_bindv hf ev5
          refine lv_iinc (v := v5) (lv' := [(5, .int v5), (0, .ref a_this), (1, .int p1), (2, .int p2), (3, .int x3), (4, .int x4)]) hx hb dX2_went_93 hl (k := 5) rfl (by rw [ev5]; rfl) (by decide) rfl (fun ls hl => ?_)
          clear ev5
          refine lv_goto (tgt := 41) hx hb dX2_went_96 (by decide) ?_
          exact ih x3 x4 v5 (upd yg_this_trial 4 x5) ql hf _ _ _ hP hD hS (lv_sub hl [1, 2, 3, 4, 5, 0] rfl) kx
        · have hf := rf_ifn hf c4
          obtain ⟨v6, ev6⟩ : ∃ y : Int32, y = x3 + 1 := ⟨_, rfl⟩
          have hf := rf_bindv hf ev6
          refine lv_iinc (v := v6) (lv' := [(3, .int v6), (0, .ref a_this), (1, .int p1), (2, .int p2), (4, .int x4), (5, .int x5)]) hx hb dX2_went_86 hl (k := 3) rfl (by rw [ev6]; rfl) (by decide) rfl (fun ls hl => ?_)
          clear ev6
          refine lv_iload hx hb dX2_went_89 (lv_at hl 5 rfl) ?_
          refine lv_istore (lv' := [(4, .int x5), (3, .int v6), (0, .ref a_this), (1, .int p1), (2, .int p2), (5, .int x5)]) hx hb dX2_went_91 hl (by decide) rfl (fun ls hl => ?_)
          obtain ⟨v7, ev7⟩ : ∃ y : Int32, y = x5 + 1 := ⟨_, rfl⟩
          have hf := rf_bindv hf ev7
          refine lv_iinc (v := v7) (lv' := [(5, .int v7), (4, .int x5), (3, .int v6), (0, .ref a_this), (1, .int p1), (2, .int p2)]) hx hb dX2_went_93 hl (k := 5) rfl (by rw [ev7]; rfl) (by decide) rfl (fun ls hl => ?_)
          clear ev7
          refine lv_goto (tgt := 41) hx hb dX2_went_96 (by decide) ?_
          exact ih v6 x5 v7 (upd yg_this_trial 4 x5) ql hf _ _ _ hP hD hS (lv_sub hl [3, 4, 5, 2, 1, 0] rfl) kx
  rw [f_X2_went] at hf
  refine lv_iload_n hx hb dX2_went_0 rfl (lv_at hl 1 rfl) ?_
  obtain ⟨q8, hq8, hf⟩ := rf_bindq hf
  refine rf_Si (As := [.int p1]) (rest := []) (wr := [(a_this, .inr (2, rf_o2 a_this_now a_this_then a_this_trial a_this_search a_this_letters a_this_numbers a_this_thickest a_this_refusals g_this)), (a_this_now, .inr (0, rf_o0 a_this_now_kinds a_this_now_thicks g_this_now)), (a_this_now_kinds, .inl (cA, 6, .inl f_this_now_kinds)), (a_this_now_thicks, .inl (cA, 6, .inl f_this_now_thicks)), (a_this_trial, .inr (0, rf_o0 a_this_trial_kinds a_this_trial_thicks g_this_trial)), (a_this_trial_kinds, .inl (cA, 6, .inl f_this_trial_kinds)), (a_this_trial_thicks, .inl (cA, 6, .inl f_this_trial_thicks)), (a_this_refusals, .inl (cA, 7, .inl f_this_refusals))]) (wn := [(a_this, .inr (2, rf_o2 a_this_now a_this_then a_this_trial a_this_search a_this_letters a_this_numbers a_this_thickest a_this_refusals g_this)), (a_this_now, .inr (0, rf_o0 a_this_now_kinds a_this_now_thicks g_this_now)), (a_this_now_kinds, .inl (cA, 6, .inl f_this_now_kinds)), (a_this_now_thicks, .inl (cA, 6, .inl f_this_now_thicks)), (a_this_trial, .inr (0, rf_o0 a_this_trial_kinds a_this_trial_thicks g_this_trial)), (a_this_trial_kinds, .inl (cA, 6, .inl f_this_trial_kinds)), (a_this_trial_thicks, .inl (cA, 6, .inl f_this_trial_thicks)), (a_this_refusals, .inl (cA, 7, .inl f_this_refusals))]) ⟨hx, hb, hml, hown, hts⟩ hK hP hD hS hA hE (c_X2_isTry l D cA ad s.heap.size p1 q8 hq8) (va_cwS 1 hts gX2_went_X2_isTry rfl rfl rfl hs_X2_isTry ⟨Nat.le_of_ble_eq_true rfl, Nat.le_of_ble_eq_true rfl⟩) [] [0, 1, 2, 3, 4, 5, 6, 7] [0, 1, 2, 3, 4, 5, 6, 7] rfl rfl rfl rfl (by decide) rfl rfl rfl rfl hl.1 (Nat.le_of_ble_eq_true rfl) dX2_went_1 ⟨Nat.zero_le _, Nat.zero_le _⟩ (fun H locs hP hD hS => ?_)
  refine lv_if_eq (tgt := 14) hx hb dX2_went_4 (by decide) (fun c9 => ?_) (fun c9 => ?_)
  · have hf := rf_ifp hf c9
    refine lv_aload_n hx hb dX2_went_14 rfl (lv_at hl 0 rfl) ?_
    refine lv_bipush (v := (-2)) hx hb dX2_went_15 (by decide) ?_
    obtain ⟨q10, hq10, hf⟩ := rf_bindq hf
    refine rf_Vi (As := [.int (-2)]) (rest := []) (wr := [(a_this_now, .inr (0, rf_o0 a_this_now_kinds a_this_now_thicks g_this_now)), (a_this_now_kinds, .inl (cA, 6, .inl f_this_now_kinds)), (a_this_now_thicks, .inl (cA, 6, .inl f_this_now_thicks)), (a_this_trial, .inr (0, rf_o0 a_this_trial_kinds a_this_trial_thicks g_this_trial)), (a_this_trial_kinds, .inl (cA, 6, .inl f_this_trial_kinds)), (a_this_trial_thicks, .inl (cA, 6, .inl f_this_trial_thicks))]) (wn := [(a_this, .inr (2, rf_o2 a_this_now a_this_then a_this_trial a_this_search a_this_letters a_this_numbers a_this_thickest a_this_refusals g_this)), (a_this_now, .inr (0, rf_o0 a_this_now_kinds a_this_now_thicks g_this_now)), (a_this_now_kinds, .inl (cA, 6, .inl f_this_now_kinds)), (a_this_now_thicks, .inl (cA, 6, .inl f_this_now_thicks)), (a_this_trial, .inr (0, rf_o0 a_this_trial_kinds a_this_trial_thicks g_this_trial)), (a_this_trial_kinds, .inl (cA, 6, .inl f_this_trial_kinds)), (a_this_trial_thicks, .inl (cA, 6, .inl f_this_trial_thicks)), (a_this_refusals, .inl (cA, 7, .inl q10.2))]) ⟨hx, hb, hml, hown, hts⟩ hK hP hD hS hA hE (c_X2_refuse l D cA ad a_this a_this_now a_this_then a_this_trial a_this_search a_this_letters a_this_numbers a_this_thickest a_this_refusals H.size g_this f_this_refusals (-2) q10 hq10) (cwV 1 hts gX2_went_X2_refuse rfl rfl rfl hv_X2_refuse ⟨Nat.le_of_ble_eq_true rfl, Nat.le_of_ble_eq_true rfl⟩) [0, 7] [1, 2, 3, 4, 5, 6] [6, 0, 1, 2, 3, 4, 5, 7] rfl rfl rfl rfl (by decide) rfl rfl 2 0 rfl rfl rfl rfl rfl hl.1 (Nat.le_of_ble_eq_true rfl) dX2_went_17 ⟨Nat.zero_le _, Nat.zero_le _⟩ (fun H locs hP hD hS => ?_)
    obtain rfl := Option.some.inj hf
    exact W.iret (v := q10.1) hx hb hr (fun t ht hW => ⟨⟨q10.1, (), rfl, rfl, rf_mk ht hP hD⟩, hS.F ht⟩) hS.2.2 dX2_went_20
  · have hf := rf_ifn hf c9
    refine lv_iload_n hx hb dX2_went_7 rfl (lv_at hl 2 rfl) ?_
    obtain ⟨q11, hq11, hf⟩ := rf_bindq hf
    refine rf_Si (As := [.int p2]) (rest := []) (wr := [(a_this, .inr (2, rf_o2 a_this_now a_this_then a_this_trial a_this_search a_this_letters a_this_numbers a_this_thickest a_this_refusals g_this)), (a_this_now, .inr (0, rf_o0 a_this_now_kinds a_this_now_thicks g_this_now)), (a_this_now_kinds, .inl (cA, 6, .inl f_this_now_kinds)), (a_this_now_thicks, .inl (cA, 6, .inl f_this_now_thicks)), (a_this_trial, .inr (0, rf_o0 a_this_trial_kinds a_this_trial_thicks g_this_trial)), (a_this_trial_kinds, .inl (cA, 6, .inl f_this_trial_kinds)), (a_this_trial_thicks, .inl (cA, 6, .inl f_this_trial_thicks)), (a_this_refusals, .inl (cA, 7, .inl f_this_refusals))]) (wn := [(a_this, .inr (2, rf_o2 a_this_now a_this_then a_this_trial a_this_search a_this_letters a_this_numbers a_this_thickest a_this_refusals g_this)), (a_this_now, .inr (0, rf_o0 a_this_now_kinds a_this_now_thicks g_this_now)), (a_this_now_kinds, .inl (cA, 6, .inl f_this_now_kinds)), (a_this_now_thicks, .inl (cA, 6, .inl f_this_now_thicks)), (a_this_trial, .inr (0, rf_o0 a_this_trial_kinds a_this_trial_thicks g_this_trial)), (a_this_trial_kinds, .inl (cA, 6, .inl f_this_trial_kinds)), (a_this_trial_thicks, .inl (cA, 6, .inl f_this_trial_thicks)), (a_this_refusals, .inl (cA, 7, .inl f_this_refusals))]) ⟨hx, hb, hml, hown, hts⟩ hK hP hD hS hA hE (c_X2_isEither l D cA ad H.size p2 q11 hq11) (va_cwS 1 hts gX2_went_X2_isEither rfl rfl rfl hs_X2_isEither ⟨Nat.le_of_ble_eq_true rfl, Nat.le_of_ble_eq_true rfl⟩) [] [0, 1, 2, 3, 4, 5, 6, 7] [0, 1, 2, 3, 4, 5, 6, 7] rfl rfl rfl rfl (by decide) rfl rfl rfl rfl hl.1 (Nat.le_of_ble_eq_true rfl) dX2_went_8 ⟨Nat.zero_le _, Nat.zero_le _⟩ (fun H locs hP hD hS => ?_)
    refine lv_if_ne (tgt := 21) hx hb dX2_went_11 (by decide) (fun c12 => ?_) (fun c12 => ?_)
    · have hf := rf_ifn hf c12
      refine lv_iconst (v := 0) hx hb dX2_went_21 (by decide) ?_
      refine lv_istore_n (lv' := [(3, .int 0), (0, .ref a_this), (1, .int p1), (2, .int p2)]) hx hb dX2_went_22 rfl hl (by decide) rfl (fun ls hl => ?_)
      refine lv_bipush (v := (-9)) hx hb dX2_went_23 (by decide) ?_
      refine lv_istore (lv' := [(4, .int (-9)), (3, .int 0), (0, .ref a_this), (1, .int p1), (2, .int p2)]) hx hb dX2_went_25 hl (by decide) rfl (fun ls hl => ?_)
      refine lv_aload_n hx hb dX2_went_27 rfl (lv_at hl 2 rfl) ?_
      refine va_get (D := D) (ci := 2) (v := .ref a_this_trial) (C := RX2) (T := TX2) (N := 12) hx hb hts jX2_went_X2 hown hK hP 0 rfl rfl 2 (by decide) (hts _ kX2_went_0) (fun _ h9 => h9) rfl dX2_went_28 ?_
      refine lv_aload_n hx hb dX2_went_31 rfl (lv_at hl 2 rfl) ?_
      refine va_get (D := D) (ci := 2) (v := .ref a_this_now) (C := RX2) (T := TX2) (N := 12) hx hb hts jX2_went_X2 hown hK hP 0 rfl rfl 0 (by decide) (hts _ kX2_went_4) (fun _ h9 => h9) rfl dX2_went_32 ?_
      obtain ⟨q13, hq13, hf⟩ := rf_bindq hf
      refine rf_Vv (As := [.ref a_this_now]) (rest := []) (wr := [(a_this, .inr (2, rf_o2 a_this_now a_this_then a_this_trial a_this_search a_this_letters a_this_numbers a_this_thickest a_this_refusals g_this)), (a_this_refusals, .inl (cA, 7, .inl f_this_refusals))]) (wn := [(a_this, .inr (2, rf_o2 a_this_now a_this_then a_this_trial a_this_search a_this_letters a_this_numbers a_this_thickest a_this_refusals g_this)), (a_this_now, .inr (0, rf_o0 a_this_now_kinds a_this_now_thicks g_this_now)), (a_this_now_kinds, .inl (cA, 6, .inl f_this_now_kinds)), (a_this_now_thicks, .inl (cA, 6, .inl f_this_now_thicks)), (a_this_trial, .inr (0, rf_o0 a_this_trial_kinds a_this_trial_thicks q13.1)), (a_this_trial_kinds, .inl (cA, 6, .inl q13.2.1)), (a_this_trial_thicks, .inl (cA, 6, .inl q13.2.2)), (a_this_refusals, .inl (cA, 7, .inl f_this_refusals))]) ⟨hx, hb, hml, hown, hts⟩ hK hP hD hS hA hE (c_X0_copyFrom l D cA ad a_this_trial a_this_trial_kinds a_this_trial_thicks a_this_now a_this_now_kinds a_this_now_thicks H.size g_this_trial f_this_trial_kinds f_this_trial_thicks g_this_now f_this_now_kinds f_this_now_thicks q13 hq13) (cwV 1 hts gX2_went_X0_copyFrom rfl rfl rfl hv_X0_copyFrom ⟨Nat.le_of_ble_eq_true rfl, Nat.le_of_ble_eq_true rfl⟩) [4, 5, 6, 1, 2, 3] [0, 7] [0, 5, 6, 7, 2, 3, 4, 1] rfl rfl rfl rfl (by decide) rfl rfl 0 4 rfl rfl rfl rfl rfl hl.1 (Nat.le_of_ble_eq_true rfl) dX2_went_35 ⟨Nat.zero_le _, Nat.zero_le _⟩ (fun H locs hP hD hS => ?_)
      refine lv_iconst (v := 0) hx hb dX2_went_38 (by decide) ?_
      refine lv_istore (lv' := [(5, .int 0), (4, .int (-9)), (3, .int 0), (0, .ref a_this), (1, .int p1), (2, .int p2)]) hx hb dX2_went_39 hl (by decide) rfl (fun ls hl => ?_)
      obtain ⟨q14, hq14, hf⟩ := rf_bindq hf
      refine key_41 q13.2.1 q13.2.2 f_this_refusals rf_fu 0 (-9) 0 q13.1 q14 hq14 _ _ _ hP hD hS (lv_sub hl [3, 4, 5, 2, 1, 0] rfl) (fun H locs ls hP hD hS hl => ?_)
      refine lv_iload_n hx hb dX2_went_99 rfl (lv_at hl 2 rfl) ?_
      refine lv_if_ne (tgt := 107) hx hb dX2_went_100 (by decide) (fun c15 => ?_) (fun c15 => ?_)
      · have hf := rf_ifn hf c15
        refine lv_iload hx hb dX2_went_107 (lv_at hl 4 rfl) ?_
        obtain rfl := Option.some.inj hf
        exact W.iret (v := q14.2.1) hx hb hr (fun t ht hW => ⟨⟨q14.2.1, (), rfl, rfl, rf_mk ht hP hD⟩, hS.F ht⟩) hS.2.2 dX2_went_109
      · have hf := rf_ifp hf c15
        refine lv_iload_n hx hb dX2_went_103 rfl (lv_at hl 3 rfl) ?_
        refine lv_goto (tgt := 109) hx hb dX2_went_104 (by decide) ?_
        obtain rfl := Option.some.inj hf
        exact W.iret (v := q14.1) hx hb hr (fun t ht hW => ⟨⟨q14.1, (), rfl, rfl, rf_mk ht hP hD⟩, hS.F ht⟩) hS.2.2 dX2_went_109
    · have hf := rf_ifp hf c12
      refine lv_aload_n hx hb dX2_went_14 rfl (lv_at hl 0 rfl) ?_
      refine lv_bipush (v := (-2)) hx hb dX2_went_15 (by decide) ?_
      obtain ⟨q16, hq16, hf⟩ := rf_bindq hf
      refine rf_Vi (As := [.int (-2)]) (rest := []) (wr := [(a_this_now, .inr (0, rf_o0 a_this_now_kinds a_this_now_thicks g_this_now)), (a_this_now_kinds, .inl (cA, 6, .inl f_this_now_kinds)), (a_this_now_thicks, .inl (cA, 6, .inl f_this_now_thicks)), (a_this_trial, .inr (0, rf_o0 a_this_trial_kinds a_this_trial_thicks g_this_trial)), (a_this_trial_kinds, .inl (cA, 6, .inl f_this_trial_kinds)), (a_this_trial_thicks, .inl (cA, 6, .inl f_this_trial_thicks))]) (wn := [(a_this, .inr (2, rf_o2 a_this_now a_this_then a_this_trial a_this_search a_this_letters a_this_numbers a_this_thickest a_this_refusals g_this)), (a_this_now, .inr (0, rf_o0 a_this_now_kinds a_this_now_thicks g_this_now)), (a_this_now_kinds, .inl (cA, 6, .inl f_this_now_kinds)), (a_this_now_thicks, .inl (cA, 6, .inl f_this_now_thicks)), (a_this_trial, .inr (0, rf_o0 a_this_trial_kinds a_this_trial_thicks g_this_trial)), (a_this_trial_kinds, .inl (cA, 6, .inl f_this_trial_kinds)), (a_this_trial_thicks, .inl (cA, 6, .inl f_this_trial_thicks)), (a_this_refusals, .inl (cA, 7, .inl q16.2))]) ⟨hx, hb, hml, hown, hts⟩ hK hP hD hS hA hE (c_X2_refuse l D cA ad a_this a_this_now a_this_then a_this_trial a_this_search a_this_letters a_this_numbers a_this_thickest a_this_refusals H.size g_this f_this_refusals (-2) q16 hq16) (cwV 1 hts gX2_went_X2_refuse rfl rfl rfl hv_X2_refuse ⟨Nat.le_of_ble_eq_true rfl, Nat.le_of_ble_eq_true rfl⟩) [0, 7] [1, 2, 3, 4, 5, 6] [6, 0, 1, 2, 3, 4, 5, 7] rfl rfl rfl rfl (by decide) rfl rfl 2 0 rfl rfl rfl rfl rfl hl.1 (Nat.le_of_ble_eq_true rfl) dX2_went_17 ⟨Nat.zero_le _, Nat.zero_le _⟩ (fun H locs hP hD hS => ?_)
      obtain rfl := Option.some.inj hf
      exact W.iret (v := q16.1) hx hb hr (fun t ht hW => ⟨⟨q16.1, (), rfl, rfl, rf_mk ht hP hD⟩, hS.F ht⟩) hS.2.2 dX2_went_20
theorem kX2_draw_0 : (.fieldLink RX2 53 "RingAndFinger" "seed" "I" : Cond) ∈ wsX2_draw := by decide +kernel
theorem kX2_draw_1 : (.constant RX2 256 (1664525) : Cond) ∈ wsX2_draw := by decide +kernel
theorem kX2_draw_2 : (.constant RX2 257 (1013904223) : Cond) ∈ wsX2_draw := by decide +kernel
theorem kX2_draw_3 : (.constant RX2 258 (2147483647) : Cond) ∈ wsX2_draw := by decide +kernel
theorem jX2_draw_X2 : ∀ w ∈ u_ws RX2 TX2 12, w ∈ wsX2_draw := by decide +kernel
set_option maxHeartbeats 8000000 in
set_option maxRecDepth 100000 in
theorem c_X2_draw (l : Launch) (D : va_G) (cA : ClassId) (ad : Nat → Nat) (a_this a_this_now a_this_then a_this_trial a_this_search a_this_letters a_this_numbers a_this_thickest a_this_refusals : Nat) (sz : Nat) (g_this : Nat → Int32) (p1 : Int32) (q : Int32 × (Nat → Int32)) (hf : f_X2_draw g_this p1 = some q) : Met l yX2_draw wsX2_draw ({ frames := 0, cells := 0, slots := 0, locals := 0 } : Room) (va_Pc [.ref a_this, .int p1] (rf_Pre D cA ad [(a_this, .inr (2, rf_o2 a_this_now a_this_then a_this_trial a_this_search a_this_letters a_this_numbers a_this_thickest a_this_refusals g_this))] sz)) (va_Qi (fun (r : Int32) (_ : Unit) => r = q.1) (fun _ t => rf_Post D (va_A [(a_this, .inr (2, rf_o2 a_this_now a_this_then a_this_trial a_this_search a_this_letters a_this_numbers a_this_thickest a_this_refusals g_this))] sz) [(a_this, .inr (2, rf_o2 a_this_now a_this_then a_this_trial a_this_search a_this_letters a_this_numbers a_this_thickest a_this_refusals q.2))] t) (va_A [(a_this, .inr (2, rf_o2 a_this_now a_this_then a_this_trial a_this_search a_this_letters a_this_numbers a_this_thickest a_this_refusals g_this))] sz)) 0 0 (va_A [(a_this, .inr (2, rf_o2 a_this_now a_this_then a_this_trial a_this_search a_this_letters a_this_numbers a_this_thickest a_this_refusals g_this))] sz) := by
  refine Met.ofW (cc := cX2_draw) (maxL := 2) (ret := (some .int)) (by decide) rfl ?_
  intro p e s m args below meth c s₁ B hml hv
  obtain ⟨rfl, hsz, hP, hK, hD0, hE⟩ := hv
  have hx := B.exec
  have hb := B.bytes
  have hr := B.returns
  have hts := atoms_spec (ws := wsX2_draw) B.pre
  have hown : s.vm.findClass RX2 = some m.cls := findClass_of_methodNamed B.named
  have hlocks := B.notSynchronized
  subst hsz
  have hD := hD0.self (sz := s.heap.size)
  generalize hAe : va_A [(a_this, .inr (2, rf_o2 a_this_now a_this_then a_this_trial a_this_search a_this_letters a_this_numbers a_this_thickest a_this_refusals g_this))] s.heap.size = A at hD hE ⊢
  have hA : ∀ q : Nat, s.heap.size ≤ q → A q := fun q h => by rw [← hAe]; exact Or.inr h
  have hS : va_S A s.heap s.heap [] := va_S.rf
  have hP : va_P D vwCl [(a_this, .inr (2, rf_o2 a_this_now a_this_then a_this_trial a_this_search a_this_letters a_this_numbers a_this_thickest a_this_refusals g_this))] s.heap := hP
  have hl := lv_entry ([.ref a_this, .int p1]) (n := 2) (Nat.le_of_ble_eq_true rfl)
  rw [lg_entry_eq]
  generalize (lg_sl ([.ref a_this, .int p1]) ++ List.replicate (2 - (lg_sl ([.ref a_this, .int p1])).length) Slot.unset).toArray = ls at hl ⊢
  have hl : lv_has ls 2 [(0, .ref a_this), (1, .int p1)] := hl
  rw [f_X2_draw] at hf
  refine lv_aload_n hx hb dX2_draw_0 rfl (lv_at hl 0 rfl) ?_
  refine lv_aload_n hx hb dX2_draw_1 rfl (lv_at hl 0 rfl) ?_
  refine va_get (D := D) (ci := 2) (v := .int (g_this 3)) (C := RX2) (T := TX2) (N := 12) hx hb hts jX2_draw_X2 hown hK hP 0 rfl rfl 11 (by decide) (hts _ kX2_draw_0) (fun _ h9 => h9) rfl dX2_draw_2 ?_
  refine lv_ldcw hx hb hown (hts _ kX2_draw_1) dX2_draw_5 ?_
  refine lv_imul hx hb dX2_draw_8 ?_
  refine lv_ldcw hx hb hown (hts _ kX2_draw_2) dX2_draw_9 ?_
  refine lv_iadd hx hb dX2_draw_12 ?_
  refine lv_topi (fun v1 ev1 => ?_)
  have hf := rf_bindv hf ev1
  clear ev1
  refine va_put (D := D) (ci := 2) (v := .int v1) (ty := .int) (C := RX2) (T := TX2) (N := 12) hx hb hts jX2_draw_X2 tyX2 tyX2_ok nmX2 hown hK hP hD hS 0 rfl rfl 11 (by decide) (hts _ kX2_draw_0) (fun _ h9 => h9) rfl (by decide +kernel) rfl rfl (Nat.le_of_ble_eq_true rfl) dX2_draw_13 (fun H locs hP hD hS => ?_)
  have hP : va_P D vwCl [(a_this, .inr (2, rf_o2 a_this_now a_this_then a_this_trial a_this_search a_this_letters a_this_numbers a_this_thickest a_this_refusals (upd g_this 3 v1)))] H := hP
  have hD : va_D A [(a_this, .inr (2, rf_o2 a_this_now a_this_then a_this_trial a_this_search a_this_letters a_this_numbers a_this_thickest a_this_refusals (upd g_this 3 v1)))] := hD
  refine lv_iload_n hx hb dX2_draw_16 rfl (lv_at hl 1 rfl) ?_
  refine lv_if_le (tgt := 37) hx hb dX2_draw_17 (by decide) (fun c2 => ?_) (fun c2 => ?_)
  · have hf := rf_ifp hf c2
    refine lv_iconst (v := 0) hx hb dX2_draw_37 (by decide) ?_
    obtain rfl := Option.some.inj hf
    exact W.iret (v := 0) hx hb hr (fun t ht hW => ⟨⟨0, (), rfl, rfl, rf_mk ht hP hD⟩, hS.F ht⟩) hS.2.2 dX2_draw_38
  · have hf := rf_ifn hf c2
    refine lv_aload_n hx hb dX2_draw_20 rfl (lv_at hl 0 rfl) ?_
    refine va_get (D := D) (ci := 2) (v := .int v1) (C := RX2) (T := TX2) (N := 12) hx hb hts jX2_draw_X2 hown hK hP 0 rfl rfl 11 (by decide) (hts _ kX2_draw_0) (fun _ h9 => h9) rfl dX2_draw_21 ?_
    refine lv_ldcw hx hb hown (hts _ kX2_draw_3) dX2_draw_24 ?_
    refine lv_iand hx hb dX2_draw_27 ?_
    refine lv_sipush (v := 256) hx hb dX2_draw_28 (by decide) ?_
    refine lv_idiv hx hb dX2_draw_31 (by decide) ?_
    refine lv_iload_n hx hb dX2_draw_32 rfl (lv_at hl 1 rfl) ?_
    obtain ⟨c3, hf⟩ := rf_chk hf
    refine lv_irem hx hb dX2_draw_33 c3 ?_
    refine lv_topi (fun v4 ev4 => ?_)
    have hf := rf_bindv hf ev4
    clear ev4
    refine lv_goto (tgt := 38) hx hb dX2_draw_34 (by decide) ?_
    obtain rfl := Option.some.inj hf
    exact W.iret (v := v4) hx hb hr (fun t ht hW => ⟨⟨v4, (), rfl, rfl, rf_mk ht hP hD⟩, hS.F ht⟩) hS.2.2 dX2_draw_38
theorem kX2_eveningHarm_0 : (.fieldLink RX2 19 "RingAndFinger" "trial" "LRingAndFinger$Finger;" : Cond) ∈ wsX2_eveningHarm := by decide +kernel
theorem kX2_eveningHarm_1 : (.fieldLink RX2 10 "RingAndFinger" "now" "LRingAndFinger$Finger;" : Cond) ∈ wsX2_eveningHarm := by decide +kernel
theorem kX2_eveningHarm_2 : (.fieldLink RX2 238 "RingAndFinger$Finger" "harm" "I" : Cond) ∈ wsX2_eveningHarm := by decide +kernel
theorem kX2_eveningHarm_3 : (.fieldLink RX2 214 "RingAndFinger$Finger" "swell" "I" : Cond) ∈ wsX2_eveningHarm := by decide +kernel
theorem jX2_eveningHarm_X2 : ∀ w ∈ u_ws RX2 TX2 12, w ∈ wsX2_eveningHarm := by decide +kernel
theorem jX2_eveningHarm_X0 : ∀ w ∈ u_ws RX0 TX0 12, w ∈ wsX2_eveningHarm := by decide +kernel
set_option maxHeartbeats 8000000 in
set_option maxRecDepth 100000 in
theorem c_X2_eveningHarm (l : Launch) (D : va_G) (cA : ClassId) (ad : Nat → Nat) (a_this a_this_now a_this_then a_this_trial a_this_search a_this_letters a_this_numbers a_this_thickest a_this_refusals a_this_now_kinds a_this_now_thicks a_this_trial_kinds a_this_trial_thicks : Nat) (sz : Nat) (g_this g_this_now f_this_now_kinds f_this_now_thicks g_this_trial f_this_trial_kinds f_this_trial_thicks : Nat → Int32) (q : Int32 × (Nat → Int32) × (Nat → Int32) × (Nat → Int32) × (Nat → Int32)) (hf : f_X2_eveningHarm g_this g_this_now f_this_now_kinds f_this_now_thicks g_this_trial f_this_trial_kinds f_this_trial_thicks = some q) : Met l yX2_eveningHarm wsX2_eveningHarm ({ frames := 4, cells := 0, slots := 0, locals := 91 } : Room) (va_Pc [.ref a_this] (rf_Pre D cA ad [(a_this, .inr (2, rf_o2 a_this_now a_this_then a_this_trial a_this_search a_this_letters a_this_numbers a_this_thickest a_this_refusals g_this)), (a_this_now, .inr (0, rf_o0 a_this_now_kinds a_this_now_thicks g_this_now)), (a_this_now_kinds, .inl (cA, 6, .inl f_this_now_kinds)), (a_this_now_thicks, .inl (cA, 6, .inl f_this_now_thicks)), (a_this_trial, .inr (0, rf_o0 a_this_trial_kinds a_this_trial_thicks g_this_trial)), (a_this_trial_kinds, .inl (cA, 6, .inl f_this_trial_kinds)), (a_this_trial_thicks, .inl (cA, 6, .inl f_this_trial_thicks))] sz)) (va_Qi (fun (r : Int32) (_ : Unit) => r = q.1) (fun _ t => rf_Post D (va_A [(a_this, .inr (2, rf_o2 a_this_now a_this_then a_this_trial a_this_search a_this_letters a_this_numbers a_this_thickest a_this_refusals g_this)), (a_this_now, .inr (0, rf_o0 a_this_now_kinds a_this_now_thicks g_this_now)), (a_this_now_kinds, .inl (cA, 6, .inl f_this_now_kinds)), (a_this_now_thicks, .inl (cA, 6, .inl f_this_now_thicks)), (a_this_trial, .inr (0, rf_o0 a_this_trial_kinds a_this_trial_thicks g_this_trial)), (a_this_trial_kinds, .inl (cA, 6, .inl f_this_trial_kinds)), (a_this_trial_thicks, .inl (cA, 6, .inl f_this_trial_thicks))] sz) [(a_this, .inr (2, rf_o2 a_this_now a_this_then a_this_trial a_this_search a_this_letters a_this_numbers a_this_thickest a_this_refusals q.2.1)), (a_this_now, .inr (0, rf_o0 a_this_now_kinds a_this_now_thicks g_this_now)), (a_this_now_kinds, .inl (cA, 6, .inl f_this_now_kinds)), (a_this_now_thicks, .inl (cA, 6, .inl f_this_now_thicks)), (a_this_trial, .inr (0, rf_o0 a_this_trial_kinds a_this_trial_thicks q.2.2.1)), (a_this_trial_kinds, .inl (cA, 6, .inl q.2.2.2.1)), (a_this_trial_thicks, .inl (cA, 6, .inl q.2.2.2.2))] t) (va_A [(a_this, .inr (2, rf_o2 a_this_now a_this_then a_this_trial a_this_search a_this_letters a_this_numbers a_this_thickest a_this_refusals g_this)), (a_this_now, .inr (0, rf_o0 a_this_now_kinds a_this_now_thicks g_this_now)), (a_this_now_kinds, .inl (cA, 6, .inl f_this_now_kinds)), (a_this_now_thicks, .inl (cA, 6, .inl f_this_now_thicks)), (a_this_trial, .inr (0, rf_o0 a_this_trial_kinds a_this_trial_thicks g_this_trial)), (a_this_trial_kinds, .inl (cA, 6, .inl f_this_trial_kinds)), (a_this_trial_thicks, .inl (cA, 6, .inl f_this_trial_thicks))] sz)) 0 0 (va_A [(a_this, .inr (2, rf_o2 a_this_now a_this_then a_this_trial a_this_search a_this_letters a_this_numbers a_this_thickest a_this_refusals g_this)), (a_this_now, .inr (0, rf_o0 a_this_now_kinds a_this_now_thicks g_this_now)), (a_this_now_kinds, .inl (cA, 6, .inl f_this_now_kinds)), (a_this_now_thicks, .inl (cA, 6, .inl f_this_now_thicks)), (a_this_trial, .inr (0, rf_o0 a_this_trial_kinds a_this_trial_thicks g_this_trial)), (a_this_trial_kinds, .inl (cA, 6, .inl f_this_trial_kinds)), (a_this_trial_thicks, .inl (cA, 6, .inl f_this_trial_thicks))] sz) := by
  refine Met.ofW (cc := cX2_eveningHarm) (maxL := 2) (ret := (some .int)) (by decide) rfl ?_
  intro p e s m args below meth c s₁ B hml hv
  obtain ⟨rfl, hsz, hP, hK, hD0, hE⟩ := hv
  have hx := B.exec
  have hb := B.bytes
  have hr := B.returns
  have hts := atoms_spec (ws := wsX2_eveningHarm) B.pre
  have hown : s.vm.findClass RX2 = some m.cls := findClass_of_methodNamed B.named
  have hlocks := B.notSynchronized
  subst hsz
  have hD := hD0.self (sz := s.heap.size)
  generalize hAe : va_A [(a_this, .inr (2, rf_o2 a_this_now a_this_then a_this_trial a_this_search a_this_letters a_this_numbers a_this_thickest a_this_refusals g_this)), (a_this_now, .inr (0, rf_o0 a_this_now_kinds a_this_now_thicks g_this_now)), (a_this_now_kinds, .inl (cA, 6, .inl f_this_now_kinds)), (a_this_now_thicks, .inl (cA, 6, .inl f_this_now_thicks)), (a_this_trial, .inr (0, rf_o0 a_this_trial_kinds a_this_trial_thicks g_this_trial)), (a_this_trial_kinds, .inl (cA, 6, .inl f_this_trial_kinds)), (a_this_trial_thicks, .inl (cA, 6, .inl f_this_trial_thicks))] s.heap.size = A at hD hE ⊢
  have hA : ∀ q : Nat, s.heap.size ≤ q → A q := fun q h => by rw [← hAe]; exact Or.inr h
  have hS : va_S A s.heap s.heap [] := va_S.rf
  have hP : va_P D vwCl [(a_this, .inr (2, rf_o2 a_this_now a_this_then a_this_trial a_this_search a_this_letters a_this_numbers a_this_thickest a_this_refusals g_this)), (a_this_now, .inr (0, rf_o0 a_this_now_kinds a_this_now_thicks g_this_now)), (a_this_now_kinds, .inl (cA, 6, .inl f_this_now_kinds)), (a_this_now_thicks, .inl (cA, 6, .inl f_this_now_thicks)), (a_this_trial, .inr (0, rf_o0 a_this_trial_kinds a_this_trial_thicks g_this_trial)), (a_this_trial_kinds, .inl (cA, 6, .inl f_this_trial_kinds)), (a_this_trial_thicks, .inl (cA, 6, .inl f_this_trial_thicks))] s.heap := hP
  have hl := lv_entry ([.ref a_this]) (n := 2) (Nat.le_of_ble_eq_true rfl)
  rw [lg_entry_eq]
  generalize (lg_sl ([.ref a_this]) ++ List.replicate (2 - (lg_sl ([.ref a_this])).length) Slot.unset).toArray = ls at hl ⊢
  have hl : lv_has ls 2 [(0, .ref a_this)] := hl
  have key_34 : ∀ (yf_this_trial_kinds yf_this_trial_thicks : Nat → Int32) (n : Nat) (x1 : Int32) (yg_this yg_this_trial : Nat → Int32) (ql : Int32 × (Nat → Int32) × (Nat → Int32)), f_X2_eveningHarm_L34 g_this_now f_this_now_kinds f_this_now_thicks yf_this_trial_kinds yf_this_trial_thicks n x1 yg_this yg_this_trial = some ql → ∀ (H : Heap) (locs : List Loc) (ls : Array Slot), va_P D vwCl [(a_this, .inr (2, rf_o2 a_this_now a_this_then a_this_trial a_this_search a_this_letters a_this_numbers a_this_thickest a_this_refusals yg_this)), (a_this_now, .inr (0, rf_o0 a_this_now_kinds a_this_now_thicks g_this_now)), (a_this_now_kinds, .inl (cA, 6, .inl f_this_now_kinds)), (a_this_now_thicks, .inl (cA, 6, .inl f_this_now_thicks)), (a_this_trial, .inr (0, rf_o0 a_this_trial_kinds a_this_trial_thicks yg_this_trial)), (a_this_trial_kinds, .inl (cA, 6, .inl yf_this_trial_kinds)), (a_this_trial_thicks, .inl (cA, 6, .inl yf_this_trial_thicks))] H → va_D A [(a_this, .inr (2, rf_o2 a_this_now a_this_then a_this_trial a_this_search a_this_letters a_this_numbers a_this_thickest a_this_refusals yg_this)), (a_this_now, .inr (0, rf_o0 a_this_now_kinds a_this_now_thicks g_this_now)), (a_this_now_kinds, .inl (cA, 6, .inl f_this_now_kinds)), (a_this_now_thicks, .inl (cA, 6, .inl f_this_now_thicks)), (a_this_trial, .inr (0, rf_o0 a_this_trial_kinds a_this_trial_thicks yg_this_trial)), (a_this_trial_kinds, .inl (cA, 6, .inl yf_this_trial_kinds)), (a_this_trial_thicks, .inl (cA, 6, .inl yf_this_trial_thicks))] → va_S A s.heap H locs → lv_has ls 2 [(0, .ref a_this), (1, .int x1)] → (∀ (H : Heap) (locs : List Loc) (ls : Array Slot), va_P D vwCl [(a_this, .inr (2, rf_o2 a_this_now a_this_then a_this_trial a_this_search a_this_letters a_this_numbers a_this_thickest a_this_refusals ql.2.1)), (a_this_now, .inr (0, rf_o0 a_this_now_kinds a_this_now_thicks g_this_now)), (a_this_now_kinds, .inl (cA, 6, .inl f_this_now_kinds)), (a_this_now_thicks, .inl (cA, 6, .inl f_this_now_thicks)), (a_this_trial, .inr (0, rf_o0 a_this_trial_kinds a_this_trial_thicks ql.2.2)), (a_this_trial_kinds, .inl (cA, 6, .inl yf_this_trial_kinds)), (a_this_trial_thicks, .inl (cA, 6, .inl yf_this_trial_thicks))] H → va_D A [(a_this, .inr (2, rf_o2 a_this_now a_this_then a_this_trial a_this_search a_this_letters a_this_numbers a_this_thickest a_this_refusals ql.2.1)), (a_this_now, .inr (0, rf_o0 a_this_now_kinds a_this_now_thicks g_this_now)), (a_this_now_kinds, .inl (cA, 6, .inl f_this_now_kinds)), (a_this_now_thicks, .inl (cA, 6, .inl f_this_now_thicks)), (a_this_trial, .inr (0, rf_o0 a_this_trial_kinds a_this_trial_thicks ql.2.2)), (a_this_trial_kinds, .inl (cA, 6, .inl yf_this_trial_kinds)), (a_this_trial_thicks, .inl (cA, 6, .inl yf_this_trial_thicks))] → va_S A s.heap H locs → lv_has ls 2 [(0, .ref a_this), (1, .int ql.1)] → W p l e (headSpec wsX2_eveningHarm ({ frames := 4, cells := 0, slots := 0, locals := 91 } : Room)).room s m ([.ref a_this] : List Value).toArray below meth c H locs 0 0 (MQ below (va_Qi (fun (r : Int32) (_ : Unit) => r = q.1) (fun _ t => rf_Post D A [(a_this, .inr (2, rf_o2 a_this_now a_this_then a_this_trial a_this_search a_this_letters a_this_numbers a_this_thickest a_this_refusals q.2.1)), (a_this_now, .inr (0, rf_o0 a_this_now_kinds a_this_now_thicks g_this_now)), (a_this_now_kinds, .inl (cA, 6, .inl f_this_now_kinds)), (a_this_now_thicks, .inl (cA, 6, .inl f_this_now_thicks)), (a_this_trial, .inr (0, rf_o0 a_this_trial_kinds a_this_trial_thicks q.2.2.1)), (a_this_trial_kinds, .inl (cA, 6, .inl q.2.2.2.1)), (a_this_trial_thicks, .inl (cA, 6, .inl q.2.2.2.2))] t) A) ([.ref a_this] : List Value).toArray s 0 0 A) (F0 m 70 ls [])) → W p l e (headSpec wsX2_eveningHarm ({ frames := 4, cells := 0, slots := 0, locals := 91 } : Room)).room s m ([.ref a_this] : List Value).toArray below meth c H locs 0 0 (MQ below (va_Qi (fun (r : Int32) (_ : Unit) => r = q.1) (fun _ t => rf_Post D A [(a_this, .inr (2, rf_o2 a_this_now a_this_then a_this_trial a_this_search a_this_letters a_this_numbers a_this_thickest a_this_refusals q.2.1)), (a_this_now, .inr (0, rf_o0 a_this_now_kinds a_this_now_thicks g_this_now)), (a_this_now_kinds, .inl (cA, 6, .inl f_this_now_kinds)), (a_this_now_thicks, .inl (cA, 6, .inl f_this_now_thicks)), (a_this_trial, .inr (0, rf_o0 a_this_trial_kinds a_this_trial_thicks q.2.2.1)), (a_this_trial_kinds, .inl (cA, 6, .inl q.2.2.2.1)), (a_this_trial_thicks, .inl (cA, 6, .inl q.2.2.2.2))] t) A) ([.ref a_this] : List Value).toArray s 0 0 A) (F0 m 34 ls []) := by
    intro yf_this_trial_kinds yf_this_trial_thicks n
    induction n with
    | zero =>
      intro x1 yg_this yg_this_trial ql hf H locs ls hP hD hS hl kx
      exact absurd (show (none : Option (Int32 × (Nat → Int32) × (Nat → Int32))) = some ql from hf) (fun h9 => by cases h9)
    | succ n ih =>
      intro x1 yg_this yg_this_trial ql hf H locs ls hP hD hS hl kx
      rw [f_X2_eveningHarm_L34] at hf
      refine lv_iload_n hx hb dX2_eveningHarm_34 rfl (lv_at hl 1 rfl) ?_
      refine lv_bipush (v := 12) hx hb dX2_eveningHarm_35 (by decide) ?_
      refine lv_icmp_ge (tgt := 70) hx hb dX2_eveningHarm_37 (by decide) (fun c1 => ?_) (fun c1 => ?_)
      · have hf := rf_ifp hf c1
        obtain rfl := Option.some.inj hf
        exact kx _ _ _ hP hD hS (lv_sub hl [0, 1] rfl)
      · have hf := rf_ifn hf c1
        refine lv_aload_n hx hb dX2_eveningHarm_40 rfl (lv_at hl 0 rfl) ?_
        refine va_get (D := D) (ci := 2) (v := .ref a_this_trial) (C := RX2) (T := TX2) (N := 12) hx hb hts jX2_eveningHarm_X2 hown hK hP 0 rfl rfl 2 (by decide) (hts _ kX2_eveningHarm_0) (fun _ h9 => h9) rfl dX2_eveningHarm_41 ?_
        obtain ⟨q2, hq2, hf⟩ := rf_bindq hf
        refine rf_Vi (As := []) (rest := []) (wr := [(a_this, .inr (2, rf_o2 a_this_now a_this_then a_this_trial a_this_search a_this_letters a_this_numbers a_this_thickest a_this_refusals yg_this)), (a_this_now, .inr (0, rf_o0 a_this_now_kinds a_this_now_thicks g_this_now)), (a_this_now_kinds, .inl (cA, 6, .inl f_this_now_kinds)), (a_this_now_thicks, .inl (cA, 6, .inl f_this_now_thicks)), (a_this_trial_kinds, .inl (cA, 6, .inl yf_this_trial_kinds)), (a_this_trial_thicks, .inl (cA, 6, .inl yf_this_trial_thicks))]) (wn := [(a_this, .inr (2, rf_o2 a_this_now a_this_then a_this_trial a_this_search a_this_letters a_this_numbers a_this_thickest a_this_refusals yg_this)), (a_this_now, .inr (0, rf_o0 a_this_now_kinds a_this_now_thicks g_this_now)), (a_this_now_kinds, .inl (cA, 6, .inl f_this_now_kinds)), (a_this_now_thicks, .inl (cA, 6, .inl f_this_now_thicks)), (a_this_trial, .inr (0, rf_o0 a_this_trial_kinds a_this_trial_thicks yg_this_trial)), (a_this_trial_kinds, .inl (cA, 6, .inl yf_this_trial_kinds)), (a_this_trial_thicks, .inl (cA, 6, .inl yf_this_trial_thicks))]) ⟨hx, hb, hml, hown, hts⟩ hK hP hD hS hA hE (c_X0_isOff l D cA ad a_this_trial a_this_trial_kinds a_this_trial_thicks H.size yg_this_trial q2 hq2) (cwV 0 hts gX2_eveningHarm_X0_isOff rfl rfl rfl hv_X0_isOff ⟨Nat.le_of_ble_eq_true rfl, Nat.le_of_ble_eq_true rfl⟩) [4] [0, 1, 2, 3, 5, 6] [0, 1, 2, 3, 6, 4, 5] rfl rfl rfl rfl (by decide) rfl rfl 0 4 rfl rfl rfl rfl rfl hl.1 (Nat.le_of_ble_eq_true rfl) dX2_eveningHarm_44 ⟨Nat.zero_le _, Nat.zero_le _⟩ (fun H locs hP hD hS => ?_)
        refine lv_if_ne (tgt := 70) hx hb dX2_eveningHarm_47 (by decide) (fun c3 => ?_) (fun c3 => ?_)
        · have hf := rf_ifn hf c3
          obtain rfl := Option.some.inj hf
          exact kx _ _ _ hP hD hS (lv_sub hl [0, 1] rfl)
        · have hf := rf_ifp hf c3
          refine lv_aload_n hx hb dX2_eveningHarm_50 rfl (lv_at hl 0 rfl) ?_
          refine va_get (D := D) (ci := 2) (v := .ref a_this_trial) (C := RX2) (T := TX2) (N := 12) hx hb hts jX2_eveningHarm_X2 hown hK hP 0 rfl rfl 2 (by decide) (hts _ kX2_eveningHarm_0) (fun _ h9 => h9) rfl dX2_eveningHarm_51 ?_
          refine lv_aload_n hx hb dX2_eveningHarm_54 rfl (lv_at hl 0 rfl) ?_
          refine lv_bipush (v := 6) hx hb dX2_eveningHarm_55 (by decide) ?_
          obtain ⟨q4, hq4, hf⟩ := rf_bindq hf
          refine rf_Vi (As := [.int 6]) (rest := [.ref a_this_trial]) (wr := [(a_this_now, .inr (0, rf_o0 a_this_now_kinds a_this_now_thicks g_this_now)), (a_this_now_kinds, .inl (cA, 6, .inl f_this_now_kinds)), (a_this_now_thicks, .inl (cA, 6, .inl f_this_now_thicks)), (a_this_trial, .inr (0, rf_o0 a_this_trial_kinds a_this_trial_thicks yg_this_trial)), (a_this_trial_kinds, .inl (cA, 6, .inl yf_this_trial_kinds)), (a_this_trial_thicks, .inl (cA, 6, .inl yf_this_trial_thicks))]) (wn := [(a_this, .inr (2, rf_o2 a_this_now a_this_then a_this_trial a_this_search a_this_letters a_this_numbers a_this_thickest a_this_refusals q4.2)), (a_this_now, .inr (0, rf_o0 a_this_now_kinds a_this_now_thicks g_this_now)), (a_this_now_kinds, .inl (cA, 6, .inl f_this_now_kinds)), (a_this_now_thicks, .inl (cA, 6, .inl f_this_now_thicks)), (a_this_trial, .inr (0, rf_o0 a_this_trial_kinds a_this_trial_thicks yg_this_trial)), (a_this_trial_kinds, .inl (cA, 6, .inl yf_this_trial_kinds)), (a_this_trial_thicks, .inl (cA, 6, .inl yf_this_trial_thicks))]) ⟨hx, hb, hml, hown, hts⟩ hK hP hD hS hA hE (c_X2_draw l D cA ad a_this a_this_now a_this_then a_this_trial a_this_search a_this_letters a_this_numbers a_this_thickest a_this_refusals H.size yg_this 6 q4 hq4) (cwV 1 hts gX2_eveningHarm_X2_draw rfl rfl rfl hv_X2_draw ⟨Nat.le_of_ble_eq_true rfl, Nat.le_of_ble_eq_true rfl⟩) [0] [1, 2, 3, 4, 5, 6] [6, 0, 1, 2, 3, 4, 5] rfl rfl rfl rfl (by decide) rfl rfl 2 0 rfl rfl rfl rfl rfl hl.1 (Nat.le_of_ble_eq_true rfl) dX2_eveningHarm_57 ⟨Nat.zero_le _, Nat.zero_le _⟩ (fun H locs hP hD hS => ?_)
          obtain ⟨q5, hq5, hf⟩ := rf_bindq hf
          refine rf_Vi (As := [.int q4.1]) (rest := []) (wr := [(a_this, .inr (2, rf_o2 a_this_now a_this_then a_this_trial a_this_search a_this_letters a_this_numbers a_this_thickest a_this_refusals q4.2)), (a_this_now, .inr (0, rf_o0 a_this_now_kinds a_this_now_thicks g_this_now)), (a_this_now_kinds, .inl (cA, 6, .inl f_this_now_kinds)), (a_this_now_thicks, .inl (cA, 6, .inl f_this_now_thicks))]) (wn := [(a_this, .inr (2, rf_o2 a_this_now a_this_then a_this_trial a_this_search a_this_letters a_this_numbers a_this_thickest a_this_refusals q4.2)), (a_this_now, .inr (0, rf_o0 a_this_now_kinds a_this_now_thicks g_this_now)), (a_this_now_kinds, .inl (cA, 6, .inl f_this_now_kinds)), (a_this_now_thicks, .inl (cA, 6, .inl f_this_now_thicks)), (a_this_trial, .inr (0, rf_o0 a_this_trial_kinds a_this_trial_thicks q5.2)), (a_this_trial_kinds, .inl (cA, 6, .inl yf_this_trial_kinds)), (a_this_trial_thicks, .inl (cA, 6, .inl yf_this_trial_thicks))]) ⟨hx, hb, hml, hown, hts⟩ hK hP hD hS hA hE (c_X0_attempt l D cA ad a_this_trial a_this_trial_kinds a_this_trial_thicks H.size yg_this_trial yf_this_trial_kinds yf_this_trial_thicks q4.1 q5 hq5) (cwV 1 hts gX2_eveningHarm_X0_attempt rfl rfl rfl hv_X0_attempt ⟨Nat.le_of_ble_eq_true rfl, Nat.le_of_ble_eq_true rfl⟩) [4, 5, 6] [0, 1, 2, 3] [0, 1, 2, 3, 4, 5, 6] rfl rfl rfl rfl (by decide) rfl rfl 0 4 rfl rfl rfl rfl rfl hl.1 (Nat.le_of_ble_eq_true rfl) dX2_eveningHarm_60 ⟨Nat.zero_le _, Nat.zero_le _⟩ (fun H locs hP hD hS => ?_)
          refine lv_pop hx hb dX2_eveningHarm_63 rfl ?_
          obtain ⟨v6, ev6⟩ : ∃ y : Int32, y = x1 + 1 := ⟨_, rfl⟩
          have hf := rf_bindv hf ev6
          refine lv_iinc (v := v6) (lv' := [(1, .int v6), (0, .ref a_this)]) hx hb dX2_eveningHarm_64 hl (k := 1) rfl (by rw [ev6]; rfl) (by decide) rfl (fun ls hl => ?_)
          clear ev6
          refine lv_goto (tgt := 34) hx hb dX2_eveningHarm_67 (by decide) ?_
          exact ih v6 q4.2 q5.2 ql hf _ _ _ hP hD hS (lv_sub hl [1, 0] rfl) kx
  rw [f_X2_eveningHarm] at hf
  refine lv_aload_n hx hb dX2_eveningHarm_0 rfl (lv_at hl 0 rfl) ?_
  refine va_get (D := D) (ci := 2) (v := .ref a_this_trial) (C := RX2) (T := TX2) (N := 12) hx hb hts jX2_eveningHarm_X2 hown hK hP 0 rfl rfl 2 (by decide) (hts _ kX2_eveningHarm_0) (fun _ h9 => h9) rfl dX2_eveningHarm_1 ?_
  refine lv_aload_n hx hb dX2_eveningHarm_4 rfl (lv_at hl 0 rfl) ?_
  refine va_get (D := D) (ci := 2) (v := .ref a_this_now) (C := RX2) (T := TX2) (N := 12) hx hb hts jX2_eveningHarm_X2 hown hK hP 0 rfl rfl 0 (by decide) (hts _ kX2_eveningHarm_1) (fun _ h9 => h9) rfl dX2_eveningHarm_5 ?_
  obtain ⟨q7, hq7, hf⟩ := rf_bindq hf
  refine rf_Vv (As := [.ref a_this_now]) (rest := []) (wr := [(a_this, .inr (2, rf_o2 a_this_now a_this_then a_this_trial a_this_search a_this_letters a_this_numbers a_this_thickest a_this_refusals g_this))]) (wn := [(a_this, .inr (2, rf_o2 a_this_now a_this_then a_this_trial a_this_search a_this_letters a_this_numbers a_this_thickest a_this_refusals g_this)), (a_this_now, .inr (0, rf_o0 a_this_now_kinds a_this_now_thicks g_this_now)), (a_this_now_kinds, .inl (cA, 6, .inl f_this_now_kinds)), (a_this_now_thicks, .inl (cA, 6, .inl f_this_now_thicks)), (a_this_trial, .inr (0, rf_o0 a_this_trial_kinds a_this_trial_thicks q7.1)), (a_this_trial_kinds, .inl (cA, 6, .inl q7.2.1)), (a_this_trial_thicks, .inl (cA, 6, .inl q7.2.2))]) ⟨hx, hb, hml, hown, hts⟩ hK hP hD hS hA hE (c_X0_copyFrom l D cA ad a_this_trial a_this_trial_kinds a_this_trial_thicks a_this_now a_this_now_kinds a_this_now_thicks s.heap.size g_this_trial f_this_trial_kinds f_this_trial_thicks g_this_now f_this_now_kinds f_this_now_thicks q7 hq7) (cwV 1 hts gX2_eveningHarm_X0_copyFrom rfl rfl rfl hv_X0_copyFrom ⟨Nat.le_of_ble_eq_true rfl, Nat.le_of_ble_eq_true rfl⟩) [4, 5, 6, 1, 2, 3] [0] [0, 4, 5, 6, 1, 2, 3] rfl rfl rfl rfl (by decide) rfl rfl 0 4 rfl rfl rfl rfl rfl hl.1 (Nat.le_of_ble_eq_true rfl) dX2_eveningHarm_8 ⟨Nat.zero_le _, Nat.zero_le _⟩ (fun H locs hP hD hS => ?_)
  refine lv_aload_n hx hb dX2_eveningHarm_11 rfl (lv_at hl 0 rfl) ?_
  refine va_get (D := D) (ci := 2) (v := .ref a_this_trial) (C := RX2) (T := TX2) (N := 12) hx hb hts jX2_eveningHarm_X2 hown hK hP 0 rfl rfl 2 (by decide) (hts _ kX2_eveningHarm_0) (fun _ h9 => h9) rfl dX2_eveningHarm_12 ?_
  refine lv_iconst (v := 0) hx hb dX2_eveningHarm_15 (by decide) ?_
  refine va_put (D := D) (ci := 0) (v := .int 0) (ty := .int) (C := RX0) (T := TX0) (N := 12) hx hb hts jX2_eveningHarm_X0 tyX0 tyX0_ok nmX0 hown hK hP hD hS 4 rfl rfl 11 (by decide) (hts _ kX2_eveningHarm_2) (fun _ h9 => h9) rfl (by decide +kernel) rfl rfl (Nat.le_of_ble_eq_true rfl) dX2_eveningHarm_16 (fun H locs hP hD hS => ?_)
  have hP : va_P D vwCl [(a_this, .inr (2, rf_o2 a_this_now a_this_then a_this_trial a_this_search a_this_letters a_this_numbers a_this_thickest a_this_refusals g_this)), (a_this_now, .inr (0, rf_o0 a_this_now_kinds a_this_now_thicks g_this_now)), (a_this_now_kinds, .inl (cA, 6, .inl f_this_now_kinds)), (a_this_now_thicks, .inl (cA, 6, .inl f_this_now_thicks)), (a_this_trial, .inr (0, rf_o0 a_this_trial_kinds a_this_trial_thicks (upd q7.1 9 0))), (a_this_trial_kinds, .inl (cA, 6, .inl q7.2.1)), (a_this_trial_thicks, .inl (cA, 6, .inl q7.2.2))] H := hP
  have hD : va_D A [(a_this, .inr (2, rf_o2 a_this_now a_this_then a_this_trial a_this_search a_this_letters a_this_numbers a_this_thickest a_this_refusals g_this)), (a_this_now, .inr (0, rf_o0 a_this_now_kinds a_this_now_thicks g_this_now)), (a_this_now_kinds, .inl (cA, 6, .inl f_this_now_kinds)), (a_this_now_thicks, .inl (cA, 6, .inl f_this_now_thicks)), (a_this_trial, .inr (0, rf_o0 a_this_trial_kinds a_this_trial_thicks (upd q7.1 9 0))), (a_this_trial_kinds, .inl (cA, 6, .inl q7.2.1)), (a_this_trial_thicks, .inl (cA, 6, .inl q7.2.2))] := hD
  refine lv_aload_n hx hb dX2_eveningHarm_19 rfl (lv_at hl 0 rfl) ?_
  refine va_get (D := D) (ci := 2) (v := .ref a_this_trial) (C := RX2) (T := TX2) (N := 12) hx hb hts jX2_eveningHarm_X2 hown hK hP 0 rfl rfl 2 (by decide) (hts _ kX2_eveningHarm_0) (fun _ h9 => h9) rfl dX2_eveningHarm_20 ?_
  refine lv_aload_n hx hb dX2_eveningHarm_23 rfl (lv_at hl 0 rfl) ?_
  refine lv_bipush (v := 31) hx hb dX2_eveningHarm_24 (by decide) ?_
  obtain ⟨q8, hq8, hf⟩ := rf_bindq hf
  refine rf_Vi (As := [.int 31]) (rest := [.ref a_this_trial]) (wr := [(a_this_now, .inr (0, rf_o0 a_this_now_kinds a_this_now_thicks g_this_now)), (a_this_now_kinds, .inl (cA, 6, .inl f_this_now_kinds)), (a_this_now_thicks, .inl (cA, 6, .inl f_this_now_thicks)), (a_this_trial, .inr (0, rf_o0 a_this_trial_kinds a_this_trial_thicks (upd q7.1 9 0))), (a_this_trial_kinds, .inl (cA, 6, .inl q7.2.1)), (a_this_trial_thicks, .inl (cA, 6, .inl q7.2.2))]) (wn := [(a_this, .inr (2, rf_o2 a_this_now a_this_then a_this_trial a_this_search a_this_letters a_this_numbers a_this_thickest a_this_refusals q8.2)), (a_this_now, .inr (0, rf_o0 a_this_now_kinds a_this_now_thicks g_this_now)), (a_this_now_kinds, .inl (cA, 6, .inl f_this_now_kinds)), (a_this_now_thicks, .inl (cA, 6, .inl f_this_now_thicks)), (a_this_trial, .inr (0, rf_o0 a_this_trial_kinds a_this_trial_thicks (upd q7.1 9 0))), (a_this_trial_kinds, .inl (cA, 6, .inl q7.2.1)), (a_this_trial_thicks, .inl (cA, 6, .inl q7.2.2))]) ⟨hx, hb, hml, hown, hts⟩ hK hP hD hS hA hE (c_X2_draw l D cA ad a_this a_this_now a_this_then a_this_trial a_this_search a_this_letters a_this_numbers a_this_thickest a_this_refusals H.size g_this 31 q8 hq8) (cwV 1 hts gX2_eveningHarm_X2_draw rfl rfl rfl hv_X2_draw ⟨Nat.le_of_ble_eq_true rfl, Nat.le_of_ble_eq_true rfl⟩) [0] [1, 2, 3, 4, 5, 6] [6, 0, 1, 2, 3, 4, 5] rfl rfl rfl rfl (by decide) rfl rfl 2 0 rfl rfl rfl rfl rfl hl.1 (Nat.le_of_ble_eq_true rfl) dX2_eveningHarm_26 ⟨Nat.zero_le _, Nat.zero_le _⟩ (fun H locs hP hD hS => ?_)
  refine va_put (D := D) (ci := 0) (v := .int q8.1) (ty := .int) (C := RX0) (T := TX0) (N := 12) hx hb hts jX2_eveningHarm_X0 tyX0 tyX0_ok nmX0 hown hK hP hD hS 4 rfl rfl 6 (by decide) (hts _ kX2_eveningHarm_3) (fun _ h9 => h9) rfl (by decide +kernel) rfl rfl (Nat.le_of_ble_eq_true rfl) dX2_eveningHarm_29 (fun H locs hP hD hS => ?_)
  have hP : va_P D vwCl [(a_this, .inr (2, rf_o2 a_this_now a_this_then a_this_trial a_this_search a_this_letters a_this_numbers a_this_thickest a_this_refusals q8.2)), (a_this_now, .inr (0, rf_o0 a_this_now_kinds a_this_now_thicks g_this_now)), (a_this_now_kinds, .inl (cA, 6, .inl f_this_now_kinds)), (a_this_now_thicks, .inl (cA, 6, .inl f_this_now_thicks)), (a_this_trial, .inr (0, rf_o0 a_this_trial_kinds a_this_trial_thicks (upd (upd q7.1 9 0) 4 q8.1))), (a_this_trial_kinds, .inl (cA, 6, .inl q7.2.1)), (a_this_trial_thicks, .inl (cA, 6, .inl q7.2.2))] H := hP
  have hD : va_D A [(a_this, .inr (2, rf_o2 a_this_now a_this_then a_this_trial a_this_search a_this_letters a_this_numbers a_this_thickest a_this_refusals q8.2)), (a_this_now, .inr (0, rf_o0 a_this_now_kinds a_this_now_thicks g_this_now)), (a_this_now_kinds, .inl (cA, 6, .inl f_this_now_kinds)), (a_this_now_thicks, .inl (cA, 6, .inl f_this_now_thicks)), (a_this_trial, .inr (0, rf_o0 a_this_trial_kinds a_this_trial_thicks (upd (upd q7.1 9 0) 4 q8.1))), (a_this_trial_kinds, .inl (cA, 6, .inl q7.2.1)), (a_this_trial_thicks, .inl (cA, 6, .inl q7.2.2))] := hD
  refine lv_iconst (v := 0) hx hb dX2_eveningHarm_32 (by decide) ?_
  refine lv_istore_n (lv' := [(1, .int 0), (0, .ref a_this)]) hx hb dX2_eveningHarm_33 rfl hl (by decide) rfl (fun ls hl => ?_)
  obtain ⟨q9, hq9, hf⟩ := rf_bindq hf
  refine key_34 q7.2.1 q7.2.2 rf_fu 0 q8.2 (upd (upd q7.1 9 0) 4 q8.1) q9 hq9 _ _ _ hP hD hS (lv_sub hl [1, 0] rfl) (fun H locs ls hP hD hS hl => ?_)
  refine lv_aload_n hx hb dX2_eveningHarm_70 rfl (lv_at hl 0 rfl) ?_
  refine va_get (D := D) (ci := 2) (v := .ref a_this_trial) (C := RX2) (T := TX2) (N := 12) hx hb hts jX2_eveningHarm_X2 hown hK hP 0 rfl rfl 2 (by decide) (hts _ kX2_eveningHarm_0) (fun _ h9 => h9) rfl dX2_eveningHarm_71 ?_
  refine va_get (D := D) (ci := 0) (v := .int (q9.2.2 9)) (C := RX0) (T := TX0) (N := 12) hx hb hts jX2_eveningHarm_X0 hown hK hP 4 rfl rfl 11 (by decide) (hts _ kX2_eveningHarm_2) (fun _ h9 => h9) rfl dX2_eveningHarm_74 ?_
  obtain rfl := Option.some.inj hf
  exact W.iret (v := (q9.2.2 9)) hx hb hr (fun t ht hW => ⟨⟨(q9.2.2 9), (), rfl, rfl, rf_mk ht hP hD⟩, hS.F ht⟩) hS.2.2 dX2_eveningHarm_77
theorem kX2_lots_0 : (.fieldLink RX2 53 "RingAndFinger" "seed" "I" : Cond) ∈ wsX2_lots := by decide +kernel
theorem jX2_lots_X2 : ∀ w ∈ u_ws RX2 TX2 12, w ∈ wsX2_lots := by decide +kernel
set_option maxHeartbeats 8000000 in
set_option maxRecDepth 100000 in
theorem c_X2_lots (l : Launch) (D : va_G) (cA : ClassId) (ad : Nat → Nat) (a_this a_this_now a_this_then a_this_trial a_this_search a_this_letters a_this_numbers a_this_thickest a_this_refusals a_this_now_kinds a_this_now_thicks a_this_trial_kinds a_this_trial_thicks : Nat) (sz : Nat) (g_this g_this_now f_this_now_kinds f_this_now_thicks g_this_trial f_this_trial_kinds f_this_trial_thicks f_this_refusals : Nat → Int32) (p1 p2 : Int32) (q : Int32 × (Nat → Int32) × (Nat → Int32) × (Nat → Int32) × (Nat → Int32) × (Nat → Int32)) (hf : f_X2_lots g_this g_this_now f_this_now_kinds f_this_now_thicks g_this_trial f_this_trial_kinds f_this_trial_thicks f_this_refusals p1 p2 = some q) : Met l yX2_lots wsX2_lots ({ frames := 5, cells := 0, slots := 0, locals := 112 } : Room) (va_Pc [.ref a_this, .int p1, .int p2] (rf_Pre D cA ad [(a_this, .inr (2, rf_o2 a_this_now a_this_then a_this_trial a_this_search a_this_letters a_this_numbers a_this_thickest a_this_refusals g_this)), (a_this_now, .inr (0, rf_o0 a_this_now_kinds a_this_now_thicks g_this_now)), (a_this_now_kinds, .inl (cA, 6, .inl f_this_now_kinds)), (a_this_now_thicks, .inl (cA, 6, .inl f_this_now_thicks)), (a_this_trial, .inr (0, rf_o0 a_this_trial_kinds a_this_trial_thicks g_this_trial)), (a_this_trial_kinds, .inl (cA, 6, .inl f_this_trial_kinds)), (a_this_trial_thicks, .inl (cA, 6, .inl f_this_trial_thicks)), (a_this_refusals, .inl (cA, 7, .inl f_this_refusals))] sz)) (va_Qi (fun (r : Int32) (_ : Unit) => r = q.1) (fun _ t => rf_Post D (va_A [(a_this, .inr (2, rf_o2 a_this_now a_this_then a_this_trial a_this_search a_this_letters a_this_numbers a_this_thickest a_this_refusals g_this)), (a_this_now, .inr (0, rf_o0 a_this_now_kinds a_this_now_thicks g_this_now)), (a_this_now_kinds, .inl (cA, 6, .inl f_this_now_kinds)), (a_this_now_thicks, .inl (cA, 6, .inl f_this_now_thicks)), (a_this_trial, .inr (0, rf_o0 a_this_trial_kinds a_this_trial_thicks g_this_trial)), (a_this_trial_kinds, .inl (cA, 6, .inl f_this_trial_kinds)), (a_this_trial_thicks, .inl (cA, 6, .inl f_this_trial_thicks)), (a_this_refusals, .inl (cA, 7, .inl f_this_refusals))] sz) [(a_this, .inr (2, rf_o2 a_this_now a_this_then a_this_trial a_this_search a_this_letters a_this_numbers a_this_thickest a_this_refusals q.2.1)), (a_this_now, .inr (0, rf_o0 a_this_now_kinds a_this_now_thicks g_this_now)), (a_this_now_kinds, .inl (cA, 6, .inl f_this_now_kinds)), (a_this_now_thicks, .inl (cA, 6, .inl f_this_now_thicks)), (a_this_trial, .inr (0, rf_o0 a_this_trial_kinds a_this_trial_thicks q.2.2.1)), (a_this_trial_kinds, .inl (cA, 6, .inl q.2.2.2.1)), (a_this_trial_thicks, .inl (cA, 6, .inl q.2.2.2.2.1)), (a_this_refusals, .inl (cA, 7, .inl q.2.2.2.2.2))] t) (va_A [(a_this, .inr (2, rf_o2 a_this_now a_this_then a_this_trial a_this_search a_this_letters a_this_numbers a_this_thickest a_this_refusals g_this)), (a_this_now, .inr (0, rf_o0 a_this_now_kinds a_this_now_thicks g_this_now)), (a_this_now_kinds, .inl (cA, 6, .inl f_this_now_kinds)), (a_this_now_thicks, .inl (cA, 6, .inl f_this_now_thicks)), (a_this_trial, .inr (0, rf_o0 a_this_trial_kinds a_this_trial_thicks g_this_trial)), (a_this_trial_kinds, .inl (cA, 6, .inl f_this_trial_kinds)), (a_this_trial_thicks, .inl (cA, 6, .inl f_this_trial_thicks)), (a_this_refusals, .inl (cA, 7, .inl f_this_refusals))] sz)) 0 0 (va_A [(a_this, .inr (2, rf_o2 a_this_now a_this_then a_this_trial a_this_search a_this_letters a_this_numbers a_this_thickest a_this_refusals g_this)), (a_this_now, .inr (0, rf_o0 a_this_now_kinds a_this_now_thicks g_this_now)), (a_this_now_kinds, .inl (cA, 6, .inl f_this_now_kinds)), (a_this_now_thicks, .inl (cA, 6, .inl f_this_now_thicks)), (a_this_trial, .inr (0, rf_o0 a_this_trial_kinds a_this_trial_thicks g_this_trial)), (a_this_trial_kinds, .inl (cA, 6, .inl f_this_trial_kinds)), (a_this_trial_thicks, .inl (cA, 6, .inl f_this_trial_thicks)), (a_this_refusals, .inl (cA, 7, .inl f_this_refusals))] sz) := by
  refine Met.ofW (cc := cX2_lots) (maxL := 5) (ret := (some .int)) (by decide) rfl ?_
  intro p e s m args below meth c s₁ B hml hv
  obtain ⟨rfl, hsz, hP, hK, hD0, hE⟩ := hv
  have hx := B.exec
  have hb := B.bytes
  have hr := B.returns
  have hts := atoms_spec (ws := wsX2_lots) B.pre
  have hown : s.vm.findClass RX2 = some m.cls := findClass_of_methodNamed B.named
  have hlocks := B.notSynchronized
  subst hsz
  have hD := hD0.self (sz := s.heap.size)
  generalize hAe : va_A [(a_this, .inr (2, rf_o2 a_this_now a_this_then a_this_trial a_this_search a_this_letters a_this_numbers a_this_thickest a_this_refusals g_this)), (a_this_now, .inr (0, rf_o0 a_this_now_kinds a_this_now_thicks g_this_now)), (a_this_now_kinds, .inl (cA, 6, .inl f_this_now_kinds)), (a_this_now_thicks, .inl (cA, 6, .inl f_this_now_thicks)), (a_this_trial, .inr (0, rf_o0 a_this_trial_kinds a_this_trial_thicks g_this_trial)), (a_this_trial_kinds, .inl (cA, 6, .inl f_this_trial_kinds)), (a_this_trial_thicks, .inl (cA, 6, .inl f_this_trial_thicks)), (a_this_refusals, .inl (cA, 7, .inl f_this_refusals))] s.heap.size = A at hD hE ⊢
  have hA : ∀ q : Nat, s.heap.size ≤ q → A q := fun q h => by rw [← hAe]; exact Or.inr h
  have hS : va_S A s.heap s.heap [] := va_S.rf
  have hP : va_P D vwCl [(a_this, .inr (2, rf_o2 a_this_now a_this_then a_this_trial a_this_search a_this_letters a_this_numbers a_this_thickest a_this_refusals g_this)), (a_this_now, .inr (0, rf_o0 a_this_now_kinds a_this_now_thicks g_this_now)), (a_this_now_kinds, .inl (cA, 6, .inl f_this_now_kinds)), (a_this_now_thicks, .inl (cA, 6, .inl f_this_now_thicks)), (a_this_trial, .inr (0, rf_o0 a_this_trial_kinds a_this_trial_thicks g_this_trial)), (a_this_trial_kinds, .inl (cA, 6, .inl f_this_trial_kinds)), (a_this_trial_thicks, .inl (cA, 6, .inl f_this_trial_thicks)), (a_this_refusals, .inl (cA, 7, .inl f_this_refusals))] s.heap := hP
  have hl := lv_entry ([.ref a_this, .int p1, .int p2]) (n := 5) (Nat.le_of_ble_eq_true rfl)
  rw [lg_entry_eq]
  generalize (lg_sl ([.ref a_this, .int p1, .int p2]) ++ List.replicate (5 - (lg_sl ([.ref a_this, .int p1, .int p2])).length) Slot.unset).toArray = ls at hl ⊢
  have hl : lv_has ls 5 [(0, .ref a_this), (1, .int p1), (2, .int p2)] := hl
  have key_35 : ∀ (yf_this_refusals : Nat → Int32) (n : Nat) (x3 x4 : Int32) (yg_this yg_this_trial yf_this_trial_kinds yf_this_trial_thicks : Nat → Int32) (ql : Int32 × Int32 × (Nat → Int32) × (Nat → Int32) × (Nat → Int32) × (Nat → Int32)), f_X2_lots_L35 g_this_now f_this_now_kinds f_this_now_thicks p1 p2 yf_this_refusals n x3 x4 yg_this yg_this_trial yf_this_trial_kinds yf_this_trial_thicks = some ql → ∀ (H : Heap) (locs : List Loc) (ls : Array Slot), va_P D vwCl [(a_this, .inr (2, rf_o2 a_this_now a_this_then a_this_trial a_this_search a_this_letters a_this_numbers a_this_thickest a_this_refusals yg_this)), (a_this_now, .inr (0, rf_o0 a_this_now_kinds a_this_now_thicks g_this_now)), (a_this_now_kinds, .inl (cA, 6, .inl f_this_now_kinds)), (a_this_now_thicks, .inl (cA, 6, .inl f_this_now_thicks)), (a_this_trial, .inr (0, rf_o0 a_this_trial_kinds a_this_trial_thicks yg_this_trial)), (a_this_trial_kinds, .inl (cA, 6, .inl yf_this_trial_kinds)), (a_this_trial_thicks, .inl (cA, 6, .inl yf_this_trial_thicks)), (a_this_refusals, .inl (cA, 7, .inl yf_this_refusals))] H → va_D A [(a_this, .inr (2, rf_o2 a_this_now a_this_then a_this_trial a_this_search a_this_letters a_this_numbers a_this_thickest a_this_refusals yg_this)), (a_this_now, .inr (0, rf_o0 a_this_now_kinds a_this_now_thicks g_this_now)), (a_this_now_kinds, .inl (cA, 6, .inl f_this_now_kinds)), (a_this_now_thicks, .inl (cA, 6, .inl f_this_now_thicks)), (a_this_trial, .inr (0, rf_o0 a_this_trial_kinds a_this_trial_thicks yg_this_trial)), (a_this_trial_kinds, .inl (cA, 6, .inl yf_this_trial_kinds)), (a_this_trial_thicks, .inl (cA, 6, .inl yf_this_trial_thicks)), (a_this_refusals, .inl (cA, 7, .inl yf_this_refusals))] → va_S A s.heap H locs → lv_has ls 5 [(0, .ref a_this), (1, .int p1), (3, .int x3), (4, .int x4)] → (∀ (H : Heap) (locs : List Loc) (ls : Array Slot), va_P D vwCl [(a_this, .inr (2, rf_o2 a_this_now a_this_then a_this_trial a_this_search a_this_letters a_this_numbers a_this_thickest a_this_refusals ql.2.2.1)), (a_this_now, .inr (0, rf_o0 a_this_now_kinds a_this_now_thicks g_this_now)), (a_this_now_kinds, .inl (cA, 6, .inl f_this_now_kinds)), (a_this_now_thicks, .inl (cA, 6, .inl f_this_now_thicks)), (a_this_trial, .inr (0, rf_o0 a_this_trial_kinds a_this_trial_thicks ql.2.2.2.1)), (a_this_trial_kinds, .inl (cA, 6, .inl ql.2.2.2.2.1)), (a_this_trial_thicks, .inl (cA, 6, .inl ql.2.2.2.2.2)), (a_this_refusals, .inl (cA, 7, .inl yf_this_refusals))] H → va_D A [(a_this, .inr (2, rf_o2 a_this_now a_this_then a_this_trial a_this_search a_this_letters a_this_numbers a_this_thickest a_this_refusals ql.2.2.1)), (a_this_now, .inr (0, rf_o0 a_this_now_kinds a_this_now_thicks g_this_now)), (a_this_now_kinds, .inl (cA, 6, .inl f_this_now_kinds)), (a_this_now_thicks, .inl (cA, 6, .inl f_this_now_thicks)), (a_this_trial, .inr (0, rf_o0 a_this_trial_kinds a_this_trial_thicks ql.2.2.2.1)), (a_this_trial_kinds, .inl (cA, 6, .inl ql.2.2.2.2.1)), (a_this_trial_thicks, .inl (cA, 6, .inl ql.2.2.2.2.2)), (a_this_refusals, .inl (cA, 7, .inl yf_this_refusals))] → va_S A s.heap H locs → lv_has ls 5 [(0, .ref a_this), (1, .int p1), (3, .int ql.1), (4, .int ql.2.1)] → W p l e (headSpec wsX2_lots ({ frames := 5, cells := 0, slots := 0, locals := 112 } : Room)).room s m ([.ref a_this, .int p1, .int p2] : List Value).toArray below meth c H locs 0 0 (MQ below (va_Qi (fun (r : Int32) (_ : Unit) => r = q.1) (fun _ t => rf_Post D A [(a_this, .inr (2, rf_o2 a_this_now a_this_then a_this_trial a_this_search a_this_letters a_this_numbers a_this_thickest a_this_refusals q.2.1)), (a_this_now, .inr (0, rf_o0 a_this_now_kinds a_this_now_thicks g_this_now)), (a_this_now_kinds, .inl (cA, 6, .inl f_this_now_kinds)), (a_this_now_thicks, .inl (cA, 6, .inl f_this_now_thicks)), (a_this_trial, .inr (0, rf_o0 a_this_trial_kinds a_this_trial_thicks q.2.2.1)), (a_this_trial_kinds, .inl (cA, 6, .inl q.2.2.2.1)), (a_this_trial_thicks, .inl (cA, 6, .inl q.2.2.2.2.1)), (a_this_refusals, .inl (cA, 7, .inl q.2.2.2.2.2))] t) A) ([.ref a_this, .int p1, .int p2] : List Value).toArray s 0 0 A) (F0 m 54 ls [])) → W p l e (headSpec wsX2_lots ({ frames := 5, cells := 0, slots := 0, locals := 112 } : Room)).room s m ([.ref a_this, .int p1, .int p2] : List Value).toArray below meth c H locs 0 0 (MQ below (va_Qi (fun (r : Int32) (_ : Unit) => r = q.1) (fun _ t => rf_Post D A [(a_this, .inr (2, rf_o2 a_this_now a_this_then a_this_trial a_this_search a_this_letters a_this_numbers a_this_thickest a_this_refusals q.2.1)), (a_this_now, .inr (0, rf_o0 a_this_now_kinds a_this_now_thicks g_this_now)), (a_this_now_kinds, .inl (cA, 6, .inl f_this_now_kinds)), (a_this_now_thicks, .inl (cA, 6, .inl f_this_now_thicks)), (a_this_trial, .inr (0, rf_o0 a_this_trial_kinds a_this_trial_thicks q.2.2.1)), (a_this_trial_kinds, .inl (cA, 6, .inl q.2.2.2.1)), (a_this_trial_thicks, .inl (cA, 6, .inl q.2.2.2.2.1)), (a_this_refusals, .inl (cA, 7, .inl q.2.2.2.2.2))] t) A) ([.ref a_this, .int p1, .int p2] : List Value).toArray s 0 0 A) (F0 m 35 ls []) := by
    intro yf_this_refusals n
    induction n with
    | zero =>
      intro x3 x4 yg_this yg_this_trial yf_this_trial_kinds yf_this_trial_thicks ql hf H locs ls hP hD hS hl kx
      exact absurd (show (none : Option (Int32 × Int32 × (Nat → Int32) × (Nat → Int32) × (Nat → Int32) × (Nat → Int32))) = some ql from hf) (fun h9 => by cases h9)
    | succ n ih =>
      intro x3 x4 yg_this yg_this_trial yf_this_trial_kinds yf_this_trial_thicks ql hf H locs ls hP hD hS hl kx
      rw [f_X2_lots_L35] at hf
      refine lv_iload hx hb dX2_lots_35 (lv_at hl 3 rfl) ?_
      refine lv_iload_n hx hb dX2_lots_37 rfl (lv_at hl 1 rfl) ?_
      refine lv_icmp_ge (tgt := 54) hx hb dX2_lots_38 (by decide) (fun c1 => ?_) (fun c1 => ?_)
      · have hf := rf_ifp hf c1
        obtain rfl := Option.some.inj hf
        exact kx _ _ _ hP hD hS (lv_sub hl [0, 1, 2, 3] rfl)
      · have hf := rf_ifn hf c1
        refine lv_iload_n hx hb dX2_lots_41 rfl (lv_at hl 2 rfl) ?_
        refine lv_aload_n hx hb dX2_lots_42 rfl (lv_at hl 0 rfl) ?_
        obtain ⟨q2, hq2, hf⟩ := rf_bindq hf
        refine rf_Vi (As := []) (rest := [.int x3]) (wr := [(a_this_refusals, .inl (cA, 7, .inl yf_this_refusals))]) (wn := [(a_this, .inr (2, rf_o2 a_this_now a_this_then a_this_trial a_this_search a_this_letters a_this_numbers a_this_thickest a_this_refusals q2.2.1)), (a_this_now, .inr (0, rf_o0 a_this_now_kinds a_this_now_thicks g_this_now)), (a_this_now_kinds, .inl (cA, 6, .inl f_this_now_kinds)), (a_this_now_thicks, .inl (cA, 6, .inl f_this_now_thicks)), (a_this_trial, .inr (0, rf_o0 a_this_trial_kinds a_this_trial_thicks q2.2.2.1)), (a_this_trial_kinds, .inl (cA, 6, .inl q2.2.2.2.1)), (a_this_trial_thicks, .inl (cA, 6, .inl q2.2.2.2.2)), (a_this_refusals, .inl (cA, 7, .inl yf_this_refusals))]) ⟨hx, hb, hml, hown, hts⟩ hK hP hD hS hA hE (c_X2_eveningHarm l D cA ad a_this a_this_now a_this_then a_this_trial a_this_search a_this_letters a_this_numbers a_this_thickest a_this_refusals a_this_now_kinds a_this_now_thicks a_this_trial_kinds a_this_trial_thicks H.size yg_this g_this_now f_this_now_kinds f_this_now_thicks yg_this_trial yf_this_trial_kinds yf_this_trial_thicks q2 hq2) (cwV 0 hts gX2_lots_X2_eveningHarm rfl rfl rfl hv_X2_eveningHarm ⟨Nat.le_of_ble_eq_true rfl, Nat.le_of_ble_eq_true rfl⟩) [0, 1, 2, 3, 4, 5, 6] [7] [1, 2, 3, 4, 5, 6, 7, 0] rfl rfl rfl rfl (by decide) rfl rfl 2 0 rfl rfl rfl rfl rfl hl.1 (Nat.le_of_ble_eq_true rfl) dX2_lots_43 ⟨Nat.zero_le _, Nat.zero_le _⟩ (fun H locs hP hD hS => ?_)
        refine lv_iadd hx hb dX2_lots_46 ?_
        refine lv_topi (fun v3 ev3 => ?_)
        have hf := rf_bindv hf ev3
        clear ev3
        refine lv_istore_n (lv' := [(3, .int v3), (0, .ref a_this), (1, .int p1), (4, .int x4)]) hx hb dX2_lots_47 rfl hl (by decide) rfl (fun ls hl => ?_)
        obtain ⟨v4, ev4⟩ : ∃ y : Int32, y = x4 + 1 := ⟨_, rfl⟩
        have hf := rf_bindv hf ev4
        refine lv_iinc (v := v4) (lv' := [(4, .int v4), (3, .int v3), (0, .ref a_this), (1, .int p1)]) hx hb dX2_lots_48 hl (k := 3) rfl (by rw [ev4]; rfl) (by decide) rfl (fun ls hl => ?_)
        clear ev4
        refine lv_goto (tgt := 35) hx hb dX2_lots_51 (by decide) ?_
        exact ih v3 v4 q2.2.1 q2.2.2.1 q2.2.2.2.1 q2.2.2.2.2 ql hf _ _ _ hP hD hS (lv_sub hl [2, 3, 1, 0] rfl) kx
  rw [f_X2_lots] at hf
  refine lv_iload_n hx hb dX2_lots_0 rfl (lv_at hl 1 rfl) ?_
  refine lv_iconst (v := 1) hx hb dX2_lots_1 (by decide) ?_
  refine lv_icmp_ge (tgt := 12) hx hb dX2_lots_2 (by decide) (fun c5 => ?_) (fun c5 => ?_)
  · have hf := rf_ifp hf c5
    refine lv_iload_n hx hb dX2_lots_12 rfl (lv_at hl 1 rfl) ?_
    refine lv_bipush (v := 20) hx hb dX2_lots_13 (by decide) ?_
    refine lv_icmp_le (tgt := 25) hx hb dX2_lots_15 (by decide) (fun c6 => ?_) (fun c6 => ?_)
    · have hf := rf_ifp hf c6
      refine lv_aload_n hx hb dX2_lots_25 rfl (lv_at hl 0 rfl) ?_
      refine lv_iload_n hx hb dX2_lots_26 rfl (lv_at hl 2 rfl) ?_
      refine va_put (D := D) (ci := 2) (v := .int p2) (ty := .int) (C := RX2) (T := TX2) (N := 12) hx hb hts jX2_lots_X2 tyX2 tyX2_ok nmX2 hown hK hP hD hS 0 rfl rfl 11 (by decide) (hts _ kX2_lots_0) (fun _ h9 => h9) rfl (by decide +kernel) rfl rfl (Nat.le_of_ble_eq_true rfl) dX2_lots_27 (fun H locs hP hD hS => ?_)
      have hP : va_P D vwCl [(a_this, .inr (2, rf_o2 a_this_now a_this_then a_this_trial a_this_search a_this_letters a_this_numbers a_this_thickest a_this_refusals (upd g_this 3 p2))), (a_this_now, .inr (0, rf_o0 a_this_now_kinds a_this_now_thicks g_this_now)), (a_this_now_kinds, .inl (cA, 6, .inl f_this_now_kinds)), (a_this_now_thicks, .inl (cA, 6, .inl f_this_now_thicks)), (a_this_trial, .inr (0, rf_o0 a_this_trial_kinds a_this_trial_thicks g_this_trial)), (a_this_trial_kinds, .inl (cA, 6, .inl f_this_trial_kinds)), (a_this_trial_thicks, .inl (cA, 6, .inl f_this_trial_thicks)), (a_this_refusals, .inl (cA, 7, .inl f_this_refusals))] H := hP
      have hD : va_D A [(a_this, .inr (2, rf_o2 a_this_now a_this_then a_this_trial a_this_search a_this_letters a_this_numbers a_this_thickest a_this_refusals (upd g_this 3 p2))), (a_this_now, .inr (0, rf_o0 a_this_now_kinds a_this_now_thicks g_this_now)), (a_this_now_kinds, .inl (cA, 6, .inl f_this_now_kinds)), (a_this_now_thicks, .inl (cA, 6, .inl f_this_now_thicks)), (a_this_trial, .inr (0, rf_o0 a_this_trial_kinds a_this_trial_thicks g_this_trial)), (a_this_trial_kinds, .inl (cA, 6, .inl f_this_trial_kinds)), (a_this_trial_thicks, .inl (cA, 6, .inl f_this_trial_thicks)), (a_this_refusals, .inl (cA, 7, .inl f_this_refusals))] := hD
      refine lv_iconst (v := 0) hx hb dX2_lots_30 (by decide) ?_
      refine lv_istore_n (lv' := [(3, .int 0), (0, .ref a_this), (1, .int p1), (2, .int p2)]) hx hb dX2_lots_31 rfl hl (by decide) rfl (fun ls hl => ?_)
      refine lv_iconst (v := 0) hx hb dX2_lots_32 (by decide) ?_
      refine lv_istore (lv' := [(4, .int 0), (3, .int 0), (0, .ref a_this), (1, .int p1), (2, .int p2)]) hx hb dX2_lots_33 hl (by decide) rfl (fun ls hl => ?_)
      obtain ⟨q7, hq7, hf⟩ := rf_bindq hf
      refine key_35 f_this_refusals rf_fu 0 0 (upd g_this 3 p2) g_this_trial f_this_trial_kinds f_this_trial_thicks q7 hq7 _ _ _ hP hD hS (lv_sub hl [2, 3, 1, 0] rfl) (fun H locs ls hP hD hS hl => ?_)
      refine lv_iload_n hx hb dX2_lots_54 rfl (lv_at hl 2 rfl) ?_
      obtain rfl := Option.some.inj hf
      exact W.iret (v := q7.1) hx hb hr (fun t ht hW => ⟨⟨q7.1, (), rfl, rfl, rf_mk ht hP hD⟩, hS.F ht⟩) hS.2.2 dX2_lots_55
    · have hf := rf_ifn hf c6
      refine lv_aload_n hx hb dX2_lots_18 rfl (lv_at hl 0 rfl) ?_
      refine lv_bipush (v := (-6)) hx hb dX2_lots_19 (by decide) ?_
      obtain ⟨q8, hq8, hf⟩ := rf_bindq hf
      refine rf_Vi (As := [.int (-6)]) (rest := []) (wr := [(a_this_now, .inr (0, rf_o0 a_this_now_kinds a_this_now_thicks g_this_now)), (a_this_now_kinds, .inl (cA, 6, .inl f_this_now_kinds)), (a_this_now_thicks, .inl (cA, 6, .inl f_this_now_thicks)), (a_this_trial, .inr (0, rf_o0 a_this_trial_kinds a_this_trial_thicks g_this_trial)), (a_this_trial_kinds, .inl (cA, 6, .inl f_this_trial_kinds)), (a_this_trial_thicks, .inl (cA, 6, .inl f_this_trial_thicks))]) (wn := [(a_this, .inr (2, rf_o2 a_this_now a_this_then a_this_trial a_this_search a_this_letters a_this_numbers a_this_thickest a_this_refusals g_this)), (a_this_now, .inr (0, rf_o0 a_this_now_kinds a_this_now_thicks g_this_now)), (a_this_now_kinds, .inl (cA, 6, .inl f_this_now_kinds)), (a_this_now_thicks, .inl (cA, 6, .inl f_this_now_thicks)), (a_this_trial, .inr (0, rf_o0 a_this_trial_kinds a_this_trial_thicks g_this_trial)), (a_this_trial_kinds, .inl (cA, 6, .inl f_this_trial_kinds)), (a_this_trial_thicks, .inl (cA, 6, .inl f_this_trial_thicks)), (a_this_refusals, .inl (cA, 7, .inl q8.2))]) ⟨hx, hb, hml, hown, hts⟩ hK hP hD hS hA hE (c_X2_refuse l D cA ad a_this a_this_now a_this_then a_this_trial a_this_search a_this_letters a_this_numbers a_this_thickest a_this_refusals s.heap.size g_this f_this_refusals (-6) q8 hq8) (cwV 1 hts gX2_lots_X2_refuse rfl rfl rfl hv_X2_refuse ⟨Nat.le_of_ble_eq_true rfl, Nat.le_of_ble_eq_true rfl⟩) [0, 7] [1, 2, 3, 4, 5, 6] [6, 0, 1, 2, 3, 4, 5, 7] rfl rfl rfl rfl (by decide) rfl rfl 2 0 rfl rfl rfl rfl rfl hl.1 (Nat.le_of_ble_eq_true rfl) dX2_lots_21 ⟨Nat.zero_le _, Nat.zero_le _⟩ (fun H locs hP hD hS => ?_)
      obtain rfl := Option.some.inj hf
      exact W.iret (v := q8.1) hx hb hr (fun t ht hW => ⟨⟨q8.1, (), rfl, rfl, rf_mk ht hP hD⟩, hS.F ht⟩) hS.2.2 dX2_lots_24
  · have hf := rf_ifn hf c5
    refine lv_aload_n hx hb dX2_lots_5 rfl (lv_at hl 0 rfl) ?_
    refine lv_bipush (v := (-4)) hx hb dX2_lots_6 (by decide) ?_
    obtain ⟨q9, hq9, hf⟩ := rf_bindq hf
    refine rf_Vi (As := [.int (-4)]) (rest := []) (wr := [(a_this_now, .inr (0, rf_o0 a_this_now_kinds a_this_now_thicks g_this_now)), (a_this_now_kinds, .inl (cA, 6, .inl f_this_now_kinds)), (a_this_now_thicks, .inl (cA, 6, .inl f_this_now_thicks)), (a_this_trial, .inr (0, rf_o0 a_this_trial_kinds a_this_trial_thicks g_this_trial)), (a_this_trial_kinds, .inl (cA, 6, .inl f_this_trial_kinds)), (a_this_trial_thicks, .inl (cA, 6, .inl f_this_trial_thicks))]) (wn := [(a_this, .inr (2, rf_o2 a_this_now a_this_then a_this_trial a_this_search a_this_letters a_this_numbers a_this_thickest a_this_refusals g_this)), (a_this_now, .inr (0, rf_o0 a_this_now_kinds a_this_now_thicks g_this_now)), (a_this_now_kinds, .inl (cA, 6, .inl f_this_now_kinds)), (a_this_now_thicks, .inl (cA, 6, .inl f_this_now_thicks)), (a_this_trial, .inr (0, rf_o0 a_this_trial_kinds a_this_trial_thicks g_this_trial)), (a_this_trial_kinds, .inl (cA, 6, .inl f_this_trial_kinds)), (a_this_trial_thicks, .inl (cA, 6, .inl f_this_trial_thicks)), (a_this_refusals, .inl (cA, 7, .inl q9.2))]) ⟨hx, hb, hml, hown, hts⟩ hK hP hD hS hA hE (c_X2_refuse l D cA ad a_this a_this_now a_this_then a_this_trial a_this_search a_this_letters a_this_numbers a_this_thickest a_this_refusals s.heap.size g_this f_this_refusals (-4) q9 hq9) (cwV 1 hts gX2_lots_X2_refuse rfl rfl rfl hv_X2_refuse ⟨Nat.le_of_ble_eq_true rfl, Nat.le_of_ble_eq_true rfl⟩) [0, 7] [1, 2, 3, 4, 5, 6] [6, 0, 1, 2, 3, 4, 5, 7] rfl rfl rfl rfl (by decide) rfl rfl 2 0 rfl rfl rfl rfl rfl hl.1 (Nat.le_of_ble_eq_true rfl) dX2_lots_8 ⟨Nat.zero_le _, Nat.zero_le _⟩ (fun H locs hP hD hS => ?_)
    obtain rfl := Option.some.inj hf
    exact W.iret (v := q9.1) hx hb hr (fun t ht hW => ⟨⟨q9.1, (), rfl, rfl, rf_mk ht hP hD⟩, hS.F ht⟩) hS.2.2 dX2_lots_11
theorem kX2_image_0 : (.fieldLink RX2 16 "RingAndFinger" "then" "LRingAndFinger$Finger;" : Cond) ∈ wsX2_image := by decide +kernel
theorem kX2_image_1 : (.fieldLink RX2 10 "RingAndFinger" "now" "LRingAndFinger$Finger;" : Cond) ∈ wsX2_image := by decide +kernel
theorem kX2_image_2 : (.fieldLink RX2 49 "RingAndFinger" "imaged" "Z" : Cond) ∈ wsX2_image := by decide +kernel
theorem kX2_image_3 : (.fieldLink RX2 136 "RingAndFinger$Finger" "minute" "I" : Cond) ∈ wsX2_image := by decide +kernel
theorem jX2_image_X2 : ∀ w ∈ u_ws RX2 TX2 12, w ∈ wsX2_image := by decide +kernel
theorem jX2_image_X0 : ∀ w ∈ u_ws RX0 TX0 12, w ∈ wsX2_image := by decide +kernel
set_option maxHeartbeats 8000000 in
set_option maxRecDepth 100000 in
theorem c_X2_image (l : Launch) (D : va_G) (cA : ClassId) (ad : Nat → Nat) (a_this a_this_now a_this_then a_this_trial a_this_search a_this_letters a_this_numbers a_this_thickest a_this_refusals a_this_now_kinds a_this_now_thicks a_this_then_kinds a_this_then_thicks : Nat) (sz : Nat) (g_this g_this_now f_this_now_kinds f_this_now_thicks g_this_then f_this_then_kinds f_this_then_thicks : Nat → Int32) (q : Int32 × (Nat → Int32) × (Nat → Int32) × (Nat → Int32) × (Nat → Int32)) (hf : f_X2_image g_this g_this_now f_this_now_kinds f_this_now_thicks g_this_then f_this_then_kinds f_this_then_thicks = some q) : Met l yX2_image wsX2_image ({ frames := 2, cells := 0, slots := 0, locals := 81 } : Room) (va_Pc [.ref a_this] (rf_Pre D cA ad [(a_this, .inr (2, rf_o2 a_this_now a_this_then a_this_trial a_this_search a_this_letters a_this_numbers a_this_thickest a_this_refusals g_this)), (a_this_now, .inr (0, rf_o0 a_this_now_kinds a_this_now_thicks g_this_now)), (a_this_now_kinds, .inl (cA, 6, .inl f_this_now_kinds)), (a_this_now_thicks, .inl (cA, 6, .inl f_this_now_thicks)), (a_this_then, .inr (0, rf_o0 a_this_then_kinds a_this_then_thicks g_this_then)), (a_this_then_kinds, .inl (cA, 6, .inl f_this_then_kinds)), (a_this_then_thicks, .inl (cA, 6, .inl f_this_then_thicks))] sz)) (va_Qi (fun (r : Int32) (_ : Unit) => r = q.1) (fun _ t => rf_Post D (va_A [(a_this, .inr (2, rf_o2 a_this_now a_this_then a_this_trial a_this_search a_this_letters a_this_numbers a_this_thickest a_this_refusals g_this)), (a_this_now, .inr (0, rf_o0 a_this_now_kinds a_this_now_thicks g_this_now)), (a_this_now_kinds, .inl (cA, 6, .inl f_this_now_kinds)), (a_this_now_thicks, .inl (cA, 6, .inl f_this_now_thicks)), (a_this_then, .inr (0, rf_o0 a_this_then_kinds a_this_then_thicks g_this_then)), (a_this_then_kinds, .inl (cA, 6, .inl f_this_then_kinds)), (a_this_then_thicks, .inl (cA, 6, .inl f_this_then_thicks))] sz) [(a_this, .inr (2, rf_o2 a_this_now a_this_then a_this_trial a_this_search a_this_letters a_this_numbers a_this_thickest a_this_refusals q.2.1)), (a_this_now, .inr (0, rf_o0 a_this_now_kinds a_this_now_thicks g_this_now)), (a_this_now_kinds, .inl (cA, 6, .inl f_this_now_kinds)), (a_this_now_thicks, .inl (cA, 6, .inl f_this_now_thicks)), (a_this_then, .inr (0, rf_o0 a_this_then_kinds a_this_then_thicks q.2.2.1)), (a_this_then_kinds, .inl (cA, 6, .inl q.2.2.2.1)), (a_this_then_thicks, .inl (cA, 6, .inl q.2.2.2.2))] t) (va_A [(a_this, .inr (2, rf_o2 a_this_now a_this_then a_this_trial a_this_search a_this_letters a_this_numbers a_this_thickest a_this_refusals g_this)), (a_this_now, .inr (0, rf_o0 a_this_now_kinds a_this_now_thicks g_this_now)), (a_this_now_kinds, .inl (cA, 6, .inl f_this_now_kinds)), (a_this_now_thicks, .inl (cA, 6, .inl f_this_now_thicks)), (a_this_then, .inr (0, rf_o0 a_this_then_kinds a_this_then_thicks g_this_then)), (a_this_then_kinds, .inl (cA, 6, .inl f_this_then_kinds)), (a_this_then_thicks, .inl (cA, 6, .inl f_this_then_thicks))] sz)) 0 0 (va_A [(a_this, .inr (2, rf_o2 a_this_now a_this_then a_this_trial a_this_search a_this_letters a_this_numbers a_this_thickest a_this_refusals g_this)), (a_this_now, .inr (0, rf_o0 a_this_now_kinds a_this_now_thicks g_this_now)), (a_this_now_kinds, .inl (cA, 6, .inl f_this_now_kinds)), (a_this_now_thicks, .inl (cA, 6, .inl f_this_now_thicks)), (a_this_then, .inr (0, rf_o0 a_this_then_kinds a_this_then_thicks g_this_then)), (a_this_then_kinds, .inl (cA, 6, .inl f_this_then_kinds)), (a_this_then_thicks, .inl (cA, 6, .inl f_this_then_thicks))] sz) := by
  refine Met.ofW (cc := cX2_image) (maxL := 1) (ret := (some .int)) (by decide) rfl ?_
  intro p e s m args below meth c s₁ B hml hv
  obtain ⟨rfl, hsz, hP, hK, hD0, hE⟩ := hv
  have hx := B.exec
  have hb := B.bytes
  have hr := B.returns
  have hts := atoms_spec (ws := wsX2_image) B.pre
  have hown : s.vm.findClass RX2 = some m.cls := findClass_of_methodNamed B.named
  have hlocks := B.notSynchronized
  subst hsz
  have hD := hD0.self (sz := s.heap.size)
  generalize hAe : va_A [(a_this, .inr (2, rf_o2 a_this_now a_this_then a_this_trial a_this_search a_this_letters a_this_numbers a_this_thickest a_this_refusals g_this)), (a_this_now, .inr (0, rf_o0 a_this_now_kinds a_this_now_thicks g_this_now)), (a_this_now_kinds, .inl (cA, 6, .inl f_this_now_kinds)), (a_this_now_thicks, .inl (cA, 6, .inl f_this_now_thicks)), (a_this_then, .inr (0, rf_o0 a_this_then_kinds a_this_then_thicks g_this_then)), (a_this_then_kinds, .inl (cA, 6, .inl f_this_then_kinds)), (a_this_then_thicks, .inl (cA, 6, .inl f_this_then_thicks))] s.heap.size = A at hD hE ⊢
  have hA : ∀ q : Nat, s.heap.size ≤ q → A q := fun q h => by rw [← hAe]; exact Or.inr h
  have hS : va_S A s.heap s.heap [] := va_S.rf
  have hP : va_P D vwCl [(a_this, .inr (2, rf_o2 a_this_now a_this_then a_this_trial a_this_search a_this_letters a_this_numbers a_this_thickest a_this_refusals g_this)), (a_this_now, .inr (0, rf_o0 a_this_now_kinds a_this_now_thicks g_this_now)), (a_this_now_kinds, .inl (cA, 6, .inl f_this_now_kinds)), (a_this_now_thicks, .inl (cA, 6, .inl f_this_now_thicks)), (a_this_then, .inr (0, rf_o0 a_this_then_kinds a_this_then_thicks g_this_then)), (a_this_then_kinds, .inl (cA, 6, .inl f_this_then_kinds)), (a_this_then_thicks, .inl (cA, 6, .inl f_this_then_thicks))] s.heap := hP
  have hl := lv_entry ([.ref a_this]) (n := 1) (Nat.le_of_ble_eq_true rfl)
  rw [lg_entry_eq]
  generalize (lg_sl ([.ref a_this]) ++ List.replicate (1 - (lg_sl ([.ref a_this])).length) Slot.unset).toArray = ls at hl ⊢
  have hl : lv_has ls 1 [(0, .ref a_this)] := hl
  rw [f_X2_image] at hf
  refine lv_aload_n hx hb dX2_image_0 rfl (lv_at hl 0 rfl) ?_
  refine va_get (D := D) (ci := 2) (v := .ref a_this_then) (C := RX2) (T := TX2) (N := 12) hx hb hts jX2_image_X2 hown hK hP 0 rfl rfl 1 (by decide) (hts _ kX2_image_0) (fun _ h9 => h9) rfl dX2_image_1 ?_
  refine lv_aload_n hx hb dX2_image_4 rfl (lv_at hl 0 rfl) ?_
  refine va_get (D := D) (ci := 2) (v := .ref a_this_now) (C := RX2) (T := TX2) (N := 12) hx hb hts jX2_image_X2 hown hK hP 0 rfl rfl 0 (by decide) (hts _ kX2_image_1) (fun _ h9 => h9) rfl dX2_image_5 ?_
  obtain ⟨q1, hq1, hf⟩ := rf_bindq hf
  refine rf_Vv (As := [.ref a_this_now]) (rest := []) (wr := [(a_this, .inr (2, rf_o2 a_this_now a_this_then a_this_trial a_this_search a_this_letters a_this_numbers a_this_thickest a_this_refusals g_this))]) (wn := [(a_this, .inr (2, rf_o2 a_this_now a_this_then a_this_trial a_this_search a_this_letters a_this_numbers a_this_thickest a_this_refusals g_this)), (a_this_now, .inr (0, rf_o0 a_this_now_kinds a_this_now_thicks g_this_now)), (a_this_now_kinds, .inl (cA, 6, .inl f_this_now_kinds)), (a_this_now_thicks, .inl (cA, 6, .inl f_this_now_thicks)), (a_this_then, .inr (0, rf_o0 a_this_then_kinds a_this_then_thicks q1.1)), (a_this_then_kinds, .inl (cA, 6, .inl q1.2.1)), (a_this_then_thicks, .inl (cA, 6, .inl q1.2.2))]) ⟨hx, hb, hml, hown, hts⟩ hK hP hD hS hA hE (c_X0_copyFrom l D cA ad a_this_then a_this_then_kinds a_this_then_thicks a_this_now a_this_now_kinds a_this_now_thicks s.heap.size g_this_then f_this_then_kinds f_this_then_thicks g_this_now f_this_now_kinds f_this_now_thicks q1 hq1) (cwV 1 hts gX2_image_X0_copyFrom rfl rfl rfl hv_X0_copyFrom ⟨Nat.le_of_ble_eq_true rfl, Nat.le_of_ble_eq_true rfl⟩) [4, 5, 6, 1, 2, 3] [0] [0, 4, 5, 6, 1, 2, 3] rfl rfl rfl rfl (by decide) rfl rfl 0 4 rfl rfl rfl rfl rfl hl.1 (Nat.le_of_ble_eq_true rfl) dX2_image_8 ⟨Nat.zero_le _, Nat.zero_le _⟩ (fun H locs hP hD hS => ?_)
  refine lv_aload_n hx hb dX2_image_11 rfl (lv_at hl 0 rfl) ?_
  refine lv_iconst (v := 1) hx hb dX2_image_12 (by decide) ?_
  refine va_put (D := D) (ci := 2) (v := .int 1) (ty := .boolean) (C := RX2) (T := TX2) (N := 12) hx hb hts jX2_image_X2 tyX2 tyX2_ok nmX2 hown hK hP hD hS 0 rfl rfl 10 (by decide) (hts _ kX2_image_2) (fun _ h9 => h9) rfl (by decide +kernel) rfl rfl (Nat.le_of_ble_eq_true rfl) dX2_image_13 (fun H locs hP hD hS => ?_)
  have hP : va_P D vwCl [(a_this, .inr (2, rf_o2 a_this_now a_this_then a_this_trial a_this_search a_this_letters a_this_numbers a_this_thickest a_this_refusals (upd g_this 2 1))), (a_this_now, .inr (0, rf_o0 a_this_now_kinds a_this_now_thicks g_this_now)), (a_this_now_kinds, .inl (cA, 6, .inl f_this_now_kinds)), (a_this_now_thicks, .inl (cA, 6, .inl f_this_now_thicks)), (a_this_then, .inr (0, rf_o0 a_this_then_kinds a_this_then_thicks q1.1)), (a_this_then_kinds, .inl (cA, 6, .inl q1.2.1)), (a_this_then_thicks, .inl (cA, 6, .inl q1.2.2))] H := hP
  have hD : va_D A [(a_this, .inr (2, rf_o2 a_this_now a_this_then a_this_trial a_this_search a_this_letters a_this_numbers a_this_thickest a_this_refusals (upd g_this 2 1))), (a_this_now, .inr (0, rf_o0 a_this_now_kinds a_this_now_thicks g_this_now)), (a_this_now_kinds, .inl (cA, 6, .inl f_this_now_kinds)), (a_this_now_thicks, .inl (cA, 6, .inl f_this_now_thicks)), (a_this_then, .inr (0, rf_o0 a_this_then_kinds a_this_then_thicks q1.1)), (a_this_then_kinds, .inl (cA, 6, .inl q1.2.1)), (a_this_then_thicks, .inl (cA, 6, .inl q1.2.2))] := hD
  refine lv_aload_n hx hb dX2_image_16 rfl (lv_at hl 0 rfl) ?_
  refine va_get (D := D) (ci := 2) (v := .ref a_this_now) (C := RX2) (T := TX2) (N := 12) hx hb hts jX2_image_X2 hown hK hP 0 rfl rfl 0 (by decide) (hts _ kX2_image_1) (fun _ h9 => h9) rfl dX2_image_17 ?_
  refine va_get (D := D) (ci := 0) (v := .int (g_this_now 8)) (C := RX0) (T := TX0) (N := 12) hx hb hts jX2_image_X0 hown hK hP 1 rfl rfl 10 (by decide) (hts _ kX2_image_3) (fun _ h9 => h9) rfl dX2_image_20 ?_
  obtain rfl := Option.some.inj hf
  exact W.iret (v := (g_this_now 8)) hx hb hr (fun t ht hW => ⟨⟨(g_this_now 8), (), rfl, rfl, rf_mk ht hP hD⟩, hS.F ht⟩) hS.2.2 dX2_image_23
