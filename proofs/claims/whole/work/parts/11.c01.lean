theorem hs_X2_at : yX2_at.cls ≠ "java/lang/invoke/MethodHandle" ∧ yX2_at.cls ≠ "java/lang/invoke/VarHandle" ∧ (parseMethodDescriptor yX2_at.desc).map (fun d => d.parameters.length) = some 2 := by decide +kernel
theorem hv_X0_hasMinutes : yX0_hasMinutes.cls = RX0 ∧ yX0_hasMinutes.cls ≠ "java/lang/invoke/MethodHandle" ∧ yX0_hasMinutes.cls ≠ "java/lang/invoke/VarHandle" ∧ (parseMethodDescriptor yX0_hasMinutes.desc).map (fun d => d.parameters.length) = some 1 := by decide +kernel
theorem kX0_takePart_0 : (.fieldLink RX0 18 "RingAndFinger$Finger" "parts" "I" : Cond) ∈ wsX0_takePart := by decide +kernel
theorem kX0_takePart_1 : (.fieldLink RX0 9 "RingAndFinger$Finger" "kinds" "[I" : Cond) ∈ wsX0_takePart := by decide +kernel
theorem kX0_takePart_2 : (.initialized RX2 : Cond) ∈ wsX0_takePart := by decide +kernel
theorem kX0_takePart_3 : (.static yX2_put : Cond) ∈ wsX0_takePart := by decide +kernel
theorem kX0_takePart_4 : (.fieldLink RX0 15 "RingAndFinger$Finger" "thicks" "[I" : Cond) ∈ wsX0_takePart := by decide +kernel
theorem jX0_takePart_X0 : ∀ w ∈ u_ws RX0 TX0 12, w ∈ wsX0_takePart := by decide +kernel
set_option maxHeartbeats 8000000 in
set_option maxRecDepth 100000 in
theorem c_X0_takePart (l : Launch) (D : va_G) (cA : ClassId) (ad : Nat → Nat) (a_this a_this_kinds a_this_thicks : Nat) (sz : Nat) (g_this f_this_kinds f_this_thicks : Nat → Int32) (p1 p2 : Int32) (q : Int32 × (Nat → Int32) × (Nat → Int32) × (Nat → Int32)) (hf : f_X0_takePart g_this f_this_kinds f_this_thicks p1 p2 = some q) : Met l yX0_takePart wsX0_takePart ({ frames := 1, cells := 0, slots := 0, locals := 22 } : Room) (va_Pc [.ref a_this, .int p1, .int p2] (rf_Pre D cA ad [(a_this, .inr (0, rf_o0 a_this_kinds a_this_thicks g_this)), (a_this_kinds, .inl (cA, 6, .inl f_this_kinds)), (a_this_thicks, .inl (cA, 6, .inl f_this_thicks))] sz)) (va_Qi (fun (r : Int32) (_ : Unit) => r = q.1) (fun _ t => rf_Post D (va_A [(a_this, .inr (0, rf_o0 a_this_kinds a_this_thicks g_this)), (a_this_kinds, .inl (cA, 6, .inl f_this_kinds)), (a_this_thicks, .inl (cA, 6, .inl f_this_thicks))] sz) [(a_this, .inr (0, rf_o0 a_this_kinds a_this_thicks q.2.1)), (a_this_kinds, .inl (cA, 6, .inl q.2.2.1)), (a_this_thicks, .inl (cA, 6, .inl q.2.2.2))] t) (va_A [(a_this, .inr (0, rf_o0 a_this_kinds a_this_thicks g_this)), (a_this_kinds, .inl (cA, 6, .inl f_this_kinds)), (a_this_thicks, .inl (cA, 6, .inl f_this_thicks))] sz)) 0 0 (va_A [(a_this, .inr (0, rf_o0 a_this_kinds a_this_thicks g_this)), (a_this_kinds, .inl (cA, 6, .inl f_this_kinds)), (a_this_thicks, .inl (cA, 6, .inl f_this_thicks))] sz) := by
  refine Met.ofW (cc := cX0_takePart) (maxL := 4) (ret := (some .boolean)) (by decide) rfl ?_
  intro p e s m args below meth c s₁ B hml hv
  obtain ⟨rfl, hsz, hP, hK, hD0, hE⟩ := hv
  have hx := B.exec
  have hb := B.bytes
  have hr := B.returns
  have hts := atoms_spec (ws := wsX0_takePart) B.pre
  have hown : s.vm.findClass RX0 = some m.cls := findClass_of_methodNamed B.named
  have hlocks := B.notSynchronized
  subst hsz
  have hD := hD0.self (sz := s.heap.size)
  generalize hAe : va_A [(a_this, .inr (0, rf_o0 a_this_kinds a_this_thicks g_this)), (a_this_kinds, .inl (cA, 6, .inl f_this_kinds)), (a_this_thicks, .inl (cA, 6, .inl f_this_thicks))] s.heap.size = A at hD hE ⊢
  have hA : ∀ q : Nat, s.heap.size ≤ q → A q := fun q h => by rw [← hAe]; exact Or.inr h
  have hS : va_S A s.heap s.heap [] := va_S.rf
  have hP : va_P D vwCl [(a_this, .inr (0, rf_o0 a_this_kinds a_this_thicks g_this)), (a_this_kinds, .inl (cA, 6, .inl f_this_kinds)), (a_this_thicks, .inl (cA, 6, .inl f_this_thicks))] s.heap := hP
  have hl := lv_entry ([.ref a_this, .int p1, .int p2]) (n := 4) (Nat.le_of_ble_eq_true rfl)
  rw [lg_entry_eq]
  generalize (lg_sl ([.ref a_this, .int p1, .int p2]) ++ List.replicate (4 - (lg_sl ([.ref a_this, .int p1, .int p2])).length) Slot.unset).toArray = ls at hl ⊢
  have hl : lv_has ls 4 [(0, .ref a_this), (1, .int p1), (2, .int p2)] := hl
  rw [f_X0_takePart] at hf
  refine lv_aload_n hx hb dX0_takePart_0 rfl (lv_at hl 0 rfl) ?_
  refine va_get (D := D) (ci := 0) (v := .int (g_this 0)) (C := RX0) (T := TX0) (N := 12) hx hb hts jX0_takePart_X0 hown hK hP 0 rfl rfl 2 (by decide) (hts _ kX0_takePart_0) (fun _ h9 => h9) rfl dX0_takePart_1 ?_
  refine lv_if_le (tgt := 18) hx hb dX0_takePart_4 (by decide) (fun c1 => ?_) (fun c1 => ?_)
  · have hf := rf_ifp hf c1
    refine lv_iconst (v := 0) hx hb dX0_takePart_18 (by decide) ?_
    refine lv_istore_n (lv' := [(3, .int 0), (0, .ref a_this), (1, .int p1), (2, .int p2)]) hx hb dX0_takePart_19 rfl hl (by decide) rfl (fun ls hl => ?_)
    refine lv_iload_n hx hb dX0_takePart_20 rfl (lv_at hl 3 rfl) ?_
    refine lv_sipush (v := 240) hx hb dX0_takePart_21 (by decide) ?_
    refine lv_icmp_gt (tgt := 40) hx hb dX0_takePart_24 (by decide) (fun c2 => ?_) (fun c2 => ?_)
    · have hf := rf_ifp hf c2
      refine lv_iconst (v := 0) hx hb dX0_takePart_40 (by decide) ?_
      obtain rfl := Option.some.inj hf
      exact W.zret (v := 0) hx hb hr rfl (fun t ht hW => ⟨⟨0, (), rfl, rfl, rf_mk ht hP hD⟩, hS.F ht⟩) hS.2.2 dX0_takePart_41
    · have hf := rf_ifn hf c2
      refine lv_iload_n hx hb dX0_takePart_27 rfl (lv_at hl 0 rfl) ?_
      refine lv_if_ne (tgt := 40) hx hb dX0_takePart_28 (by decide) (fun c3 => ?_) (fun c3 => ?_)
      · exact absurd c3 (by decide)
      · refine lv_aload_n hx hb dX0_takePart_31 rfl (lv_at hl 1 rfl) ?_
        refine va_get (D := D) (ci := 0) (v := .int (g_this 0)) (C := RX0) (T := TX0) (N := 12) hx hb hts jX0_takePart_X0 hown hK hP 0 rfl rfl 2 (by decide) (hts _ kX0_takePart_0) (fun _ h9 => h9) rfl dX0_takePart_32 ?_
        refine lv_bipush (v := 6) hx hb dX0_takePart_35 (by decide) ?_
        refine lv_icmp_lt (tgt := 42) hx hb dX0_takePart_37 (by decide) (fun c4 => ?_) (fun c4 => ?_)
        · have hf := rf_ifp hf c4
          refine lv_aload_n hx hb dX0_takePart_42 rfl (lv_at hl 1 rfl) ?_
          refine va_get (D := D) (ci := 0) (v := .ref a_this_kinds) (C := RX0) (T := TX0) (N := 12) hx hb hts jX0_takePart_X0 hown hK hP 0 rfl rfl 0 (by decide) (hts _ kX0_takePart_1) (fun _ h9 => h9) rfl dX0_takePart_43 ?_
          refine lv_aload_n hx hb dX0_takePart_46 rfl (lv_at hl 1 rfl) ?_
          refine va_get (D := D) (ci := 0) (v := .int (g_this 0)) (C := RX0) (T := TX0) (N := 12) hx hb hts jX0_takePart_X0 hown hK hP 0 rfl rfl 2 (by decide) (hts _ kX0_takePart_0) (fun _ h9 => h9) rfl dX0_takePart_47 ?_
          refine lv_iload_n hx hb dX0_takePart_50 rfl (lv_at hl 2 rfl) ?_
          obtain ⟨q5, hq5, hf⟩ := rf_bindq hf
          refine rf_Nv (As := [.ref a_this_kinds, .int (g_this 0), .int p1]) (rest := []) (wr := [(a_this, .inr (0, rf_o0 a_this_kinds a_this_thicks g_this)), (a_this_thicks, .inl (cA, 6, .inl f_this_thicks))]) (wn := [(a_this, .inr (0, rf_o0 a_this_kinds a_this_thicks g_this)), (a_this_kinds, .inl (cA, 6, .inl q5)), (a_this_thicks, .inl (cA, 6, .inl f_this_thicks))]) ⟨hx, hb, hml, hown, hts⟩ hK hP hD hS hA hE (c_X2_put l D cA ad a_this_kinds s.heap.size 6 f_this_kinds (g_this 0) p1 q5 hq5) ⟨va_cnB (host := "RingAndFinger") 3 hts gX0_takePart_X2_put_n86 rfl rfl rfl (hE.1 3 _ rfl) (hts _ kX0_takePart_2) hn_X2_put ⟨Nat.le_of_ble_eq_true rfl, Nat.le_of_ble_eq_true rfl⟩, (hts _ kX0_takePart_3), trivial⟩ [1] [0, 2] [0, 2, 1] rfl rfl rfl rfl (by decide) rfl rfl rfl rfl hl.1 (Nat.le_of_ble_eq_true rfl) dX0_takePart_51 ⟨Nat.zero_le _, Nat.zero_le _⟩ (fun H locs hP hD hS => ?_)
          refine lv_aload_n hx hb dX0_takePart_54 rfl (lv_at hl 1 rfl) ?_
          refine va_get (D := D) (ci := 0) (v := .ref a_this_thicks) (C := RX0) (T := TX0) (N := 12) hx hb hts jX0_takePart_X0 hown hK hP 0 rfl rfl 1 (by decide) (hts _ kX0_takePart_4) (fun _ h9 => h9) rfl dX0_takePart_55 ?_
          refine lv_aload_n hx hb dX0_takePart_58 rfl (lv_at hl 1 rfl) ?_
          refine va_get (D := D) (ci := 0) (v := .int (g_this 0)) (C := RX0) (T := TX0) (N := 12) hx hb hts jX0_takePart_X0 hown hK hP 0 rfl rfl 2 (by decide) (hts _ kX0_takePart_0) (fun _ h9 => h9) rfl dX0_takePart_59 ?_
          refine lv_iload_n hx hb dX0_takePart_62 rfl (lv_at hl 3 rfl) ?_
          obtain ⟨q6, hq6, hf⟩ := rf_bindq hf
          refine rf_Nv (As := [.ref a_this_thicks, .int (g_this 0), .int p2]) (rest := []) (wr := [(a_this, .inr (0, rf_o0 a_this_kinds a_this_thicks g_this)), (a_this_kinds, .inl (cA, 6, .inl q5))]) (wn := [(a_this, .inr (0, rf_o0 a_this_kinds a_this_thicks g_this)), (a_this_kinds, .inl (cA, 6, .inl q5)), (a_this_thicks, .inl (cA, 6, .inl q6))]) ⟨hx, hb, hml, hown, hts⟩ hK hP hD hS hA hE (c_X2_put l D cA ad a_this_thicks H.size 6 f_this_thicks (g_this 0) p2 q6 hq6) ⟨va_cnB (host := "RingAndFinger") 3 hts gX0_takePart_X2_put_n86 rfl rfl rfl (hE.1 3 _ rfl) (hts _ kX0_takePart_2) hn_X2_put ⟨Nat.le_of_ble_eq_true rfl, Nat.le_of_ble_eq_true rfl⟩, (hts _ kX0_takePart_3), trivial⟩ [2] [0, 1] [0, 1, 2] rfl rfl rfl rfl (by decide) rfl rfl rfl rfl hl.1 (Nat.le_of_ble_eq_true rfl) dX0_takePart_63 ⟨Nat.zero_le _, Nat.zero_le _⟩ (fun H locs hP hD hS => ?_)
          refine lv_aload_n hx hb dX0_takePart_66 rfl (lv_at hl 1 rfl) ?_
          refine lv_dup hx hb dX0_takePart_67 rfl ?_
          refine va_get (D := D) (ci := 0) (v := .int (g_this 0)) (C := RX0) (T := TX0) (N := 12) hx hb hts jX0_takePart_X0 hown hK hP 0 rfl rfl 2 (by decide) (hts _ kX0_takePart_0) (fun _ h9 => h9) rfl dX0_takePart_68 ?_
          refine lv_iconst (v := 1) hx hb dX0_takePart_71 (by decide) ?_
          refine lv_iadd hx hb dX0_takePart_72 ?_
          refine lv_topi (fun v7 ev7 => ?_)
          have hf := rf_bindv hf ev7
          clear ev7
          refine va_put (D := D) (ci := 0) (v := .int v7) (ty := .int) (C := RX0) (T := TX0) (N := 12) hx hb hts jX0_takePart_X0 tyX0 tyX0_ok nmX0 hown hK hP hD hS 0 rfl rfl 2 (by decide) (hts _ kX0_takePart_0) (fun _ h9 => h9) rfl (by decide +kernel) rfl rfl (Nat.le_of_ble_eq_true rfl) dX0_takePart_73 (fun H locs hP hD hS => ?_)
          have hP : va_P D vwCl [(a_this, .inr (0, rf_o0 a_this_kinds a_this_thicks (upd g_this 0 v7))), (a_this_kinds, .inl (cA, 6, .inl q5)), (a_this_thicks, .inl (cA, 6, .inl q6))] H := hP
          have hD : va_D A [(a_this, .inr (0, rf_o0 a_this_kinds a_this_thicks (upd g_this 0 v7))), (a_this_kinds, .inl (cA, 6, .inl q5)), (a_this_thicks, .inl (cA, 6, .inl q6))] := hD
          refine lv_iconst (v := 1) hx hb dX0_takePart_76 (by decide) ?_
          obtain rfl := Option.some.inj hf
          exact W.zret (v := 1) hx hb hr rfl (fun t ht hW => ⟨⟨1, (), rfl, rfl, rf_mk ht hP hD⟩, hS.F ht⟩) hS.2.2 dX0_takePart_77
        · have hf := rf_ifn hf c4
          refine lv_iconst (v := 0) hx hb dX0_takePart_40 (by decide) ?_
          obtain rfl := Option.some.inj hf
          exact W.zret (v := 0) hx hb hr rfl (fun t ht hW => ⟨⟨0, (), rfl, rfl, rf_mk ht hP hD⟩, hS.F ht⟩) hS.2.2 dX0_takePart_41
  · have hf := rf_ifn hf c1
    refine lv_aload_n hx hb dX0_takePart_7 rfl (lv_at hl 0 rfl) ?_
    obtain ⟨q8, hq8, hf⟩ := rf_bindq hf
    refine rf_Vi (As := []) (rest := []) (wr := [(a_this_kinds, .inl (cA, 6, .inl f_this_kinds)), (a_this_thicks, .inl (cA, 6, .inl f_this_thicks))]) (wn := [(a_this, .inr (0, rf_o0 a_this_kinds a_this_thicks g_this)), (a_this_kinds, .inl (cA, 6, .inl f_this_kinds)), (a_this_thicks, .inl (cA, 6, .inl f_this_thicks))]) ⟨hx, hb, hml, hown, hts⟩ hK hP hD hS hA hE (c_X0_isOff l D cA ad a_this a_this_kinds a_this_thicks s.heap.size g_this q8 hq8) (cwV 0 hts gX0_takePart_X0_isOff rfl rfl rfl hv_X0_isOff ⟨Nat.le_of_ble_eq_true rfl, Nat.le_of_ble_eq_true rfl⟩) [0] [1, 2] [2, 0, 1] rfl rfl rfl rfl (by decide) rfl rfl 0 0 rfl rfl rfl rfl rfl hl.1 (Nat.le_of_ble_eq_true rfl) dX0_takePart_8 ⟨Nat.zero_le _, Nat.zero_le _⟩ (fun H locs hP hD hS => ?_)
    refine lv_if_eq (tgt := 18) hx hb dX0_takePart_11 (by decide) (fun c9 => ?_) (fun c9 => ?_)
    · have hf := rf_ifp hf c9
      refine lv_iconst (v := 0) hx hb dX0_takePart_18 (by decide) ?_
      refine lv_istore_n (lv' := [(3, .int 0), (0, .ref a_this), (1, .int p1), (2, .int p2)]) hx hb dX0_takePart_19 rfl hl (by decide) rfl (fun ls hl => ?_)
      refine lv_iload_n hx hb dX0_takePart_20 rfl (lv_at hl 3 rfl) ?_
      refine lv_sipush (v := 240) hx hb dX0_takePart_21 (by decide) ?_
      refine lv_icmp_gt (tgt := 40) hx hb dX0_takePart_24 (by decide) (fun c10 => ?_) (fun c10 => ?_)
      · have hf := rf_ifp hf c10
        refine lv_iconst (v := 0) hx hb dX0_takePart_40 (by decide) ?_
        obtain rfl := Option.some.inj hf
        exact W.zret (v := 0) hx hb hr rfl (fun t ht hW => ⟨⟨0, (), rfl, rfl, rf_mk ht hP hD⟩, hS.F ht⟩) hS.2.2 dX0_takePart_41
      · have hf := rf_ifn hf c10
        refine lv_iload_n hx hb dX0_takePart_27 rfl (lv_at hl 0 rfl) ?_
        refine lv_if_ne (tgt := 40) hx hb dX0_takePart_28 (by decide) (fun c11 => ?_) (fun c11 => ?_)
        · exact absurd c11 (by decide)
        · refine lv_aload_n hx hb dX0_takePart_31 rfl (lv_at hl 1 rfl) ?_
          refine va_get (D := D) (ci := 0) (v := .int (g_this 0)) (C := RX0) (T := TX0) (N := 12) hx hb hts jX0_takePart_X0 hown hK hP 0 rfl rfl 2 (by decide) (hts _ kX0_takePart_0) (fun _ h9 => h9) rfl dX0_takePart_32 ?_
          refine lv_bipush (v := 6) hx hb dX0_takePart_35 (by decide) ?_
          refine lv_icmp_lt (tgt := 42) hx hb dX0_takePart_37 (by decide) (fun c12 => ?_) (fun c12 => ?_)
          · have hf := rf_ifp hf c12
            refine lv_aload_n hx hb dX0_takePart_42 rfl (lv_at hl 1 rfl) ?_
            refine va_get (D := D) (ci := 0) (v := .ref a_this_kinds) (C := RX0) (T := TX0) (N := 12) hx hb hts jX0_takePart_X0 hown hK hP 0 rfl rfl 0 (by decide) (hts _ kX0_takePart_1) (fun _ h9 => h9) rfl dX0_takePart_43 ?_
            refine lv_aload_n hx hb dX0_takePart_46 rfl (lv_at hl 1 rfl) ?_
            refine va_get (D := D) (ci := 0) (v := .int (g_this 0)) (C := RX0) (T := TX0) (N := 12) hx hb hts jX0_takePart_X0 hown hK hP 0 rfl rfl 2 (by decide) (hts _ kX0_takePart_0) (fun _ h9 => h9) rfl dX0_takePart_47 ?_
            refine lv_iload_n hx hb dX0_takePart_50 rfl (lv_at hl 2 rfl) ?_
            obtain ⟨q13, hq13, hf⟩ := rf_bindq hf
            refine rf_Nv (As := [.ref a_this_kinds, .int (g_this 0), .int p1]) (rest := []) (wr := [(a_this, .inr (0, rf_o0 a_this_kinds a_this_thicks g_this)), (a_this_thicks, .inl (cA, 6, .inl f_this_thicks))]) (wn := [(a_this, .inr (0, rf_o0 a_this_kinds a_this_thicks g_this)), (a_this_kinds, .inl (cA, 6, .inl q13)), (a_this_thicks, .inl (cA, 6, .inl f_this_thicks))]) ⟨hx, hb, hml, hown, hts⟩ hK hP hD hS hA hE (c_X2_put l D cA ad a_this_kinds H.size 6 f_this_kinds (g_this 0) p1 q13 hq13) ⟨va_cnB (host := "RingAndFinger") 3 hts gX0_takePart_X2_put_n86 rfl rfl rfl (hE.1 3 _ rfl) (hts _ kX0_takePart_2) hn_X2_put ⟨Nat.le_of_ble_eq_true rfl, Nat.le_of_ble_eq_true rfl⟩, (hts _ kX0_takePart_3), trivial⟩ [1] [0, 2] [0, 2, 1] rfl rfl rfl rfl (by decide) rfl rfl rfl rfl hl.1 (Nat.le_of_ble_eq_true rfl) dX0_takePart_51 ⟨Nat.zero_le _, Nat.zero_le _⟩ (fun H locs hP hD hS => ?_)
            refine lv_aload_n hx hb dX0_takePart_54 rfl (lv_at hl 1 rfl) ?_
            refine va_get (D := D) (ci := 0) (v := .ref a_this_thicks) (C := RX0) (T := TX0) (N := 12) hx hb hts jX0_takePart_X0 hown hK hP 0 rfl rfl 1 (by decide) (hts _ kX0_takePart_4) (fun _ h9 => h9) rfl dX0_takePart_55 ?_
            refine lv_aload_n hx hb dX0_takePart_58 rfl (lv_at hl 1 rfl) ?_
            refine va_get (D := D) (ci := 0) (v := .int (g_this 0)) (C := RX0) (T := TX0) (N := 12) hx hb hts jX0_takePart_X0 hown hK hP 0 rfl rfl 2 (by decide) (hts _ kX0_takePart_0) (fun _ h9 => h9) rfl dX0_takePart_59 ?_
            refine lv_iload_n hx hb dX0_takePart_62 rfl (lv_at hl 3 rfl) ?_
            obtain ⟨q14, hq14, hf⟩ := rf_bindq hf
            refine rf_Nv (As := [.ref a_this_thicks, .int (g_this 0), .int p2]) (rest := []) (wr := [(a_this, .inr (0, rf_o0 a_this_kinds a_this_thicks g_this)), (a_this_kinds, .inl (cA, 6, .inl q13))]) (wn := [(a_this, .inr (0, rf_o0 a_this_kinds a_this_thicks g_this)), (a_this_kinds, .inl (cA, 6, .inl q13)), (a_this_thicks, .inl (cA, 6, .inl q14))]) ⟨hx, hb, hml, hown, hts⟩ hK hP hD hS hA hE (c_X2_put l D cA ad a_this_thicks H.size 6 f_this_thicks (g_this 0) p2 q14 hq14) ⟨va_cnB (host := "RingAndFinger") 3 hts gX0_takePart_X2_put_n86 rfl rfl rfl (hE.1 3 _ rfl) (hts _ kX0_takePart_2) hn_X2_put ⟨Nat.le_of_ble_eq_true rfl, Nat.le_of_ble_eq_true rfl⟩, (hts _ kX0_takePart_3), trivial⟩ [2] [0, 1] [0, 1, 2] rfl rfl rfl rfl (by decide) rfl rfl rfl rfl hl.1 (Nat.le_of_ble_eq_true rfl) dX0_takePart_63 ⟨Nat.zero_le _, Nat.zero_le _⟩ (fun H locs hP hD hS => ?_)
            refine lv_aload_n hx hb dX0_takePart_66 rfl (lv_at hl 1 rfl) ?_
            refine lv_dup hx hb dX0_takePart_67 rfl ?_
            refine va_get (D := D) (ci := 0) (v := .int (g_this 0)) (C := RX0) (T := TX0) (N := 12) hx hb hts jX0_takePart_X0 hown hK hP 0 rfl rfl 2 (by decide) (hts _ kX0_takePart_0) (fun _ h9 => h9) rfl dX0_takePart_68 ?_
            refine lv_iconst (v := 1) hx hb dX0_takePart_71 (by decide) ?_
            refine lv_iadd hx hb dX0_takePart_72 ?_
            refine lv_topi (fun v15 ev15 => ?_)
            have hf := rf_bindv hf ev15
            clear ev15
            refine va_put (D := D) (ci := 0) (v := .int v15) (ty := .int) (C := RX0) (T := TX0) (N := 12) hx hb hts jX0_takePart_X0 tyX0 tyX0_ok nmX0 hown hK hP hD hS 0 rfl rfl 2 (by decide) (hts _ kX0_takePart_0) (fun _ h9 => h9) rfl (by decide +kernel) rfl rfl (Nat.le_of_ble_eq_true rfl) dX0_takePart_73 (fun H locs hP hD hS => ?_)
            have hP : va_P D vwCl [(a_this, .inr (0, rf_o0 a_this_kinds a_this_thicks (upd g_this 0 v15))), (a_this_kinds, .inl (cA, 6, .inl q13)), (a_this_thicks, .inl (cA, 6, .inl q14))] H := hP
            have hD : va_D A [(a_this, .inr (0, rf_o0 a_this_kinds a_this_thicks (upd g_this 0 v15))), (a_this_kinds, .inl (cA, 6, .inl q13)), (a_this_thicks, .inl (cA, 6, .inl q14))] := hD
            refine lv_iconst (v := 1) hx hb dX0_takePart_76 (by decide) ?_
            obtain rfl := Option.some.inj hf
            exact W.zret (v := 1) hx hb hr rfl (fun t ht hW => ⟨⟨1, (), rfl, rfl, rf_mk ht hP hD⟩, hS.F ht⟩) hS.2.2 dX0_takePart_77
          · have hf := rf_ifn hf c12
            refine lv_iconst (v := 0) hx hb dX0_takePart_40 (by decide) ?_
            obtain rfl := Option.some.inj hf
            exact W.zret (v := 0) hx hb hr rfl (fun t ht hW => ⟨⟨0, (), rfl, rfl, rf_mk ht hP hD⟩, hS.F ht⟩) hS.2.2 dX0_takePart_41
    · have hf := rf_ifn hf c9
      refine lv_iconst (v := 1) hx hb dX0_takePart_14 (by decide) ?_
      refine lv_goto (tgt := 19) hx hb dX0_takePart_15 (by decide) ?_
      refine lv_istore_n (lv' := [(3, .int 1), (0, .ref a_this), (1, .int p1), (2, .int p2)]) hx hb dX0_takePart_19 rfl hl (by decide) rfl (fun ls hl => ?_)
      refine lv_iload_n hx hb dX0_takePart_20 rfl (lv_at hl 3 rfl) ?_
      refine lv_sipush (v := 240) hx hb dX0_takePart_21 (by decide) ?_
      refine lv_icmp_gt (tgt := 40) hx hb dX0_takePart_24 (by decide) (fun c16 => ?_) (fun c16 => ?_)
      · have hf := rf_ifp hf c16
        refine lv_iconst (v := 0) hx hb dX0_takePart_40 (by decide) ?_
        obtain rfl := Option.some.inj hf
        exact W.zret (v := 0) hx hb hr rfl (fun t ht hW => ⟨⟨0, (), rfl, rfl, rf_mk ht hP hD⟩, hS.F ht⟩) hS.2.2 dX0_takePart_41
      · have hf := rf_ifn hf c16
        refine lv_iload_n hx hb dX0_takePart_27 rfl (lv_at hl 0 rfl) ?_
        refine lv_if_ne (tgt := 40) hx hb dX0_takePart_28 (by decide) (fun c17 => ?_) (fun c17 => ?_)
        · refine lv_iconst (v := 0) hx hb dX0_takePart_40 (by decide) ?_
          obtain rfl := Option.some.inj hf
          exact W.zret (v := 0) hx hb hr rfl (fun t ht hW => ⟨⟨0, (), rfl, rfl, rf_mk ht hP hD⟩, hS.F ht⟩) hS.2.2 dX0_takePart_41
        · exact absurd c17 (by decide)
theorem kX0_takeTry_0 : (.initialized RX2 : Cond) ∈ wsX0_takeTry := by decide +kernel
theorem kX0_takeTry_1 : (.static yX2_isTry : Cond) ∈ wsX0_takeTry := by decide +kernel
theorem kX0_takeTry_2 : (.static yX2_at : Cond) ∈ wsX0_takeTry := by decide +kernel
set_option maxHeartbeats 8000000 in
set_option maxRecDepth 100000 in
theorem c_X0_takeTry (l : Launch) (D : va_G) (cA : ClassId) (ad : Nat → Nat) (a_this a_this_kinds a_this_thicks : Nat) (sz : Nat) (g_this f_this_kinds f_this_thicks : Nat → Int32) (p1 : Int32) (q : Int32 × (Nat → Int32)) (hf : f_X0_takeTry g_this f_this_kinds f_this_thicks p1 = some q) : Met l yX0_takeTry wsX0_takeTry ({ frames := 4, cells := 0, slots := 0, locals := 91 } : Room) (va_Pc [.ref a_this, .int p1] (rf_Pre D cA ad [(a_this, .inr (0, rf_o0 a_this_kinds a_this_thicks g_this)), (a_this_kinds, .inl (cA, 6, .inl f_this_kinds)), (a_this_thicks, .inl (cA, 6, .inl f_this_thicks))] sz)) (va_Qi (fun (r : Int32) (_ : Unit) => r = q.1) (fun _ t => rf_Post D (va_A [(a_this, .inr (0, rf_o0 a_this_kinds a_this_thicks g_this)), (a_this_kinds, .inl (cA, 6, .inl f_this_kinds)), (a_this_thicks, .inl (cA, 6, .inl f_this_thicks))] sz) [(a_this, .inr (0, rf_o0 a_this_kinds a_this_thicks q.2)), (a_this_kinds, .inl (cA, 6, .inl f_this_kinds)), (a_this_thicks, .inl (cA, 6, .inl f_this_thicks))] t) (va_A [(a_this, .inr (0, rf_o0 a_this_kinds a_this_thicks g_this)), (a_this_kinds, .inl (cA, 6, .inl f_this_kinds)), (a_this_thicks, .inl (cA, 6, .inl f_this_thicks))] sz)) 0 0 (va_A [(a_this, .inr (0, rf_o0 a_this_kinds a_this_thicks g_this)), (a_this_kinds, .inl (cA, 6, .inl f_this_kinds)), (a_this_thicks, .inl (cA, 6, .inl f_this_thicks))] sz) := by
  refine Met.ofW (cc := cX0_takeTry) (maxL := 2) (ret := (some .boolean)) (by decide) rfl ?_
  intro p e s m args below meth c s₁ B hml hv
  obtain ⟨rfl, hsz, hP, hK, hD0, hE⟩ := hv
  have hx := B.exec
  have hb := B.bytes
  have hr := B.returns
  have hts := atoms_spec (ws := wsX0_takeTry) B.pre
  have hown : s.vm.findClass RX0 = some m.cls := findClass_of_methodNamed B.named
  have hlocks := B.notSynchronized
  subst hsz
  have hD := hD0.self (sz := s.heap.size)
  generalize hAe : va_A [(a_this, .inr (0, rf_o0 a_this_kinds a_this_thicks g_this)), (a_this_kinds, .inl (cA, 6, .inl f_this_kinds)), (a_this_thicks, .inl (cA, 6, .inl f_this_thicks))] s.heap.size = A at hD hE ⊢
  have hA : ∀ q : Nat, s.heap.size ≤ q → A q := fun q h => by rw [← hAe]; exact Or.inr h
  have hS : va_S A s.heap s.heap [] := va_S.rf
  have hP : va_P D vwCl [(a_this, .inr (0, rf_o0 a_this_kinds a_this_thicks g_this)), (a_this_kinds, .inl (cA, 6, .inl f_this_kinds)), (a_this_thicks, .inl (cA, 6, .inl f_this_thicks))] s.heap := hP
  have hl := lv_entry ([.ref a_this, .int p1]) (n := 2) (Nat.le_of_ble_eq_true rfl)
  rw [lg_entry_eq]
  generalize (lg_sl ([.ref a_this, .int p1]) ++ List.replicate (2 - (lg_sl ([.ref a_this, .int p1])).length) Slot.unset).toArray = ls at hl ⊢
  have hl : lv_has ls 2 [(0, .ref a_this), (1, .int p1)] := hl
  rw [f_X0_takeTry] at hf
  refine lv_iload_n hx hb dX0_takeTry_0 rfl (lv_at hl 1 rfl) ?_
  obtain ⟨q1, hq1, hf⟩ := rf_bindq hf
  refine rf_Ni (As := [.int p1]) (rest := []) (wr := [(a_this, .inr (0, rf_o0 a_this_kinds a_this_thicks g_this)), (a_this_kinds, .inl (cA, 6, .inl f_this_kinds)), (a_this_thicks, .inl (cA, 6, .inl f_this_thicks))]) (wn := [(a_this, .inr (0, rf_o0 a_this_kinds a_this_thicks g_this)), (a_this_kinds, .inl (cA, 6, .inl f_this_kinds)), (a_this_thicks, .inl (cA, 6, .inl f_this_thicks))]) ⟨hx, hb, hml, hown, hts⟩ hK hP hD hS hA hE (c_X2_isTry l D cA ad s.heap.size p1 q1 hq1) ⟨va_cnB (host := "RingAndFinger") 1 hts gX0_takeTry_X2_isTry_n107 rfl rfl rfl (hE.1 4 _ rfl) (hts _ kX0_takeTry_0) hn_X2_isTry ⟨Nat.le_of_ble_eq_true rfl, Nat.le_of_ble_eq_true rfl⟩, (hts _ kX0_takeTry_1), trivial⟩ [] [0, 1, 2] [0, 1, 2] rfl rfl rfl rfl (by decide) rfl rfl rfl rfl hl.1 (Nat.le_of_ble_eq_true rfl) dX0_takeTry_1 ⟨Nat.zero_le _, Nat.zero_le _⟩ (fun H locs hP hD hS => ?_)
  refine lv_if_eq (tgt := 28) hx hb dX0_takeTry_4 (by decide) (fun c2 => ?_) (fun c2 => ?_)
  · have hf := rf_ifp hf c2
    refine lv_iconst (v := 0) hx hb dX0_takeTry_28 (by decide) ?_
    obtain rfl := Option.some.inj hf
    exact W.zret (v := 0) hx hb hr rfl (fun t ht hW => ⟨⟨0, (), rfl, rfl, rf_mk ht hP hD⟩, hS.F ht⟩) hS.2.2 dX0_takeTry_29
  · have hf := rf_ifn hf c2
    refine lv_aload_n hx hb dX0_takeTry_7 rfl (lv_at hl 0 rfl) ?_
    obtain ⟨q3, hq3, hf⟩ := rf_bindq hf
    refine rf_Vi (As := []) (rest := []) (wr := [(a_this_kinds, .inl (cA, 6, .inl f_this_kinds)), (a_this_thicks, .inl (cA, 6, .inl f_this_thicks))]) (wn := [(a_this, .inr (0, rf_o0 a_this_kinds a_this_thicks g_this)), (a_this_kinds, .inl (cA, 6, .inl f_this_kinds)), (a_this_thicks, .inl (cA, 6, .inl f_this_thicks))]) ⟨hx, hb, hml, hown, hts⟩ hK hP hD hS hA hE (c_X0_isOff l D cA ad a_this a_this_kinds a_this_thicks H.size g_this q3 hq3) (cwV 0 hts gX0_takeTry_X0_isOff rfl rfl rfl hv_X0_isOff ⟨Nat.le_of_ble_eq_true rfl, Nat.le_of_ble_eq_true rfl⟩) [0] [1, 2] [2, 0, 1] rfl rfl rfl rfl (by decide) rfl rfl 0 0 rfl rfl rfl rfl rfl hl.1 (Nat.le_of_ble_eq_true rfl) dX0_takeTry_8 ⟨Nat.zero_le _, Nat.zero_le _⟩ (fun H locs hP hD hS => ?_)
    refine lv_if_ne (tgt := 28) hx hb dX0_takeTry_11 (by decide) (fun c4 => ?_) (fun c4 => ?_)
    · have hf := rf_ifn hf c4
      refine lv_iconst (v := 0) hx hb dX0_takeTry_28 (by decide) ?_
      obtain rfl := Option.some.inj hf
      exact W.zret (v := 0) hx hb hr rfl (fun t ht hW => ⟨⟨0, (), rfl, rfl, rf_mk ht hP hD⟩, hS.F ht⟩) hS.2.2 dX0_takeTry_29
    · have hf := rf_ifp hf c4
      refine lv_aload_n hx hb dX0_takeTry_14 rfl (lv_at hl 0 rfl) ?_
      refine va_getsN (v := .ref (ad 2)) (host := "RingAndFinger") hx hb (hE.2.2 2 _ rfl).1 hS hown (va_Nw.use rfl (hE.2.1 2 _ rfl)) (fun _ h9 => h9) dX0_takeTry_15 ?_
      refine lv_iload_n hx hb dX0_takeTry_18 rfl (lv_at hl 1 rfl) ?_
      obtain ⟨q5, hq5, hf⟩ := rf_bindq hf
      refine rf_NiT (As := [.ref (ad 2), .int p1]) (rest := [.ref a_this]) ⟨hx, hb, hml, hown, hts⟩ hK hP hD hS hA hE (c_X2_at_T l D cA ad (ad 2) H.size 8 rf_a2 p1 q5 hq5) ⟨va_cnB (host := "RingAndFinger") 2 hts gX0_takeTry_X2_at_n55 rfl rfl rfl (hE.1 0 _ rfl) (hts _ kX0_takeTry_0) hn_X2_at ⟨Nat.le_of_ble_eq_true rfl, Nat.le_of_ble_eq_true rfl⟩, (hts _ kX0_takeTry_2), trivial⟩ rfl rfl hl.1 (Nat.le_of_ble_eq_true rfl) dX0_takeTry_19 ⟨Nat.zero_le _, Nat.zero_le _⟩ (hE.2.2 2 _ rfl).2 (fun H locs hP hD hS => ?_)
      obtain ⟨q6, hq6, hf⟩ := rf_bindq hf
      refine rf_Vi (As := [.int q5]) (rest := []) (wr := [(a_this_kinds, .inl (cA, 6, .inl f_this_kinds)), (a_this_thicks, .inl (cA, 6, .inl f_this_thicks))]) (wn := [(a_this, .inr (0, rf_o0 a_this_kinds a_this_thicks g_this)), (a_this_kinds, .inl (cA, 6, .inl f_this_kinds)), (a_this_thicks, .inl (cA, 6, .inl f_this_thicks))]) ⟨hx, hb, hml, hown, hts⟩ hK hP hD hS hA hE (c_X0_hasMinutes l D cA ad a_this a_this_kinds a_this_thicks H.size g_this q5 q6 hq6) (cwV 1 hts gX0_takeTry_X0_hasMinutes rfl rfl rfl hv_X0_hasMinutes ⟨Nat.le_of_ble_eq_true rfl, Nat.le_of_ble_eq_true rfl⟩) [0] [1, 2] [2, 0, 1] rfl rfl rfl rfl (by decide) rfl rfl 0 0 rfl rfl rfl rfl rfl hl.1 (Nat.le_of_ble_eq_true rfl) dX0_takeTry_22 ⟨Nat.zero_le _, Nat.zero_le _⟩ (fun H locs hP hD hS => ?_)
      refine lv_if_ne (tgt := 30) hx hb dX0_takeTry_25 (by decide) (fun c7 => ?_) (fun c7 => ?_)
      · have hf := rf_ifn hf c7
        refine lv_aload_n hx hb dX0_takeTry_30 rfl (lv_at hl 0 rfl) ?_
        refine lv_iload_n hx hb dX0_takeTry_31 rfl (lv_at hl 1 rfl) ?_
        obtain ⟨q8, hq8, hf⟩ := rf_bindq hf
        refine rf_Vi (As := [.int p1]) (rest := []) (wr := []) (wn := [(a_this, .inr (0, rf_o0 a_this_kinds a_this_thicks q8.2)), (a_this_kinds, .inl (cA, 6, .inl f_this_kinds)), (a_this_thicks, .inl (cA, 6, .inl f_this_thicks))]) ⟨hx, hb, hml, hown, hts⟩ hK hP hD hS hA hE (c_X0_attempt l D cA ad a_this a_this_kinds a_this_thicks H.size g_this f_this_kinds f_this_thicks p1 q8 hq8) (cwV 1 hts gX0_takeTry_X0_attempt rfl rfl rfl hv_X0_attempt ⟨Nat.le_of_ble_eq_true rfl, Nat.le_of_ble_eq_true rfl⟩) [0, 1, 2] [] [0, 1, 2] rfl rfl rfl rfl (by decide) rfl rfl 0 0 rfl rfl rfl rfl rfl hl.1 (Nat.le_of_ble_eq_true rfl) dX0_takeTry_32 ⟨Nat.zero_le _, Nat.zero_le _⟩ (fun H locs hP hD hS => ?_)
        refine lv_pop hx hb dX0_takeTry_35 rfl ?_
        refine lv_iconst (v := 1) hx hb dX0_takeTry_36 (by decide) ?_
        obtain rfl := Option.some.inj hf
        exact W.zret (v := 1) hx hb hr rfl (fun t ht hW => ⟨⟨1, (), rfl, rfl, rf_mk ht hP hD⟩, hS.F ht⟩) hS.2.2 dX0_takeTry_37
      · have hf := rf_ifp hf c7
        refine lv_iconst (v := 0) hx hb dX0_takeTry_28 (by decide) ?_
        obtain rfl := Option.some.inj hf
        exact W.zret (v := 0) hx hb hr rfl (fun t ht hW => ⟨⟨0, (), rfl, rfl, rf_mk ht hP hD⟩, hS.F ht⟩) hS.2.2 dX0_takeTry_29

set_option maxHeartbeats 8000000 in
set_option maxRecDepth 100000 in
theorem c_X0_takeWait (l : Launch) (D : va_G) (cA : ClassId) (ad : Nat → Nat) (a_this a_this_kinds a_this_thicks : Nat) (sz : Nat) (g_this : Nat → Int32) (p1 : Int32) (q : Int32 × (Nat → Int32)) (hf : f_X0_takeWait g_this p1 = some q) : Met l yX0_takeWait wsX0_takeWait ({ frames := 2, cells := 0, slots := 0, locals := 42 } : Room) (va_Pc [.ref a_this, .int p1] (rf_Pre D cA ad [(a_this, .inr (0, rf_o0 a_this_kinds a_this_thicks g_this))] sz)) (va_Qi (fun (r : Int32) (_ : Unit) => r = q.1) (fun _ t => rf_Post D (va_A [(a_this, .inr (0, rf_o0 a_this_kinds a_this_thicks g_this))] sz) [(a_this, .inr (0, rf_o0 a_this_kinds a_this_thicks q.2))] t) (va_A [(a_this, .inr (0, rf_o0 a_this_kinds a_this_thicks g_this))] sz)) 0 0 (va_A [(a_this, .inr (0, rf_o0 a_this_kinds a_this_thicks g_this))] sz) := by
  refine Met.ofW (cc := cX0_takeWait) (maxL := 2) (ret := (some .boolean)) (by decide) rfl ?_
  intro p e s m args below meth c s₁ B hml hv
  obtain ⟨rfl, hsz, hP, hK, hD0, hE⟩ := hv
  have hx := B.exec
  have hb := B.bytes
  have hr := B.returns
  have hts := atoms_spec (ws := wsX0_takeWait) B.pre
  have hown : s.vm.findClass RX0 = some m.cls := findClass_of_methodNamed B.named
  have hlocks := B.notSynchronized
  subst hsz
  have hD := hD0.self (sz := s.heap.size)
  generalize hAe : va_A [(a_this, .inr (0, rf_o0 a_this_kinds a_this_thicks g_this))] s.heap.size = A at hD hE ⊢
  have hA : ∀ q : Nat, s.heap.size ≤ q → A q := fun q h => by rw [← hAe]; exact Or.inr h
  have hS : va_S A s.heap s.heap [] := va_S.rf
  have hP : va_P D vwCl [(a_this, .inr (0, rf_o0 a_this_kinds a_this_thicks g_this))] s.heap := hP
  have hl := lv_entry ([.ref a_this, .int p1]) (n := 2) (Nat.le_of_ble_eq_true rfl)
  rw [lg_entry_eq]
  generalize (lg_sl ([.ref a_this, .int p1]) ++ List.replicate (2 - (lg_sl ([.ref a_this, .int p1])).length) Slot.unset).toArray = ls at hl ⊢
  have hl : lv_has ls 2 [(0, .ref a_this), (1, .int p1)] := hl
  rw [f_X0_takeWait] at hf
  refine lv_iload_n hx hb dX0_takeWait_0 rfl (lv_at hl 1 rfl) ?_
  refine lv_iconst (v := 1) hx hb dX0_takeWait_1 (by decide) ?_
  refine lv_icmp_lt (tgt := 19) hx hb dX0_takeWait_2 (by decide) (fun c1 => ?_) (fun c1 => ?_)
  · have hf := rf_ifp hf c1
    refine lv_iconst (v := 0) hx hb dX0_takeWait_19 (by decide) ?_
    obtain rfl := Option.some.inj hf
    exact W.zret (v := 0) hx hb hr rfl (fun t ht hW => ⟨⟨0, (), rfl, rfl, rf_mk ht hP hD⟩, hS.F ht⟩) hS.2.2 dX0_takeWait_20
  · have hf := rf_ifn hf c1
    refine lv_iload_n hx hb dX0_takeWait_5 rfl (lv_at hl 1 rfl) ?_
    refine lv_bipush (v := 60) hx hb dX0_takeWait_6 (by decide) ?_
    refine lv_icmp_gt (tgt := 19) hx hb dX0_takeWait_8 (by decide) (fun c2 => ?_) (fun c2 => ?_)
    · have hf := rf_ifp hf c2
      refine lv_iconst (v := 0) hx hb dX0_takeWait_19 (by decide) ?_
      obtain rfl := Option.some.inj hf
      exact W.zret (v := 0) hx hb hr rfl (fun t ht hW => ⟨⟨0, (), rfl, rfl, rf_mk ht hP hD⟩, hS.F ht⟩) hS.2.2 dX0_takeWait_20
    · have hf := rf_ifn hf c2
      refine lv_aload_n hx hb dX0_takeWait_11 rfl (lv_at hl 0 rfl) ?_
      refine lv_iload_n hx hb dX0_takeWait_12 rfl (lv_at hl 1 rfl) ?_
      obtain ⟨q3, hq3, hf⟩ := rf_bindq hf
      refine rf_Vi (As := [.int p1]) (rest := []) (wr := []) (wn := [(a_this, .inr (0, rf_o0 a_this_kinds a_this_thicks g_this))]) ⟨hx, hb, hml, hown, hts⟩ hK hP hD hS hA hE (c_X0_hasMinutes l D cA ad a_this a_this_kinds a_this_thicks s.heap.size g_this p1 q3 hq3) (cwV 1 hts gX0_takeWait_X0_hasMinutes rfl rfl rfl hv_X0_hasMinutes ⟨Nat.le_of_ble_eq_true rfl, Nat.le_of_ble_eq_true rfl⟩) [0] [] [0] rfl rfl rfl rfl (by decide) rfl rfl 0 0 rfl rfl rfl rfl rfl hl.1 (Nat.le_of_ble_eq_true rfl) dX0_takeWait_13 ⟨Nat.zero_le _, Nat.zero_le _⟩ (fun H locs hP hD hS => ?_)
      refine lv_if_ne (tgt := 21) hx hb dX0_takeWait_16 (by decide) (fun c4 => ?_) (fun c4 => ?_)
      · have hf := rf_ifn hf c4
        refine lv_aload_n hx hb dX0_takeWait_21 rfl (lv_at hl 0 rfl) ?_
        refine lv_iload_n hx hb dX0_takeWait_22 rfl (lv_at hl 1 rfl) ?_
        obtain ⟨q5, hq5, hf⟩ := rf_bindq hf
        refine rf_Vv (As := [.int p1]) (rest := []) (wr := []) (wn := [(a_this, .inr (0, rf_o0 a_this_kinds a_this_thicks q5))]) ⟨hx, hb, hml, hown, hts⟩ hK hP hD hS hA hE (c_X0_rest l D cA ad a_this a_this_kinds a_this_thicks H.size g_this p1 q5 hq5) (cwV 1 hts gX0_takeWait_X0_rest rfl rfl rfl hv_X0_rest ⟨Nat.le_of_ble_eq_true rfl, Nat.le_of_ble_eq_true rfl⟩) [0] [] [0] rfl rfl rfl rfl (by decide) rfl rfl 0 0 rfl rfl rfl rfl rfl hl.1 (Nat.le_of_ble_eq_true rfl) dX0_takeWait_23 ⟨Nat.zero_le _, Nat.zero_le _⟩ (fun H locs hP hD hS => ?_)
        refine lv_iconst (v := 1) hx hb dX0_takeWait_26 (by decide) ?_
        obtain rfl := Option.some.inj hf
        exact W.zret (v := 1) hx hb hr rfl (fun t ht hW => ⟨⟨1, (), rfl, rfl, rf_mk ht hP hD⟩, hS.F ht⟩) hS.2.2 dX0_takeWait_27
      · have hf := rf_ifp hf c4
        refine lv_iconst (v := 0) hx hb dX0_takeWait_19 (by decide) ?_
        obtain rfl := Option.some.inj hf
        exact W.zret (v := 0) hx hb hr rfl (fun t ht hW => ⟨⟨0, (), rfl, rfl, rf_mk ht hP hD⟩, hS.F ht⟩) hS.2.2 dX0_takeWait_20
theorem kX1_arrive_0 : (.fieldLink RX1 32 "RingAndFinger$Search" "best" "I" : Cond) ∈ wsX1_arrive := by decide +kernel
theorem kX1_arrive_1 : (.fieldLink RX1 14 "RingAndFinger$Search" "finger" "LRingAndFinger$Finger;" : Cond) ∈ wsX1_arrive := by decide +kernel
theorem kX1_arrive_2 : (.fieldLink RX1 58 "RingAndFinger$Finger" "front" "I" : Cond) ∈ wsX1_arrive := by decide +kernel
theorem kX1_arrive_3 : (.fieldLink RX1 61 "RingAndFinger$Finger" "swell" "I" : Cond) ∈ wsX1_arrive := by decide +kernel
theorem kX1_arrive_4 : (.fieldLink RX1 18 "RingAndFinger$Search" "waiting" "[I" : Cond) ∈ wsX1_arrive := by decide +kernel
theorem kX1_arrive_5 : (.initialized RX2 : Cond) ∈ wsX1_arrive := by decide +kernel
theorem kX1_arrive_6 : (.static yX2_at : Cond) ∈ wsX1_arrive := by decide +kernel
theorem kX1_arrive_7 : (.fieldLink RX1 25 "RingAndFinger$Search" "seen" "[I" : Cond) ∈ wsX1_arrive := by decide +kernel
theorem kX1_arrive_8 : (.fieldLink RX1 68 "RingAndFinger$Finger" "cold" "I" : Cond) ∈ wsX1_arrive := by decide +kernel
theorem kX1_arrive_9 : (.static yX2_put : Cond) ∈ wsX1_arrive := by decide +kernel
theorem kX1_arrive_10 : (.fieldLink RX1 22 "RingAndFinger$Search" "held" "[I" : Cond) ∈ wsX1_arrive := by decide +kernel
theorem kX1_arrive_11 : (.fieldLink RX1 28 "RingAndFinger$Search" "left" "I" : Cond) ∈ wsX1_arrive := by decide +kernel
theorem jX1_arrive_X1 : ∀ w ∈ u_ws RX1 TX1 7, w ∈ wsX1_arrive := by decide +kernel
theorem jX1_arrive_X0 : ∀ w ∈ u_ws RX0 TX0 12, w ∈ wsX1_arrive := by decide +kernel
set_option maxHeartbeats 8000000 in
set_option maxRecDepth 100000 in
theorem c_X1_arrive (l : Launch) (D : va_G) (cA : ClassId) (ad : Nat → Nat) (a_this a_this_finger a_this_waiting a_this_held a_this_seen a_this_finger_kinds a_this_finger_thicks : Nat) (sz : Nat) (g_this g_this_finger f_this_waiting f_this_held f_this_seen : Nat → Int32) (p1 p2 : Int32) (q : (Nat → Int32) × (Nat → Int32) × (Nat → Int32)) (hf : f_X1_arrive g_this g_this_finger f_this_waiting f_this_held f_this_seen p1 p2 = some q) : Met l yX1_arrive wsX1_arrive ({ frames := 1, cells := 0, slots := 0, locals := 22 } : Room) (va_Pc [.ref a_this, .int p1, .int p2] (rf_Pre D cA ad [(a_this, .inr (1, rf_o1 a_this_finger a_this_waiting a_this_held a_this_seen g_this)), (a_this_finger, .inr (0, rf_o0 a_this_finger_kinds a_this_finger_thicks g_this_finger)), (a_this_waiting, .inl (cA, 5022, .inl f_this_waiting)), (a_this_held, .inl (cA, 9, .inl f_this_held)), (a_this_seen, .inl (cA, 558, .inl f_this_seen))] sz)) (va_Qv (fun (_ : Unit) => True) (fun _ t => rf_Post D (va_A [(a_this, .inr (1, rf_o1 a_this_finger a_this_waiting a_this_held a_this_seen g_this)), (a_this_finger, .inr (0, rf_o0 a_this_finger_kinds a_this_finger_thicks g_this_finger)), (a_this_waiting, .inl (cA, 5022, .inl f_this_waiting)), (a_this_held, .inl (cA, 9, .inl f_this_held)), (a_this_seen, .inl (cA, 558, .inl f_this_seen))] sz) [(a_this, .inr (1, rf_o1 a_this_finger a_this_waiting a_this_held a_this_seen q.1)), (a_this_finger, .inr (0, rf_o0 a_this_finger_kinds a_this_finger_thicks g_this_finger)), (a_this_waiting, .inl (cA, 5022, .inl q.2.1)), (a_this_held, .inl (cA, 9, .inl q.2.2)), (a_this_seen, .inl (cA, 558, .inl f_this_seen))] t) (va_A [(a_this, .inr (1, rf_o1 a_this_finger a_this_waiting a_this_held a_this_seen g_this)), (a_this_finger, .inr (0, rf_o0 a_this_finger_kinds a_this_finger_thicks g_this_finger)), (a_this_waiting, .inl (cA, 5022, .inl f_this_waiting)), (a_this_held, .inl (cA, 9, .inl f_this_held)), (a_this_seen, .inl (cA, 558, .inl f_this_seen))] sz)) 0 0 (va_A [(a_this, .inr (1, rf_o1 a_this_finger a_this_waiting a_this_held a_this_seen g_this)), (a_this_finger, .inr (0, rf_o0 a_this_finger_kinds a_this_finger_thicks g_this_finger)), (a_this_waiting, .inl (cA, 5022, .inl f_this_waiting)), (a_this_held, .inl (cA, 9, .inl f_this_held)), (a_this_seen, .inl (cA, 558, .inl f_this_seen))] sz) := by
  refine Met.ofW (cc := cX1_arrive) (maxL := 7) (ret := none) (by decide) rfl ?_
  intro p e s m args below meth c s₁ B hml hv
  obtain ⟨rfl, hsz, hP, hK, hD0, hE⟩ := hv
  have hx := B.exec
  have hb := B.bytes
  have hr := B.returns
  have hts := atoms_spec (ws := wsX1_arrive) B.pre
  have hown : s.vm.findClass RX1 = some m.cls := findClass_of_methodNamed B.named
  have hlocks := B.notSynchronized
  subst hsz
  have hD := hD0.self (sz := s.heap.size)
  generalize hAe : va_A [(a_this, .inr (1, rf_o1 a_this_finger a_this_waiting a_this_held a_this_seen g_this)), (a_this_finger, .inr (0, rf_o0 a_this_finger_kinds a_this_finger_thicks g_this_finger)), (a_this_waiting, .inl (cA, 5022, .inl f_this_waiting)), (a_this_held, .inl (cA, 9, .inl f_this_held)), (a_this_seen, .inl (cA, 558, .inl f_this_seen))] s.heap.size = A at hD hE ⊢
  have hA : ∀ q : Nat, s.heap.size ≤ q → A q := fun q h => by rw [← hAe]; exact Or.inr h
  have hS : va_S A s.heap s.heap [] := va_S.rf
  have hP : va_P D vwCl [(a_this, .inr (1, rf_o1 a_this_finger a_this_waiting a_this_held a_this_seen g_this)), (a_this_finger, .inr (0, rf_o0 a_this_finger_kinds a_this_finger_thicks g_this_finger)), (a_this_waiting, .inl (cA, 5022, .inl f_this_waiting)), (a_this_held, .inl (cA, 9, .inl f_this_held)), (a_this_seen, .inl (cA, 558, .inl f_this_seen))] s.heap := hP
  have hl := lv_entry ([.ref a_this, .int p1, .int p2]) (n := 7) (Nat.le_of_ble_eq_true rfl)
  rw [lg_entry_eq]
  generalize (lg_sl ([.ref a_this, .int p1, .int p2]) ++ List.replicate (7 - (lg_sl ([.ref a_this, .int p1, .int p2])).length) Slot.unset).toArray = ls at hl ⊢
  have hl : lv_has ls 7 [(0, .ref a_this), (1, .int p1), (2, .int p2)] := hl
  rw [f_X1_arrive] at hf
  refine lv_iload_n hx hb dX1_arrive_0 rfl (lv_at hl 1 rfl) ?_
  refine lv_aload_n hx hb dX1_arrive_1 rfl (lv_at hl 0 rfl) ?_
  refine va_get (D := D) (ci := 1) (v := .int (g_this 1)) (C := RX1) (T := TX1) (N := 7) hx hb hts jX1_arrive_X1 hown hK hP 0 rfl rfl 5 (by decide) (hts _ kX1_arrive_0) (fun _ h9 => h9) rfl dX1_arrive_2 ?_
  refine lv_icmp_lt (tgt := 9) hx hb dX1_arrive_5 (by decide) (fun c1 => ?_) (fun c1 => ?_)
  · have hf := rf_ifp hf c1
    refine lv_aload_n hx hb dX1_arrive_9 rfl (lv_at hl 0 rfl) ?_
    refine va_get (D := D) (ci := 1) (v := .ref a_this_finger) (C := RX1) (T := TX1) (N := 7) hx hb hts jX1_arrive_X1 hown hK hP 0 rfl rfl 0 (by decide) (hts _ kX1_arrive_1) (fun _ h9 => h9) rfl dX1_arrive_10 ?_
    obtain ⟨q2, hq2, hf⟩ := rf_bindq hf
    refine rf_Vi (As := []) (rest := []) (wr := [(a_this, .inr (1, rf_o1 a_this_finger a_this_waiting a_this_held a_this_seen g_this)), (a_this_waiting, .inl (cA, 5022, .inl f_this_waiting)), (a_this_held, .inl (cA, 9, .inl f_this_held)), (a_this_seen, .inl (cA, 558, .inl f_this_seen))]) (wn := [(a_this, .inr (1, rf_o1 a_this_finger a_this_waiting a_this_held a_this_seen g_this)), (a_this_finger, .inr (0, rf_o0 a_this_finger_kinds a_this_finger_thicks g_this_finger)), (a_this_waiting, .inl (cA, 5022, .inl f_this_waiting)), (a_this_held, .inl (cA, 9, .inl f_this_held)), (a_this_seen, .inl (cA, 558, .inl f_this_seen))]) ⟨hx, hb, hml, hown, hts⟩ hK hP hD hS hA hE (c_X0_isOff l D cA ad a_this_finger a_this_finger_kinds a_this_finger_thicks s.heap.size g_this_finger q2 hq2) (cwV 0 hts gX1_arrive_X0_isOff rfl rfl rfl hv_X0_isOff ⟨Nat.le_of_ble_eq_true rfl, Nat.le_of_ble_eq_true rfl⟩) [1] [0, 2, 3, 4] [0, 4, 1, 2, 3] rfl rfl rfl rfl (by decide) rfl rfl 0 1 rfl rfl rfl rfl rfl hl.1 (Nat.le_of_ble_eq_true rfl) dX1_arrive_13 ⟨Nat.zero_le _, Nat.zero_le _⟩ (fun H locs hP hD hS => ?_)
    refine lv_if_eq (tgt := 25) hx hb dX1_arrive_16 (by decide) (fun c3 => ?_) (fun c3 => ?_)
    · have hf := rf_ifp hf c3
      refine lv_aload_n hx hb dX1_arrive_25 rfl (lv_at hl 0 rfl) ?_
      refine va_get (D := D) (ci := 1) (v := .ref a_this_finger) (C := RX1) (T := TX1) (N := 7) hx hb hts jX1_arrive_X1 hown hK hP 0 rfl rfl 0 (by decide) (hts _ kX1_arrive_1) (fun _ h9 => h9) rfl dX1_arrive_26 ?_
      refine va_get (D := D) (ci := 0) (v := .int (g_this_finger 3)) (C := RX0) (T := TX0) (N := 12) hx hb hts jX1_arrive_X0 hown hK hP 1 rfl rfl 5 (by decide) (hts _ kX1_arrive_2) (fun _ h9 => h9) rfl dX1_arrive_29 ?_
      refine lv_iconst (v := 3) hx hb dX1_arrive_32 (by decide) ?_
      refine lv_imul hx hb dX1_arrive_33 ?_
      refine lv_iload_n hx hb dX1_arrive_34 rfl (lv_at hl 2 rfl) ?_
      refine lv_iadd hx hb dX1_arrive_35 ?_
      refine lv_bipush (v := 31) hx hb dX1_arrive_36 (by decide) ?_
      refine lv_imul hx hb dX1_arrive_38 ?_
      refine lv_aload_n hx hb dX1_arrive_39 rfl (lv_at hl 0 rfl) ?_
      refine va_get (D := D) (ci := 1) (v := .ref a_this_finger) (C := RX1) (T := TX1) (N := 7) hx hb hts jX1_arrive_X1 hown hK hP 0 rfl rfl 0 (by decide) (hts _ kX1_arrive_1) (fun _ h9 => h9) rfl dX1_arrive_40 ?_
      refine va_get (D := D) (ci := 0) (v := .int (g_this_finger 4)) (C := RX0) (T := TX0) (N := 12) hx hb hts jX1_arrive_X0 hown hK hP 1 rfl rfl 6 (by decide) (hts _ kX1_arrive_3) (fun _ h9 => h9) rfl dX1_arrive_43 ?_
      refine lv_iadd hx hb dX1_arrive_46 ?_
      refine lv_topi (fun v4 ev4 => ?_)
      have hf := rf_bindv hf ev4
      clear ev4
      refine lv_istore_n (lv' := [(3, .int v4), (0, .ref a_this), (1, .int p1), (2, .int p2)]) hx hb dX1_arrive_47 rfl hl (by decide) rfl (fun ls hl => ?_)
      refine lv_iload_n hx hb dX1_arrive_48 rfl (lv_at hl 2 rfl) ?_
      refine lv_bipush (v := 9) hx hb dX1_arrive_49 (by decide) ?_
      refine lv_irem hx hb dX1_arrive_51 (by decide) ?_
      refine lv_topi (fun v5 ev5 => ?_)
      have hf := rf_bindv hf ev5
      clear ev5
      refine lv_istore (lv' := [(4, .int v5), (3, .int v4), (0, .ref a_this), (1, .int p1), (2, .int p2)]) hx hb dX1_arrive_52 hl (by decide) rfl (fun ls hl => ?_)
      refine lv_iload hx hb dX1_arrive_54 (lv_at hl 0 rfl) ?_
      refine lv_sipush (v := 558) hx hb dX1_arrive_56 (by decide) ?_
      refine lv_imul hx hb dX1_arrive_59 ?_
      refine lv_iload_n hx hb dX1_arrive_60 rfl (lv_at hl 1 rfl) ?_
      refine lv_iadd hx hb dX1_arrive_61 ?_
      refine lv_topi (fun v6 ev6 => ?_)
      have hf := rf_bindv hf ev6
      clear ev6
      refine lv_istore (lv' := [(5, .int v6), (4, .int v5), (3, .int v4), (0, .ref a_this), (1, .int p1), (2, .int p2)]) hx hb dX1_arrive_62 hl (by decide) rfl (fun ls hl => ?_)
      refine lv_aload_n hx hb dX1_arrive_64 rfl (lv_at hl 3 rfl) ?_
      refine va_get (D := D) (ci := 1) (v := .ref a_this_waiting) (C := RX1) (T := TX1) (N := 7) hx hb hts jX1_arrive_X1 hown hK hP 0 rfl rfl 1 (by decide) (hts _ kX1_arrive_4) (fun _ h9 => h9) rfl dX1_arrive_65 ?_
      refine lv_iload hx hb dX1_arrive_68 (lv_at hl 0 rfl) ?_
      obtain ⟨q7, hq7, hf⟩ := rf_bindq hf
      refine rf_Ni (As := [.ref a_this_waiting, .int v6]) (rest := []) (wr := [(a_this, .inr (1, rf_o1 a_this_finger a_this_waiting a_this_held a_this_seen g_this)), (a_this_finger, .inr (0, rf_o0 a_this_finger_kinds a_this_finger_thicks g_this_finger)), (a_this_held, .inl (cA, 9, .inl f_this_held)), (a_this_seen, .inl (cA, 558, .inl f_this_seen))]) (wn := [(a_this, .inr (1, rf_o1 a_this_finger a_this_waiting a_this_held a_this_seen g_this)), (a_this_finger, .inr (0, rf_o0 a_this_finger_kinds a_this_finger_thicks g_this_finger)), (a_this_waiting, .inl (cA, 5022, .inl f_this_waiting)), (a_this_held, .inl (cA, 9, .inl f_this_held)), (a_this_seen, .inl (cA, 558, .inl f_this_seen))]) ⟨hx, hb, hml, hown, hts⟩ hK hP hD hS hA hE (c_X2_at l D cA ad a_this_waiting H.size 5022 f_this_waiting v6 q7 hq7) ⟨va_cnB (host := "RingAndFinger") 2 hts gX1_arrive_X2_at_n64 rfl rfl rfl (hE.1 5 _ rfl) (hts _ kX1_arrive_5) hn_X2_at ⟨Nat.le_of_ble_eq_true rfl, Nat.le_of_ble_eq_true rfl⟩, (hts _ kX1_arrive_6), trivial⟩ [2] [0, 1, 3, 4] [0, 1, 4, 2, 3] rfl rfl rfl rfl (by decide) rfl rfl rfl rfl hl.1 (Nat.le_of_ble_eq_true rfl) dX1_arrive_70 ⟨Nat.zero_le _, Nat.zero_le _⟩ (fun H locs hP hD hS => ?_)
      refine lv_istore (lv' := [(6, .int q7), (5, .int v6), (4, .int v5), (3, .int v4), (0, .ref a_this), (1, .int p1), (2, .int p2)]) hx hb dX1_arrive_73 hl (by decide) rfl (fun ls hl => ?_)
      refine lv_aload_n hx hb dX1_arrive_75 rfl (lv_at hl 4 rfl) ?_
      refine va_get (D := D) (ci := 1) (v := .ref a_this_seen) (C := RX1) (T := TX1) (N := 7) hx hb hts jX1_arrive_X1 hown hK hP 0 rfl rfl 3 (by decide) (hts _ kX1_arrive_7) (fun _ h9 => h9) rfl dX1_arrive_76 ?_
      refine lv_iload_n hx hb dX1_arrive_79 rfl (lv_at hl 3 rfl) ?_
      obtain ⟨q8, hq8, hf⟩ := rf_bindq hf
      refine rf_Ni (As := [.ref a_this_seen, .int v4]) (rest := []) (wr := [(a_this, .inr (1, rf_o1 a_this_finger a_this_waiting a_this_held a_this_seen g_this)), (a_this_finger, .inr (0, rf_o0 a_this_finger_kinds a_this_finger_thicks g_this_finger)), (a_this_waiting, .inl (cA, 5022, .inl f_this_waiting)), (a_this_held, .inl (cA, 9, .inl f_this_held))]) (wn := [(a_this, .inr (1, rf_o1 a_this_finger a_this_waiting a_this_held a_this_seen g_this)), (a_this_finger, .inr (0, rf_o0 a_this_finger_kinds a_this_finger_thicks g_this_finger)), (a_this_waiting, .inl (cA, 5022, .inl f_this_waiting)), (a_this_held, .inl (cA, 9, .inl f_this_held)), (a_this_seen, .inl (cA, 558, .inl f_this_seen))]) ⟨hx, hb, hml, hown, hts⟩ hK hP hD hS hA hE (c_X2_at l D cA ad a_this_seen H.size 558 f_this_seen v4 q8 hq8) ⟨va_cnB (host := "RingAndFinger") 2 hts gX1_arrive_X2_at_n64 rfl rfl rfl (hE.1 5 _ rfl) (hts _ kX1_arrive_5) hn_X2_at ⟨Nat.le_of_ble_eq_true rfl, Nat.le_of_ble_eq_true rfl⟩, (hts _ kX1_arrive_6), trivial⟩ [4] [0, 1, 2, 3] [0, 1, 2, 3, 4] rfl rfl rfl rfl (by decide) rfl rfl rfl rfl hl.1 (Nat.le_of_ble_eq_true rfl) dX1_arrive_80 ⟨Nat.zero_le _, Nat.zero_le _⟩ (fun H locs hP hD hS => ?_)
      refine lv_aload_n hx hb dX1_arrive_83 rfl (lv_at hl 4 rfl) ?_
      refine va_get (D := D) (ci := 1) (v := .ref a_this_finger) (C := RX1) (T := TX1) (N := 7) hx hb hts jX1_arrive_X1 hown hK hP 0 rfl rfl 0 (by decide) (hts _ kX1_arrive_1) (fun _ h9 => h9) rfl dX1_arrive_84 ?_
      refine va_get (D := D) (ci := 0) (v := .int (g_this_finger 5)) (C := RX0) (T := TX0) (N := 12) hx hb hts jX1_arrive_X0 hown hK hP 1 rfl rfl 7 (by decide) (hts _ kX1_arrive_8) (fun _ h9 => h9) rfl dX1_arrive_87 ?_
      refine lv_icmp_gt (tgt := 105) hx hb dX1_arrive_90 (by decide) (fun c9 => ?_) (fun c9 => ?_)
      · have hf := rf_ifp hf c9
        obtain rfl := Option.some.inj hf
        exact W.vret hx hb hr (fun t ht hW => ⟨⟨(), rfl, trivial, rf_mk ht hP hD⟩, hS.F ht⟩) hS.2.2 dX1_arrive_105
      · have hf := rf_ifn hf c9
        refine lv_iload hx hb dX1_arrive_93 (lv_at hl 0 rfl) ?_
        refine lv_aload_n hx hb dX1_arrive_95 rfl (lv_at hl 4 rfl) ?_
        refine va_get (D := D) (ci := 1) (v := .ref a_this_finger) (C := RX1) (T := TX1) (N := 7) hx hb hts jX1_arrive_X1 hown hK hP 0 rfl rfl 0 (by decide) (hts _ kX1_arrive_1) (fun _ h9 => h9) rfl dX1_arrive_96 ?_
        refine va_get (D := D) (ci := 0) (v := .int (g_this_finger 5)) (C := RX0) (T := TX0) (N := 12) hx hb hts jX1_arrive_X0 hown hK hP 1 rfl rfl 7 (by decide) (hts _ kX1_arrive_8) (fun _ h9 => h9) rfl dX1_arrive_99 ?_
        refine lv_icmp_le (tgt := 106) hx hb dX1_arrive_102 (by decide) (fun c10 => ?_) (fun c10 => ?_)
        · have hf := rf_ifp hf c10
          refine lv_aload_n hx hb dX1_arrive_106 rfl (lv_at hl 4 rfl) ?_
          refine va_get (D := D) (ci := 1) (v := .ref a_this_waiting) (C := RX1) (T := TX1) (N := 7) hx hb hts jX1_arrive_X1 hown hK hP 0 rfl rfl 1 (by decide) (hts _ kX1_arrive_4) (fun _ h9 => h9) rfl dX1_arrive_107 ?_
          refine lv_iload hx hb dX1_arrive_110 (lv_at hl 1 rfl) ?_
          refine lv_aload_n hx hb dX1_arrive_112 rfl (lv_at hl 4 rfl) ?_
          refine va_get (D := D) (ci := 1) (v := .ref a_this_finger) (C := RX1) (T := TX1) (N := 7) hx hb hts jX1_arrive_X1 hown hK hP 0 rfl rfl 0 (by decide) (hts _ kX1_arrive_1) (fun _ h9 => h9) rfl dX1_arrive_113 ?_
          refine va_get (D := D) (ci := 0) (v := .int (g_this_finger 5)) (C := RX0) (T := TX0) (N := 12) hx hb hts jX1_arrive_X0 hown hK hP 1 rfl rfl 7 (by decide) (hts _ kX1_arrive_8) (fun _ h9 => h9) rfl dX1_arrive_116 ?_
          refine lv_iconst (v := 1) hx hb dX1_arrive_119 (by decide) ?_
          refine lv_iadd hx hb dX1_arrive_120 ?_
          obtain ⟨q11, hq11, hf⟩ := rf_bindq hf
          refine rf_Nv (As := [.ref a_this_waiting, .int v6, .int ((g_this_finger 5) + 1)]) (rest := []) (wr := [(a_this, .inr (1, rf_o1 a_this_finger a_this_waiting a_this_held a_this_seen g_this)), (a_this_finger, .inr (0, rf_o0 a_this_finger_kinds a_this_finger_thicks g_this_finger)), (a_this_held, .inl (cA, 9, .inl f_this_held)), (a_this_seen, .inl (cA, 558, .inl f_this_seen))]) (wn := [(a_this, .inr (1, rf_o1 a_this_finger a_this_waiting a_this_held a_this_seen g_this)), (a_this_finger, .inr (0, rf_o0 a_this_finger_kinds a_this_finger_thicks g_this_finger)), (a_this_waiting, .inl (cA, 5022, .inl q11)), (a_this_held, .inl (cA, 9, .inl f_this_held)), (a_this_seen, .inl (cA, 558, .inl f_this_seen))]) ⟨hx, hb, hml, hown, hts⟩ hK hP hD hS hA hE (c_X2_put l D cA ad a_this_waiting H.size 5022 f_this_waiting v6 ((g_this_finger 5) + 1) q11 hq11) ⟨va_cnB (host := "RingAndFinger") 3 hts gX1_arrive_X2_put_n71 rfl rfl rfl (hE.1 6 _ rfl) (hts _ kX1_arrive_5) hn_X2_put ⟨Nat.le_of_ble_eq_true rfl, Nat.le_of_ble_eq_true rfl⟩, (hts _ kX1_arrive_9), trivial⟩ [2] [0, 1, 3, 4] [0, 1, 4, 2, 3] rfl rfl rfl rfl (by decide) rfl rfl rfl rfl hl.1 (Nat.le_of_ble_eq_true rfl) dX1_arrive_121 ⟨Nat.zero_le _, Nat.zero_le _⟩ (fun H locs hP hD hS => ?_)
          refine lv_iload hx hb dX1_arrive_124 (lv_at hl 0 rfl) ?_
          refine lv_if_ne (tgt := 159) hx hb dX1_arrive_126 (by decide) (fun c12 => ?_) (fun c12 => ?_)
          · have hf := rf_ifn hf c12
            obtain rfl := Option.some.inj hf
            exact W.vret hx hb hr (fun t ht hW => ⟨⟨(), rfl, trivial, rf_mk ht hP hD⟩, hS.F ht⟩) hS.2.2 dX1_arrive_159
          · have hf := rf_ifp hf c12
            refine lv_aload_n hx hb dX1_arrive_129 rfl (lv_at hl 4 rfl) ?_
            refine va_get (D := D) (ci := 1) (v := .ref a_this_held) (C := RX1) (T := TX1) (N := 7) hx hb hts jX1_arrive_X1 hown hK hP 0 rfl rfl 2 (by decide) (hts _ kX1_arrive_10) (fun _ h9 => h9) rfl dX1_arrive_130 ?_
            refine lv_iload hx hb dX1_arrive_133 (lv_at hl 2 rfl) ?_
            refine lv_aload_n hx hb dX1_arrive_135 rfl (lv_at hl 4 rfl) ?_
            refine va_get (D := D) (ci := 1) (v := .ref a_this_held) (C := RX1) (T := TX1) (N := 7) hx hb hts jX1_arrive_X1 hown hK hP 0 rfl rfl 2 (by decide) (hts _ kX1_arrive_10) (fun _ h9 => h9) rfl dX1_arrive_136 ?_
            refine lv_iload hx hb dX1_arrive_139 (lv_at hl 2 rfl) ?_
            obtain ⟨q13, hq13, hf⟩ := rf_bindq hf
            refine rf_Ni (As := [.ref a_this_held, .int v5]) (rest := [.int v5, .ref a_this_held]) (wr := [(a_this, .inr (1, rf_o1 a_this_finger a_this_waiting a_this_held a_this_seen g_this)), (a_this_finger, .inr (0, rf_o0 a_this_finger_kinds a_this_finger_thicks g_this_finger)), (a_this_waiting, .inl (cA, 5022, .inl q11)), (a_this_seen, .inl (cA, 558, .inl f_this_seen))]) (wn := [(a_this, .inr (1, rf_o1 a_this_finger a_this_waiting a_this_held a_this_seen g_this)), (a_this_finger, .inr (0, rf_o0 a_this_finger_kinds a_this_finger_thicks g_this_finger)), (a_this_waiting, .inl (cA, 5022, .inl q11)), (a_this_held, .inl (cA, 9, .inl f_this_held)), (a_this_seen, .inl (cA, 558, .inl f_this_seen))]) ⟨hx, hb, hml, hown, hts⟩ hK hP hD hS hA hE (c_X2_at l D cA ad a_this_held H.size 9 f_this_held v5 q13 hq13) ⟨va_cnB (host := "RingAndFinger") 2 hts gX1_arrive_X2_at_n64 rfl rfl rfl (hE.1 5 _ rfl) (hts _ kX1_arrive_5) hn_X2_at ⟨Nat.le_of_ble_eq_true rfl, Nat.le_of_ble_eq_true rfl⟩, (hts _ kX1_arrive_6), trivial⟩ [3] [0, 1, 2, 4] [0, 1, 2, 4, 3] rfl rfl rfl rfl (by decide) rfl rfl rfl rfl hl.1 (Nat.le_of_ble_eq_true rfl) dX1_arrive_141 ⟨Nat.zero_le _, Nat.zero_le _⟩ (fun H locs hP hD hS => ?_)
            refine lv_iconst (v := 1) hx hb dX1_arrive_144 (by decide) ?_
            refine lv_iadd hx hb dX1_arrive_145 ?_
            obtain ⟨q14, hq14, hf⟩ := rf_bindq hf
            refine rf_Nv (As := [.ref a_this_held, .int v5, .int (q13 + 1)]) (rest := []) (wr := [(a_this, .inr (1, rf_o1 a_this_finger a_this_waiting a_this_held a_this_seen g_this)), (a_this_finger, .inr (0, rf_o0 a_this_finger_kinds a_this_finger_thicks g_this_finger)), (a_this_waiting, .inl (cA, 5022, .inl q11)), (a_this_seen, .inl (cA, 558, .inl f_this_seen))]) (wn := [(a_this, .inr (1, rf_o1 a_this_finger a_this_waiting a_this_held a_this_seen g_this)), (a_this_finger, .inr (0, rf_o0 a_this_finger_kinds a_this_finger_thicks g_this_finger)), (a_this_waiting, .inl (cA, 5022, .inl q11)), (a_this_held, .inl (cA, 9, .inl q14)), (a_this_seen, .inl (cA, 558, .inl f_this_seen))]) ⟨hx, hb, hml, hown, hts⟩ hK hP hD hS hA hE (c_X2_put l D cA ad a_this_held H.size 9 f_this_held v5 (q13 + 1) q14 hq14) ⟨va_cnB (host := "RingAndFinger") 3 hts gX1_arrive_X2_put_n71 rfl rfl rfl (hE.1 6 _ rfl) (hts _ kX1_arrive_5) hn_X2_put ⟨Nat.le_of_ble_eq_true rfl, Nat.le_of_ble_eq_true rfl⟩, (hts _ kX1_arrive_9), trivial⟩ [3] [0, 1, 2, 4] [0, 1, 2, 4, 3] rfl rfl rfl rfl (by decide) rfl rfl rfl rfl hl.1 (Nat.le_of_ble_eq_true rfl) dX1_arrive_146 ⟨Nat.zero_le _, Nat.zero_le _⟩ (fun H locs hP hD hS => ?_)
            refine lv_aload_n hx hb dX1_arrive_149 rfl (lv_at hl 4 rfl) ?_
            refine lv_dup hx hb dX1_arrive_150 rfl ?_
            refine va_get (D := D) (ci := 1) (v := .int (g_this 0)) (C := RX1) (T := TX1) (N := 7) hx hb hts jX1_arrive_X1 hown hK hP 0 rfl rfl 4 (by decide) (hts _ kX1_arrive_11) (fun _ h9 => h9) rfl dX1_arrive_151 ?_
            refine lv_iconst (v := 1) hx hb dX1_arrive_154 (by decide) ?_
            refine lv_iadd hx hb dX1_arrive_155 ?_
            refine lv_topi (fun v15 ev15 => ?_)
            have hf := rf_bindv hf ev15
            clear ev15
            refine va_put (D := D) (ci := 1) (v := .int v15) (ty := .int) (C := RX1) (T := TX1) (N := 7) hx hb hts jX1_arrive_X1 tyX1 tyX1_ok nmX1 hown hK hP hD hS 0 rfl rfl 4 (by decide) (hts _ kX1_arrive_11) (fun _ h9 => h9) rfl (by decide +kernel) rfl rfl (Nat.le_of_ble_eq_true rfl) dX1_arrive_156 (fun H locs hP hD hS => ?_)
            have hP : va_P D vwCl [(a_this, .inr (1, rf_o1 a_this_finger a_this_waiting a_this_held a_this_seen (upd g_this 0 v15))), (a_this_finger, .inr (0, rf_o0 a_this_finger_kinds a_this_finger_thicks g_this_finger)), (a_this_waiting, .inl (cA, 5022, .inl q11)), (a_this_held, .inl (cA, 9, .inl q14)), (a_this_seen, .inl (cA, 558, .inl f_this_seen))] H := hP
            have hD : va_D A [(a_this, .inr (1, rf_o1 a_this_finger a_this_waiting a_this_held a_this_seen (upd g_this 0 v15))), (a_this_finger, .inr (0, rf_o0 a_this_finger_kinds a_this_finger_thicks g_this_finger)), (a_this_waiting, .inl (cA, 5022, .inl q11)), (a_this_held, .inl (cA, 9, .inl q14)), (a_this_seen, .inl (cA, 558, .inl f_this_seen))] := hD
            obtain rfl := Option.some.inj hf
            exact W.vret hx hb hr (fun t ht hW => ⟨⟨(), rfl, trivial, rf_mk ht hP hD⟩, hS.F ht⟩) hS.2.2 dX1_arrive_159
        · have hf := rf_ifn hf c10
          obtain rfl := Option.some.inj hf
          exact W.vret hx hb hr (fun t ht hW => ⟨⟨(), rfl, trivial, rf_mk ht hP hD⟩, hS.F ht⟩) hS.2.2 dX1_arrive_105
    · have hf := rf_ifn hf c3
      refine lv_aload_n hx hb dX1_arrive_19 rfl (lv_at hl 0 rfl) ?_
      refine lv_iload_n hx hb dX1_arrive_20 rfl (lv_at hl 1 rfl) ?_
      refine va_put (D := D) (ci := 1) (v := .int p1) (ty := .int) (C := RX1) (T := TX1) (N := 7) hx hb hts jX1_arrive_X1 tyX1 tyX1_ok nmX1 hown hK hP hD hS 0 rfl rfl 5 (by decide) (hts _ kX1_arrive_0) (fun _ h9 => h9) rfl (by decide +kernel) rfl rfl (Nat.le_of_ble_eq_true rfl) dX1_arrive_21 (fun H locs hP hD hS => ?_)
      have hP : va_P D vwCl [(a_this, .inr (1, rf_o1 a_this_finger a_this_waiting a_this_held a_this_seen (upd g_this 1 p1))), (a_this_finger, .inr (0, rf_o0 a_this_finger_kinds a_this_finger_thicks g_this_finger)), (a_this_waiting, .inl (cA, 5022, .inl f_this_waiting)), (a_this_held, .inl (cA, 9, .inl f_this_held)), (a_this_seen, .inl (cA, 558, .inl f_this_seen))] H := hP
      have hD : va_D A [(a_this, .inr (1, rf_o1 a_this_finger a_this_waiting a_this_held a_this_seen (upd g_this 1 p1))), (a_this_finger, .inr (0, rf_o0 a_this_finger_kinds a_this_finger_thicks g_this_finger)), (a_this_waiting, .inl (cA, 5022, .inl f_this_waiting)), (a_this_held, .inl (cA, 9, .inl f_this_held)), (a_this_seen, .inl (cA, 558, .inl f_this_seen))] := hD
      obtain rfl := Option.some.inj hf
      exact W.vret hx hb hr (fun t ht hW => ⟨⟨(), rfl, trivial, rf_mk ht hP hD⟩, hS.F ht⟩) hS.2.2 dX1_arrive_24
  · have hf := rf_ifn hf c1
    obtain rfl := Option.some.inj hf
    exact W.vret hx hb hr (fun t ht hW => ⟨⟨(), rfl, trivial, rf_mk ht hP hD⟩, hS.F ht⟩) hS.2.2 dX1_arrive_8
theorem kX1_clear_0 : (.fieldLink RX1 22 "RingAndFinger$Search" "held" "[I" : Cond) ∈ wsX1_clear := by decide +kernel
theorem kX1_clear_1 : (.fieldLink RX1 18 "RingAndFinger$Search" "waiting" "[I" : Cond) ∈ wsX1_clear := by decide +kernel
theorem kX1_clear_2 : (.fieldLink RX1 25 "RingAndFinger$Search" "seen" "[I" : Cond) ∈ wsX1_clear := by decide +kernel
theorem kX1_clear_3 : (.fieldLink RX1 28 "RingAndFinger$Search" "left" "I" : Cond) ∈ wsX1_clear := by decide +kernel
theorem jX1_clear_X1 : ∀ w ∈ u_ws RX1 TX1 7, w ∈ wsX1_clear := by decide +kernel
set_option maxHeartbeats 8000000 in
set_option maxRecDepth 100000 in
theorem c_X1_clear (l : Launch) (D : va_G) (cA : ClassId) (ad : Nat → Nat) (a_this a_this_finger a_this_waiting a_this_held a_this_seen : Nat) (sz : Nat) (g_this f_this_waiting f_this_held f_this_seen : Nat → Int32) (q : (Nat → Int32) × (Nat → Int32) × (Nat → Int32) × (Nat → Int32)) (hf : f_X1_clear g_this f_this_waiting f_this_held f_this_seen = some q) : Met l yX1_clear wsX1_clear ({ frames := 0, cells := 0, slots := 0, locals := 0 } : Room) (va_Pc [.ref a_this] (rf_Pre D cA ad [(a_this, .inr (1, rf_o1 a_this_finger a_this_waiting a_this_held a_this_seen g_this)), (a_this_waiting, .inl (cA, 5022, .inl f_this_waiting)), (a_this_held, .inl (cA, 9, .inl f_this_held)), (a_this_seen, .inl (cA, 558, .inl f_this_seen))] sz)) (va_Qv (fun (_ : Unit) => True) (fun _ t => rf_Post D (va_A [(a_this, .inr (1, rf_o1 a_this_finger a_this_waiting a_this_held a_this_seen g_this)), (a_this_waiting, .inl (cA, 5022, .inl f_this_waiting)), (a_this_held, .inl (cA, 9, .inl f_this_held)), (a_this_seen, .inl (cA, 558, .inl f_this_seen))] sz) [(a_this, .inr (1, rf_o1 a_this_finger a_this_waiting a_this_held a_this_seen q.1)), (a_this_waiting, .inl (cA, 5022, .inl q.2.1)), (a_this_held, .inl (cA, 9, .inl q.2.2.1)), (a_this_seen, .inl (cA, 558, .inl q.2.2.2))] t) (va_A [(a_this, .inr (1, rf_o1 a_this_finger a_this_waiting a_this_held a_this_seen g_this)), (a_this_waiting, .inl (cA, 5022, .inl f_this_waiting)), (a_this_held, .inl (cA, 9, .inl f_this_held)), (a_this_seen, .inl (cA, 558, .inl f_this_seen))] sz)) 0 0 (va_A [(a_this, .inr (1, rf_o1 a_this_finger a_this_waiting a_this_held a_this_seen g_this)), (a_this_waiting, .inl (cA, 5022, .inl f_this_waiting)), (a_this_held, .inl (cA, 9, .inl f_this_held)), (a_this_seen, .inl (cA, 558, .inl f_this_seen))] sz) := by
  refine Met.ofW (cc := cX1_clear) (maxL := 2) (ret := none) (by decide) rfl ?_
  intro p e s m args below meth c s₁ B hml hv
  obtain ⟨rfl, hsz, hP, hK, hD0, hE⟩ := hv
  have hx := B.exec
  have hb := B.bytes
  have hr := B.returns
  have hts := atoms_spec (ws := wsX1_clear) B.pre
  have hown : s.vm.findClass RX1 = some m.cls := findClass_of_methodNamed B.named
  have hlocks := B.notSynchronized
  subst hsz
  have hD := hD0.self (sz := s.heap.size)
  generalize hAe : va_A [(a_this, .inr (1, rf_o1 a_this_finger a_this_waiting a_this_held a_this_seen g_this)), (a_this_waiting, .inl (cA, 5022, .inl f_this_waiting)), (a_this_held, .inl (cA, 9, .inl f_this_held)), (a_this_seen, .inl (cA, 558, .inl f_this_seen))] s.heap.size = A at hD hE ⊢
  have hA : ∀ q : Nat, s.heap.size ≤ q → A q := fun q h => by rw [← hAe]; exact Or.inr h
  have hS : va_S A s.heap s.heap [] := va_S.rf
  have hP : va_P D vwCl [(a_this, .inr (1, rf_o1 a_this_finger a_this_waiting a_this_held a_this_seen g_this)), (a_this_waiting, .inl (cA, 5022, .inl f_this_waiting)), (a_this_held, .inl (cA, 9, .inl f_this_held)), (a_this_seen, .inl (cA, 558, .inl f_this_seen))] s.heap := hP
  have hl := lv_entry ([.ref a_this]) (n := 2) (Nat.le_of_ble_eq_true rfl)
  rw [lg_entry_eq]
  generalize (lg_sl ([.ref a_this]) ++ List.replicate (2 - (lg_sl ([.ref a_this])).length) Slot.unset).toArray = ls at hl ⊢
  have hl : lv_has ls 2 [(0, .ref a_this)] := hl
  have key_2 : ∀ (yg_this yf_this_waiting yf_this_seen : Nat → Int32) (n : Nat) (x1 : Int32) (yf_this_held : Nat → Int32) (ql : Int32 × (Nat → Int32)), f_X1_clear_L2 yg_this yf_this_waiting yf_this_seen n x1 yf_this_held = some ql → ∀ (H : Heap) (locs : List Loc) (ls : Array Slot), va_P D vwCl [(a_this, .inr (1, rf_o1 a_this_finger a_this_waiting a_this_held a_this_seen yg_this)), (a_this_waiting, .inl (cA, 5022, .inl yf_this_waiting)), (a_this_held, .inl (cA, 9, .inl yf_this_held)), (a_this_seen, .inl (cA, 558, .inl yf_this_seen))] H → va_D A [(a_this, .inr (1, rf_o1 a_this_finger a_this_waiting a_this_held a_this_seen yg_this)), (a_this_waiting, .inl (cA, 5022, .inl yf_this_waiting)), (a_this_held, .inl (cA, 9, .inl yf_this_held)), (a_this_seen, .inl (cA, 558, .inl yf_this_seen))] → va_S A s.heap H locs → lv_has ls 2 [(0, .ref a_this), (1, .int x1)] → (∀ (H : Heap) (locs : List Loc) (ls : Array Slot), va_P D vwCl [(a_this, .inr (1, rf_o1 a_this_finger a_this_waiting a_this_held a_this_seen yg_this)), (a_this_waiting, .inl (cA, 5022, .inl yf_this_waiting)), (a_this_held, .inl (cA, 9, .inl ql.2)), (a_this_seen, .inl (cA, 558, .inl yf_this_seen))] H → va_D A [(a_this, .inr (1, rf_o1 a_this_finger a_this_waiting a_this_held a_this_seen yg_this)), (a_this_waiting, .inl (cA, 5022, .inl yf_this_waiting)), (a_this_held, .inl (cA, 9, .inl ql.2)), (a_this_seen, .inl (cA, 558, .inl yf_this_seen))] → va_S A s.heap H locs → lv_has ls 2 [(0, .ref a_this), (1, .int ql.1)] → W p l e (headSpec wsX1_clear ({ frames := 0, cells := 0, slots := 0, locals := 0 } : Room)).room s m ([.ref a_this] : List Value).toArray below meth c H locs 0 0 (MQ below (va_Qv (fun (_ : Unit) => True) (fun _ t => rf_Post D A [(a_this, .inr (1, rf_o1 a_this_finger a_this_waiting a_this_held a_this_seen q.1)), (a_this_waiting, .inl (cA, 5022, .inl q.2.1)), (a_this_held, .inl (cA, 9, .inl q.2.2.1)), (a_this_seen, .inl (cA, 558, .inl q.2.2.2))] t) A) ([.ref a_this] : List Value).toArray s 0 0 A) (F0 m 24 ls [])) → W p l e (headSpec wsX1_clear ({ frames := 0, cells := 0, slots := 0, locals := 0 } : Room)).room s m ([.ref a_this] : List Value).toArray below meth c H locs 0 0 (MQ below (va_Qv (fun (_ : Unit) => True) (fun _ t => rf_Post D A [(a_this, .inr (1, rf_o1 a_this_finger a_this_waiting a_this_held a_this_seen q.1)), (a_this_waiting, .inl (cA, 5022, .inl q.2.1)), (a_this_held, .inl (cA, 9, .inl q.2.2.1)), (a_this_seen, .inl (cA, 558, .inl q.2.2.2))] t) A) ([.ref a_this] : List Value).toArray s 0 0 A) (F0 m 2 ls []) := by
    intro yg_this yf_this_waiting yf_this_seen n
    induction n with
    | zero =>
      intro x1 yf_this_held ql hf H locs ls hP hD hS hl kx
      exact absurd (show (none : Option (Int32 × (Nat → Int32))) = some ql from hf) (fun h9 => by cases h9)
    | succ n ih =>
      intro x1 yf_this_held ql hf H locs ls hP hD hS hl kx
      rw [f_X1_clear_L2] at hf
      refine lv_iload_n hx hb dX1_clear_2 rfl (lv_at hl 1 rfl) ?_
      refine lv_aload_n hx hb dX1_clear_3 rfl (lv_at hl 0 rfl) ?_
      refine va_get (D := D) (ci := 1) (v := .ref a_this_held) (C := RX1) (T := TX1) (N := 7) hx hb hts jX1_clear_X1 hown hK hP 0 rfl rfl 2 (by decide) (hts _ kX1_clear_0) (fun _ h9 => h9) rfl dX1_clear_4 ?_
      refine va_alen (v := 9) hx hb hK hP 2 0 rfl rfl (show Int32.ofNat 9 = 9 by decide) dX1_clear_7 ?_
      refine lv_icmp_ge (tgt := 24) hx hb dX1_clear_8 (by decide) (fun c1 => ?_) (fun c1 => ?_)
      · have hf := rf_ifp hf c1
        obtain rfl := Option.some.inj hf
        exact kx _ _ _ hP hD hS (lv_sub hl [0, 1] rfl)
      · have hf := rf_ifn hf c1
        refine lv_aload_n hx hb dX1_clear_11 rfl (lv_at hl 0 rfl) ?_
        refine va_get (D := D) (ci := 1) (v := .ref a_this_held) (C := RX1) (T := TX1) (N := 7) hx hb hts jX1_clear_X1 hown hK hP 0 rfl rfl 2 (by decide) (hts _ kX1_clear_0) (fun _ h9 => h9) rfl dX1_clear_12 ?_
        refine lv_iload_n hx hb dX1_clear_15 rfl (lv_at hl 1 rfl) ?_
        refine lv_iconst (v := 0) hx hb dX1_clear_16 (by decide) ?_
        obtain ⟨c2, hf⟩ := rf_chk hf
        refine va_iast hx hb hK hP hD hS 2 0 rfl rfl c2 dX1_clear_17 (fun H locs hP hD hS => ?_)
        have hP : va_P D vwCl [(a_this, .inr (1, rf_o1 a_this_finger a_this_waiting a_this_held a_this_seen yg_this)), (a_this_waiting, .inl (cA, 5022, .inl yf_this_waiting)), (a_this_held, .inl (cA, 9, .inl (upd yf_this_held (x1.toNatClampNeg) 0))), (a_this_seen, .inl (cA, 558, .inl yf_this_seen))] H := hP
        have hD : va_D A [(a_this, .inr (1, rf_o1 a_this_finger a_this_waiting a_this_held a_this_seen yg_this)), (a_this_waiting, .inl (cA, 5022, .inl yf_this_waiting)), (a_this_held, .inl (cA, 9, .inl (upd yf_this_held (x1.toNatClampNeg) 0))), (a_this_seen, .inl (cA, 558, .inl yf_this_seen))] := hD
        obtain ⟨v3, ev3⟩ : ∃ y : Int32, y = x1 + 1 := ⟨_, rfl⟩
        have hf := rf_bindv hf ev3
        refine lv_iinc (v := v3) (lv' := [(1, .int v3), (0, .ref a_this)]) hx hb dX1_clear_18 hl (k := 1) rfl (by rw [ev3]; rfl) (by decide) rfl (fun ls hl => ?_)
        clear ev3
        refine lv_goto (tgt := 2) hx hb dX1_clear_21 (by decide) ?_
        exact ih v3 (upd yf_this_held (x1.toNatClampNeg) 0) ql hf _ _ _ hP hD hS (lv_sub hl [1, 0] rfl) kx
  have key_26 : ∀ (yg_this yf_this_held yf_this_seen : Nat → Int32) (n : Nat) (x1 : Int32) (yf_this_waiting : Nat → Int32) (ql : Int32 × (Nat → Int32)), f_X1_clear_L26 yg_this yf_this_held yf_this_seen n x1 yf_this_waiting = some ql → ∀ (H : Heap) (locs : List Loc) (ls : Array Slot), va_P D vwCl [(a_this, .inr (1, rf_o1 a_this_finger a_this_waiting a_this_held a_this_seen yg_this)), (a_this_waiting, .inl (cA, 5022, .inl yf_this_waiting)), (a_this_held, .inl (cA, 9, .inl yf_this_held)), (a_this_seen, .inl (cA, 558, .inl yf_this_seen))] H → va_D A [(a_this, .inr (1, rf_o1 a_this_finger a_this_waiting a_this_held a_this_seen yg_this)), (a_this_waiting, .inl (cA, 5022, .inl yf_this_waiting)), (a_this_held, .inl (cA, 9, .inl yf_this_held)), (a_this_seen, .inl (cA, 558, .inl yf_this_seen))] → va_S A s.heap H locs → lv_has ls 2 [(0, .ref a_this), (1, .int x1)] → (∀ (H : Heap) (locs : List Loc) (ls : Array Slot), va_P D vwCl [(a_this, .inr (1, rf_o1 a_this_finger a_this_waiting a_this_held a_this_seen yg_this)), (a_this_waiting, .inl (cA, 5022, .inl ql.2)), (a_this_held, .inl (cA, 9, .inl yf_this_held)), (a_this_seen, .inl (cA, 558, .inl yf_this_seen))] H → va_D A [(a_this, .inr (1, rf_o1 a_this_finger a_this_waiting a_this_held a_this_seen yg_this)), (a_this_waiting, .inl (cA, 5022, .inl ql.2)), (a_this_held, .inl (cA, 9, .inl yf_this_held)), (a_this_seen, .inl (cA, 558, .inl yf_this_seen))] → va_S A s.heap H locs → lv_has ls 2 [(0, .ref a_this), (1, .int ql.1)] → W p l e (headSpec wsX1_clear ({ frames := 0, cells := 0, slots := 0, locals := 0 } : Room)).room s m ([.ref a_this] : List Value).toArray below meth c H locs 0 0 (MQ below (va_Qv (fun (_ : Unit) => True) (fun _ t => rf_Post D A [(a_this, .inr (1, rf_o1 a_this_finger a_this_waiting a_this_held a_this_seen q.1)), (a_this_waiting, .inl (cA, 5022, .inl q.2.1)), (a_this_held, .inl (cA, 9, .inl q.2.2.1)), (a_this_seen, .inl (cA, 558, .inl q.2.2.2))] t) A) ([.ref a_this] : List Value).toArray s 0 0 A) (F0 m 48 ls [])) → W p l e (headSpec wsX1_clear ({ frames := 0, cells := 0, slots := 0, locals := 0 } : Room)).room s m ([.ref a_this] : List Value).toArray below meth c H locs 0 0 (MQ below (va_Qv (fun (_ : Unit) => True) (fun _ t => rf_Post D A [(a_this, .inr (1, rf_o1 a_this_finger a_this_waiting a_this_held a_this_seen q.1)), (a_this_waiting, .inl (cA, 5022, .inl q.2.1)), (a_this_held, .inl (cA, 9, .inl q.2.2.1)), (a_this_seen, .inl (cA, 558, .inl q.2.2.2))] t) A) ([.ref a_this] : List Value).toArray s 0 0 A) (F0 m 26 ls []) := by
    intro yg_this yf_this_held yf_this_seen n
    induction n with
    | zero =>
      intro x1 yf_this_waiting ql hf H locs ls hP hD hS hl kx
      exact absurd (show (none : Option (Int32 × (Nat → Int32))) = some ql from hf) (fun h9 => by cases h9)
    | succ n ih =>
      intro x1 yf_this_waiting ql hf H locs ls hP hD hS hl kx
      rw [f_X1_clear_L26] at hf
      refine lv_iload_n hx hb dX1_clear_26 rfl (lv_at hl 1 rfl) ?_
      refine lv_aload_n hx hb dX1_clear_27 rfl (lv_at hl 0 rfl) ?_
      refine va_get (D := D) (ci := 1) (v := .ref a_this_waiting) (C := RX1) (T := TX1) (N := 7) hx hb hts jX1_clear_X1 hown hK hP 0 rfl rfl 1 (by decide) (hts _ kX1_clear_1) (fun _ h9 => h9) rfl dX1_clear_28 ?_
      refine va_alen (v := 5022) hx hb hK hP 1 0 rfl rfl (show Int32.ofNat 5022 = 5022 by decide) dX1_clear_31 ?_
      refine lv_icmp_ge (tgt := 48) hx hb dX1_clear_32 (by decide) (fun c4 => ?_) (fun c4 => ?_)
      · have hf := rf_ifp hf c4
        obtain rfl := Option.some.inj hf
        exact kx _ _ _ hP hD hS (lv_sub hl [0, 1] rfl)
      · have hf := rf_ifn hf c4
        refine lv_aload_n hx hb dX1_clear_35 rfl (lv_at hl 0 rfl) ?_
        refine va_get (D := D) (ci := 1) (v := .ref a_this_waiting) (C := RX1) (T := TX1) (N := 7) hx hb hts jX1_clear_X1 hown hK hP 0 rfl rfl 1 (by decide) (hts _ kX1_clear_1) (fun _ h9 => h9) rfl dX1_clear_36 ?_
        refine lv_iload_n hx hb dX1_clear_39 rfl (lv_at hl 1 rfl) ?_
        refine lv_iconst (v := 0) hx hb dX1_clear_40 (by decide) ?_
        obtain ⟨c5, hf⟩ := rf_chk hf
        refine va_iast hx hb hK hP hD hS 1 0 rfl rfl c5 dX1_clear_41 (fun H locs hP hD hS => ?_)
        have hP : va_P D vwCl [(a_this, .inr (1, rf_o1 a_this_finger a_this_waiting a_this_held a_this_seen yg_this)), (a_this_waiting, .inl (cA, 5022, .inl (upd yf_this_waiting (x1.toNatClampNeg) 0))), (a_this_held, .inl (cA, 9, .inl yf_this_held)), (a_this_seen, .inl (cA, 558, .inl yf_this_seen))] H := hP
        have hD : va_D A [(a_this, .inr (1, rf_o1 a_this_finger a_this_waiting a_this_held a_this_seen yg_this)), (a_this_waiting, .inl (cA, 5022, .inl (upd yf_this_waiting (x1.toNatClampNeg) 0))), (a_this_held, .inl (cA, 9, .inl yf_this_held)), (a_this_seen, .inl (cA, 558, .inl yf_this_seen))] := hD
        obtain ⟨v6, ev6⟩ : ∃ y : Int32, y = x1 + 1 := ⟨_, rfl⟩
        have hf := rf_bindv hf ev6
        refine lv_iinc (v := v6) (lv' := [(1, .int v6), (0, .ref a_this)]) hx hb dX1_clear_42 hl (k := 1) rfl (by rw [ev6]; rfl) (by decide) rfl (fun ls hl => ?_)
        clear ev6
        refine lv_goto (tgt := 26) hx hb dX1_clear_45 (by decide) ?_
        exact ih v6 (upd yf_this_waiting (x1.toNatClampNeg) 0) ql hf _ _ _ hP hD hS (lv_sub hl [1, 0] rfl) kx
  have key_50 : ∀ (yg_this yf_this_waiting yf_this_held : Nat → Int32) (n : Nat) (x1 : Int32) (yf_this_seen : Nat → Int32) (ql : Int32 × (Nat → Int32)), f_X1_clear_L50 yg_this yf_this_waiting yf_this_held n x1 yf_this_seen = some ql → ∀ (H : Heap) (locs : List Loc) (ls : Array Slot), va_P D vwCl [(a_this, .inr (1, rf_o1 a_this_finger a_this_waiting a_this_held a_this_seen yg_this)), (a_this_waiting, .inl (cA, 5022, .inl yf_this_waiting)), (a_this_held, .inl (cA, 9, .inl yf_this_held)), (a_this_seen, .inl (cA, 558, .inl yf_this_seen))] H → va_D A [(a_this, .inr (1, rf_o1 a_this_finger a_this_waiting a_this_held a_this_seen yg_this)), (a_this_waiting, .inl (cA, 5022, .inl yf_this_waiting)), (a_this_held, .inl (cA, 9, .inl yf_this_held)), (a_this_seen, .inl (cA, 558, .inl yf_this_seen))] → va_S A s.heap H locs → lv_has ls 2 [(0, .ref a_this), (1, .int x1)] → (∀ (H : Heap) (locs : List Loc) (ls : Array Slot), va_P D vwCl [(a_this, .inr (1, rf_o1 a_this_finger a_this_waiting a_this_held a_this_seen yg_this)), (a_this_waiting, .inl (cA, 5022, .inl yf_this_waiting)), (a_this_held, .inl (cA, 9, .inl yf_this_held)), (a_this_seen, .inl (cA, 558, .inl ql.2))] H → va_D A [(a_this, .inr (1, rf_o1 a_this_finger a_this_waiting a_this_held a_this_seen yg_this)), (a_this_waiting, .inl (cA, 5022, .inl yf_this_waiting)), (a_this_held, .inl (cA, 9, .inl yf_this_held)), (a_this_seen, .inl (cA, 558, .inl ql.2))] → va_S A s.heap H locs → lv_has ls 2 [(0, .ref a_this), (1, .int ql.1)] → W p l e (headSpec wsX1_clear ({ frames := 0, cells := 0, slots := 0, locals := 0 } : Room)).room s m ([.ref a_this] : List Value).toArray below meth c H locs 0 0 (MQ below (va_Qv (fun (_ : Unit) => True) (fun _ t => rf_Post D A [(a_this, .inr (1, rf_o1 a_this_finger a_this_waiting a_this_held a_this_seen q.1)), (a_this_waiting, .inl (cA, 5022, .inl q.2.1)), (a_this_held, .inl (cA, 9, .inl q.2.2.1)), (a_this_seen, .inl (cA, 558, .inl q.2.2.2))] t) A) ([.ref a_this] : List Value).toArray s 0 0 A) (F0 m 72 ls [])) → W p l e (headSpec wsX1_clear ({ frames := 0, cells := 0, slots := 0, locals := 0 } : Room)).room s m ([.ref a_this] : List Value).toArray below meth c H locs 0 0 (MQ below (va_Qv (fun (_ : Unit) => True) (fun _ t => rf_Post D A [(a_this, .inr (1, rf_o1 a_this_finger a_this_waiting a_this_held a_this_seen q.1)), (a_this_waiting, .inl (cA, 5022, .inl q.2.1)), (a_this_held, .inl (cA, 9, .inl q.2.2.1)), (a_this_seen, .inl (cA, 558, .inl q.2.2.2))] t) A) ([.ref a_this] : List Value).toArray s 0 0 A) (F0 m 50 ls []) := by
    intro yg_this yf_this_waiting yf_this_held n
    induction n with
    | zero =>
      intro x1 yf_this_seen ql hf H locs ls hP hD hS hl kx
      exact absurd (show (none : Option (Int32 × (Nat → Int32))) = some ql from hf) (fun h9 => by cases h9)
    | succ n ih =>
      intro x1 yf_this_seen ql hf H locs ls hP hD hS hl kx
      rw [f_X1_clear_L50] at hf
      refine lv_iload_n hx hb dX1_clear_50 rfl (lv_at hl 1 rfl) ?_
      refine lv_aload_n hx hb dX1_clear_51 rfl (lv_at hl 0 rfl) ?_
      refine va_get (D := D) (ci := 1) (v := .ref a_this_seen) (C := RX1) (T := TX1) (N := 7) hx hb hts jX1_clear_X1 hown hK hP 0 rfl rfl 3 (by decide) (hts _ kX1_clear_2) (fun _ h9 => h9) rfl dX1_clear_52 ?_
      refine va_alen (v := 558) hx hb hK hP 3 0 rfl rfl (show Int32.ofNat 558 = 558 by decide) dX1_clear_55 ?_
      refine lv_icmp_ge (tgt := 72) hx hb dX1_clear_56 (by decide) (fun c7 => ?_) (fun c7 => ?_)
      · have hf := rf_ifp hf c7
        obtain rfl := Option.some.inj hf
        exact kx _ _ _ hP hD hS (lv_sub hl [0, 1] rfl)
      · have hf := rf_ifn hf c7
        refine lv_aload_n hx hb dX1_clear_59 rfl (lv_at hl 0 rfl) ?_
        refine va_get (D := D) (ci := 1) (v := .ref a_this_seen) (C := RX1) (T := TX1) (N := 7) hx hb hts jX1_clear_X1 hown hK hP 0 rfl rfl 3 (by decide) (hts _ kX1_clear_2) (fun _ h9 => h9) rfl dX1_clear_60 ?_
        refine lv_iload_n hx hb dX1_clear_63 rfl (lv_at hl 1 rfl) ?_
        refine lv_iconst (v := 0) hx hb dX1_clear_64 (by decide) ?_
        obtain ⟨c8, hf⟩ := rf_chk hf
        refine va_iast hx hb hK hP hD hS 3 0 rfl rfl c8 dX1_clear_65 (fun H locs hP hD hS => ?_)
        have hP : va_P D vwCl [(a_this, .inr (1, rf_o1 a_this_finger a_this_waiting a_this_held a_this_seen yg_this)), (a_this_waiting, .inl (cA, 5022, .inl yf_this_waiting)), (a_this_held, .inl (cA, 9, .inl yf_this_held)), (a_this_seen, .inl (cA, 558, .inl (upd yf_this_seen (x1.toNatClampNeg) 0)))] H := hP
        have hD : va_D A [(a_this, .inr (1, rf_o1 a_this_finger a_this_waiting a_this_held a_this_seen yg_this)), (a_this_waiting, .inl (cA, 5022, .inl yf_this_waiting)), (a_this_held, .inl (cA, 9, .inl yf_this_held)), (a_this_seen, .inl (cA, 558, .inl (upd yf_this_seen (x1.toNatClampNeg) 0)))] := hD
        obtain ⟨v9, ev9⟩ : ∃ y : Int32, y = x1 + 1 := ⟨_, rfl⟩
        have hf := rf_bindv hf ev9
        refine lv_iinc (v := v9) (lv' := [(1, .int v9), (0, .ref a_this)]) hx hb dX1_clear_66 hl (k := 1) rfl (by rw [ev9]; rfl) (by decide) rfl (fun ls hl => ?_)
        clear ev9
        refine lv_goto (tgt := 50) hx hb dX1_clear_69 (by decide) ?_
        exact ih v9 (upd yf_this_seen (x1.toNatClampNeg) 0) ql hf _ _ _ hP hD hS (lv_sub hl [1, 0] rfl) kx
  rw [f_X1_clear] at hf
  refine lv_iconst (v := 0) hx hb dX1_clear_0 (by decide) ?_
  refine lv_istore_n (lv' := [(1, .int 0), (0, .ref a_this)]) hx hb dX1_clear_1 rfl hl (by decide) rfl (fun ls hl => ?_)
  obtain ⟨q10, hq10, hf⟩ := rf_bindq hf
  refine key_2 g_this f_this_waiting f_this_seen rf_fu 0 f_this_held q10 hq10 _ _ _ hP hD hS (lv_sub hl [1, 0] rfl) (fun H locs ls hP hD hS hl => ?_)
  refine lv_iconst (v := 0) hx hb dX1_clear_24 (by decide) ?_
  refine lv_istore_n (lv' := [(1, .int 0), (0, .ref a_this)]) hx hb dX1_clear_25 rfl hl (by decide) rfl (fun ls hl => ?_)
  obtain ⟨q11, hq11, hf⟩ := rf_bindq hf
  refine key_26 g_this q10.2 f_this_seen rf_fu 0 f_this_waiting q11 hq11 _ _ _ hP hD hS (lv_sub hl [1, 0] rfl) (fun H locs ls hP hD hS hl => ?_)
  refine lv_iconst (v := 0) hx hb dX1_clear_48 (by decide) ?_
  refine lv_istore_n (lv' := [(1, .int 0), (0, .ref a_this)]) hx hb dX1_clear_49 rfl hl (by decide) rfl (fun ls hl => ?_)
  obtain ⟨q12, hq12, hf⟩ := rf_bindq hf
  refine key_50 g_this q11.2 q10.2 rf_fu 0 f_this_seen q12 hq12 _ _ _ hP hD hS (lv_sub hl [1, 0] rfl) (fun H locs ls hP hD hS hl => ?_)
  refine lv_aload_n hx hb dX1_clear_72 rfl (lv_at hl 0 rfl) ?_
  refine lv_iconst (v := 0) hx hb dX1_clear_73 (by decide) ?_
  refine va_put (D := D) (ci := 1) (v := .int 0) (ty := .int) (C := RX1) (T := TX1) (N := 7) hx hb hts jX1_clear_X1 tyX1 tyX1_ok nmX1 hown hK hP hD hS 0 rfl rfl 4 (by decide) (hts _ kX1_clear_3) (fun _ h9 => h9) rfl (by decide +kernel) rfl rfl (Nat.le_of_ble_eq_true rfl) dX1_clear_74 (fun H locs hP hD hS => ?_)
  have hP : va_P D vwCl [(a_this, .inr (1, rf_o1 a_this_finger a_this_waiting a_this_held a_this_seen (upd g_this 0 0))), (a_this_waiting, .inl (cA, 5022, .inl q11.2)), (a_this_held, .inl (cA, 9, .inl q10.2)), (a_this_seen, .inl (cA, 558, .inl q12.2))] H := hP
  have hD : va_D A [(a_this, .inr (1, rf_o1 a_this_finger a_this_waiting a_this_held a_this_seen (upd g_this 0 0))), (a_this_waiting, .inl (cA, 5022, .inl q11.2)), (a_this_held, .inl (cA, 9, .inl q10.2)), (a_this_seen, .inl (cA, 558, .inl q12.2))] := hD
  obtain rfl := Option.some.inj hf
  exact W.vret hx hb hr (fun t ht hW => ⟨⟨(), rfl, trivial, rf_mk ht hP hD⟩, hS.F ht⟩) hS.2.2 dX1_clear_77
theorem kX1_see_0 : (.fieldLink RX1 25 "RingAndFinger$Search" "seen" "[I" : Cond) ∈ wsX1_see := by decide +kernel
theorem kX1_see_1 : (.initialized RX2 : Cond) ∈ wsX1_see := by decide +kernel
theorem kX1_see_2 : (.static yX2_at : Cond) ∈ wsX1_see := by decide +kernel
theorem kX1_see_3 : (.static yX2_put : Cond) ∈ wsX1_see := by decide +kernel
theorem jX1_see_X1 : ∀ w ∈ u_ws RX1 TX1 7, w ∈ wsX1_see := by decide +kernel
set_option maxHeartbeats 8000000 in
set_option maxRecDepth 100000 in
theorem c_X1_see (l : Launch) (D : va_G) (cA : ClassId) (ad : Nat → Nat) (a_this a_this_finger a_this_waiting a_this_held a_this_seen : Nat) (sz : Nat) (g_this f_this_seen : Nat → Int32) (p1 p2 : Int32) (q : (Nat → Int32)) (hf : f_X1_see g_this f_this_seen p1 p2 = some q) : Met l yX1_see wsX1_see ({ frames := 1, cells := 0, slots := 0, locals := 22 } : Room) (va_Pc [.ref a_this, .int p1, .int p2] (rf_Pre D cA ad [(a_this, .inr (1, rf_o1 a_this_finger a_this_waiting a_this_held a_this_seen g_this)), (a_this_seen, .inl (cA, 558, .inl f_this_seen))] sz)) (va_Qv (fun (_ : Unit) => True) (fun _ t => rf_Post D (va_A [(a_this, .inr (1, rf_o1 a_this_finger a_this_waiting a_this_held a_this_seen g_this)), (a_this_seen, .inl (cA, 558, .inl f_this_seen))] sz) [(a_this, .inr (1, rf_o1 a_this_finger a_this_waiting a_this_held a_this_seen g_this)), (a_this_seen, .inl (cA, 558, .inl q))] t) (va_A [(a_this, .inr (1, rf_o1 a_this_finger a_this_waiting a_this_held a_this_seen g_this)), (a_this_seen, .inl (cA, 558, .inl f_this_seen))] sz)) 0 0 (va_A [(a_this, .inr (1, rf_o1 a_this_finger a_this_waiting a_this_held a_this_seen g_this)), (a_this_seen, .inl (cA, 558, .inl f_this_seen))] sz) := by
  refine Met.ofW (cc := cX1_see) (maxL := 5) (ret := none) (by decide) rfl ?_
  intro p e s m args below meth c s₁ B hml hv
  obtain ⟨rfl, hsz, hP, hK, hD0, hE⟩ := hv
  have hx := B.exec
  have hb := B.bytes
  have hr := B.returns
  have hts := atoms_spec (ws := wsX1_see) B.pre
  have hown : s.vm.findClass RX1 = some m.cls := findClass_of_methodNamed B.named
  have hlocks := B.notSynchronized
  subst hsz
  have hD := hD0.self (sz := s.heap.size)
  generalize hAe : va_A [(a_this, .inr (1, rf_o1 a_this_finger a_this_waiting a_this_held a_this_seen g_this)), (a_this_seen, .inl (cA, 558, .inl f_this_seen))] s.heap.size = A at hD hE ⊢
  have hA : ∀ q : Nat, s.heap.size ≤ q → A q := fun q h => by rw [← hAe]; exact Or.inr h
  have hS : va_S A s.heap s.heap [] := va_S.rf
  have hP : va_P D vwCl [(a_this, .inr (1, rf_o1 a_this_finger a_this_waiting a_this_held a_this_seen g_this)), (a_this_seen, .inl (cA, 558, .inl f_this_seen))] s.heap := hP
  have hl := lv_entry ([.ref a_this, .int p1, .int p2]) (n := 5) (Nat.le_of_ble_eq_true rfl)
  rw [lg_entry_eq]
  generalize (lg_sl ([.ref a_this, .int p1, .int p2]) ++ List.replicate (5 - (lg_sl ([.ref a_this, .int p1, .int p2])).length) Slot.unset).toArray = ls at hl ⊢
  have hl : lv_has ls 5 [(0, .ref a_this), (1, .int p1), (2, .int p2)] := hl
  have key_8 : ∀ (x3 : Int32) (n : Nat) (x4 : Int32) (yf_this_seen : Nat → Int32) (ql : Int32 × (Nat → Int32)), f_X1_see_L8 g_this p1 p2 x3 n x4 yf_this_seen = some ql → ∀ (H : Heap) (locs : List Loc) (ls : Array Slot), va_P D vwCl [(a_this, .inr (1, rf_o1 a_this_finger a_this_waiting a_this_held a_this_seen g_this)), (a_this_seen, .inl (cA, 558, .inl yf_this_seen))] H → va_D A [(a_this, .inr (1, rf_o1 a_this_finger a_this_waiting a_this_held a_this_seen g_this)), (a_this_seen, .inl (cA, 558, .inl yf_this_seen))] → va_S A s.heap H locs → lv_has ls 5 [(0, .ref a_this), (1, .int p1), (2, .int p2), (3, .int x3), (4, .int x4)] → (∀ (H : Heap) (locs : List Loc) (ls : Array Slot), va_P D vwCl [(a_this, .inr (1, rf_o1 a_this_finger a_this_waiting a_this_held a_this_seen g_this)), (a_this_seen, .inl (cA, 558, .inl ql.2))] H → va_D A [(a_this, .inr (1, rf_o1 a_this_finger a_this_waiting a_this_held a_this_seen g_this)), (a_this_seen, .inl (cA, 558, .inl ql.2))] → va_S A s.heap H locs → lv_has ls 5 [(0, .ref a_this), (1, .int p1), (2, .int p2), (3, .int x3), (4, .int ql.1)] → W p l e (headSpec wsX1_see ({ frames := 1, cells := 0, slots := 0, locals := 22 } : Room)).room s m ([.ref a_this, .int p1, .int p2] : List Value).toArray below meth c H locs 0 0 (MQ below (va_Qv (fun (_ : Unit) => True) (fun _ t => rf_Post D A [(a_this, .inr (1, rf_o1 a_this_finger a_this_waiting a_this_held a_this_seen g_this)), (a_this_seen, .inl (cA, 558, .inl q))] t) A) ([.ref a_this, .int p1, .int p2] : List Value).toArray s 0 0 A) (F0 m 52 ls [])) → W p l e (headSpec wsX1_see ({ frames := 1, cells := 0, slots := 0, locals := 22 } : Room)).room s m ([.ref a_this, .int p1, .int p2] : List Value).toArray below meth c H locs 0 0 (MQ below (va_Qv (fun (_ : Unit) => True) (fun _ t => rf_Post D A [(a_this, .inr (1, rf_o1 a_this_finger a_this_waiting a_this_held a_this_seen g_this)), (a_this_seen, .inl (cA, 558, .inl q))] t) A) ([.ref a_this, .int p1, .int p2] : List Value).toArray s 0 0 A) (F0 m 8 ls []) := by
    intro x3 n
    induction n with
    | zero =>
      intro x4 yf_this_seen ql hf H locs ls hP hD hS hl kx
      exact absurd (show (none : Option (Int32 × (Nat → Int32))) = some ql from hf) (fun h9 => by cases h9)
    | succ n ih =>
      intro x4 yf_this_seen ql hf H locs ls hP hD hS hl kx
      rw [f_X1_see_L8] at hf
      refine lv_iload_n hx hb dX1_see_8 rfl (lv_at hl 3 rfl) ?_
      refine lv_iload hx hb dX1_see_9 (lv_at hl 4 rfl) ?_
      refine lv_iadd hx hb dX1_see_11 ?_
      refine lv_bipush (v := 31) hx hb dX1_see_12 (by decide) ?_
      refine lv_icmp_ge (tgt := 52) hx hb dX1_see_14 (by decide) (fun c1 => ?_) (fun c1 => ?_)
      · have hf := rf_ifp hf c1
        obtain rfl := Option.some.inj hf
        exact kx _ _ _ hP hD hS (lv_sub hl [0, 1, 2, 3, 4] rfl)
      · have hf := rf_ifn hf c1
        refine lv_aload_n hx hb dX1_see_17 rfl (lv_at hl 0 rfl) ?_
        refine va_get (D := D) (ci := 1) (v := .ref a_this_seen) (C := RX1) (T := TX1) (N := 7) hx hb hts jX1_see_X1 hown hK hP 0 rfl rfl 3 (by decide) (hts _ kX1_see_0) (fun _ h9 => h9) rfl dX1_see_18 ?_
        refine lv_iload_n hx hb dX1_see_21 rfl (lv_at hl 1 rfl) ?_
        refine lv_iload hx hb dX1_see_22 (lv_at hl 4 rfl) ?_
        refine lv_iadd hx hb dX1_see_24 ?_
        obtain ⟨q2, hq2, hf⟩ := rf_bindq hf
        refine rf_Ni (As := [.ref a_this_seen, .int (p1 + x4)]) (rest := []) (wr := [(a_this, .inr (1, rf_o1 a_this_finger a_this_waiting a_this_held a_this_seen g_this))]) (wn := [(a_this, .inr (1, rf_o1 a_this_finger a_this_waiting a_this_held a_this_seen g_this)), (a_this_seen, .inl (cA, 558, .inl yf_this_seen))]) ⟨hx, hb, hml, hown, hts⟩ hK hP hD hS hA hE (c_X2_at l D cA ad a_this_seen H.size 558 yf_this_seen (p1 + x4) q2 hq2) ⟨va_cnB (host := "RingAndFinger") 2 hts gX1_see_X2_at_n64 rfl rfl rfl (hE.1 5 _ rfl) (hts _ kX1_see_1) hn_X2_at ⟨Nat.le_of_ble_eq_true rfl, Nat.le_of_ble_eq_true rfl⟩, (hts _ kX1_see_2), trivial⟩ [1] [0] [0, 1] rfl rfl rfl rfl (by decide) rfl rfl rfl rfl hl.1 (Nat.le_of_ble_eq_true rfl) dX1_see_25 ⟨Nat.zero_le _, Nat.zero_le _⟩ (fun H locs hP hD hS => ?_)
        refine lv_iload_n hx hb dX1_see_28 rfl (lv_at hl 2 rfl) ?_
        refine lv_icmp_gt (tgt := 52) hx hb dX1_see_29 (by decide) (fun c3 => ?_) (fun c3 => ?_)
        · have hf := rf_ifp hf c3
          obtain rfl := Option.some.inj hf
          exact kx _ _ _ hP hD hS (lv_sub hl [0, 1, 2, 3, 4] rfl)
        · have hf := rf_ifn hf c3
          refine lv_aload_n hx hb dX1_see_32 rfl (lv_at hl 0 rfl) ?_
          refine va_get (D := D) (ci := 1) (v := .ref a_this_seen) (C := RX1) (T := TX1) (N := 7) hx hb hts jX1_see_X1 hown hK hP 0 rfl rfl 3 (by decide) (hts _ kX1_see_0) (fun _ h9 => h9) rfl dX1_see_33 ?_
          refine lv_iload_n hx hb dX1_see_36 rfl (lv_at hl 1 rfl) ?_
          refine lv_iload hx hb dX1_see_37 (lv_at hl 4 rfl) ?_
          refine lv_iadd hx hb dX1_see_39 ?_
          refine lv_iload_n hx hb dX1_see_40 rfl (lv_at hl 2 rfl) ?_
          refine lv_iconst (v := 1) hx hb dX1_see_41 (by decide) ?_
          refine lv_iadd hx hb dX1_see_42 ?_
          obtain ⟨q4, hq4, hf⟩ := rf_bindq hf
          refine rf_Nv (As := [.ref a_this_seen, .int (p1 + x4), .int (p2 + 1)]) (rest := []) (wr := [(a_this, .inr (1, rf_o1 a_this_finger a_this_waiting a_this_held a_this_seen g_this))]) (wn := [(a_this, .inr (1, rf_o1 a_this_finger a_this_waiting a_this_held a_this_seen g_this)), (a_this_seen, .inl (cA, 558, .inl q4))]) ⟨hx, hb, hml, hown, hts⟩ hK hP hD hS hA hE (c_X2_put l D cA ad a_this_seen H.size 558 yf_this_seen (p1 + x4) (p2 + 1) q4 hq4) ⟨va_cnB (host := "RingAndFinger") 3 hts gX1_see_X2_put_n71 rfl rfl rfl (hE.1 6 _ rfl) (hts _ kX1_see_1) hn_X2_put ⟨Nat.le_of_ble_eq_true rfl, Nat.le_of_ble_eq_true rfl⟩, (hts _ kX1_see_3), trivial⟩ [1] [0] [0, 1] rfl rfl rfl rfl (by decide) rfl rfl rfl rfl hl.1 (Nat.le_of_ble_eq_true rfl) dX1_see_43 ⟨Nat.zero_le _, Nat.zero_le _⟩ (fun H locs hP hD hS => ?_)
          obtain ⟨v5, ev5⟩ : ∃ y : Int32, y = x4 + 1 := ⟨_, rfl⟩
          have hf := rf_bindv hf ev5
          refine lv_iinc (v := v5) (lv' := [(4, .int v5), (0, .ref a_this), (1, .int p1), (2, .int p2), (3, .int x3)]) hx hb dX1_see_46 hl (k := 4) rfl (by rw [ev5]; rfl) (by decide) rfl (fun ls hl => ?_)
          clear ev5
          refine lv_goto (tgt := 8) hx hb dX1_see_49 (by decide) ?_
          exact ih v5 q4 ql hf _ _ _ hP hD hS (lv_sub hl [1, 2, 3, 4, 0] rfl) kx
  rw [f_X1_see] at hf
  refine lv_iload_n hx hb dX1_see_0 rfl (lv_at hl 1 rfl) ?_
  refine lv_bipush (v := 31) hx hb dX1_see_1 (by decide) ?_
  refine lv_irem hx hb dX1_see_3 (by decide) ?_
  refine lv_topi (fun v6 ev6 => ?_)
  have hf := rf_bindv hf ev6
  clear ev6
  refine lv_istore_n (lv' := [(3, .int v6), (0, .ref a_this), (1, .int p1), (2, .int p2)]) hx hb dX1_see_4 rfl hl (by decide) rfl (fun ls hl => ?_)
  refine lv_iconst (v := 0) hx hb dX1_see_5 (by decide) ?_
  refine lv_istore (lv' := [(4, .int 0), (3, .int v6), (0, .ref a_this), (1, .int p1), (2, .int p2)]) hx hb dX1_see_6 hl (by decide) rfl (fun ls hl => ?_)
  obtain ⟨q7, hq7, hf⟩ := rf_bindq hf
  refine key_8 v6 rf_fu 0 f_this_seen q7 hq7 _ _ _ hP hD hS (lv_sub hl [2, 3, 4, 1, 0] rfl) (fun H locs ls hP hD hS hl => ?_)
  obtain rfl := Option.some.inj hf
  exact W.vret hx hb hr (fun t ht hW => ⟨⟨(), rfl, trivial, rf_mk ht hP hD⟩, hS.F ht⟩) hS.2.2 dX1_see_52
theorem kX1_stand_0 : (.fieldLink RX1 14 "RingAndFinger$Search" "finger" "LRingAndFinger$Finger;" : Cond) ∈ wsX1_stand := by decide +kernel
theorem kX1_stand_1 : (.fieldLink RX1 58 "RingAndFinger$Finger" "front" "I" : Cond) ∈ wsX1_stand := by decide +kernel
theorem kX1_stand_2 : (.fieldLink RX1 61 "RingAndFinger$Finger" "swell" "I" : Cond) ∈ wsX1_stand := by decide +kernel
theorem kX1_stand_3 : (.fieldLink RX1 68 "RingAndFinger$Finger" "cold" "I" : Cond) ∈ wsX1_stand := by decide +kernel
theorem jX1_stand_X1 : ∀ w ∈ u_ws RX1 TX1 7, w ∈ wsX1_stand := by decide +kernel
theorem jX1_stand_X0 : ∀ w ∈ u_ws RX0 TX0 12, w ∈ wsX1_stand := by decide +kernel
set_option maxHeartbeats 8000000 in
set_option maxRecDepth 100000 in
theorem c_X1_stand (l : Launch) (D : va_G) (cA : ClassId) (ad : Nat → Nat) (a_this a_this_finger a_this_waiting a_this_held a_this_seen a_this_finger_kinds a_this_finger_thicks : Nat) (sz : Nat) (g_this g_this_finger : Nat → Int32) (p1 p2 : Int32) (q : (Nat → Int32)) (hf : f_X1_stand g_this g_this_finger p1 p2 = some q) : Met l yX1_stand wsX1_stand ({ frames := 0, cells := 0, slots := 0, locals := 0 } : Room) (va_Pc [.ref a_this, .int p1, .int p2] (rf_Pre D cA ad [(a_this, .inr (1, rf_o1 a_this_finger a_this_waiting a_this_held a_this_seen g_this)), (a_this_finger, .inr (0, rf_o0 a_this_finger_kinds a_this_finger_thicks g_this_finger))] sz)) (va_Qv (fun (_ : Unit) => True) (fun _ t => rf_Post D (va_A [(a_this, .inr (1, rf_o1 a_this_finger a_this_waiting a_this_held a_this_seen g_this)), (a_this_finger, .inr (0, rf_o0 a_this_finger_kinds a_this_finger_thicks g_this_finger))] sz) [(a_this, .inr (1, rf_o1 a_this_finger a_this_waiting a_this_held a_this_seen g_this)), (a_this_finger, .inr (0, rf_o0 a_this_finger_kinds a_this_finger_thicks q))] t) (va_A [(a_this, .inr (1, rf_o1 a_this_finger a_this_waiting a_this_held a_this_seen g_this)), (a_this_finger, .inr (0, rf_o0 a_this_finger_kinds a_this_finger_thicks g_this_finger))] sz)) 0 0 (va_A [(a_this, .inr (1, rf_o1 a_this_finger a_this_waiting a_this_held a_this_seen g_this)), (a_this_finger, .inr (0, rf_o0 a_this_finger_kinds a_this_finger_thicks g_this_finger))] sz) := by
  refine Met.ofW (cc := cX1_stand) (maxL := 3) (ret := none) (by decide) rfl ?_
  intro p e s m args below meth c s₁ B hml hv
  obtain ⟨rfl, hsz, hP, hK, hD0, hE⟩ := hv
  have hx := B.exec
  have hb := B.bytes
  have hr := B.returns
  have hts := atoms_spec (ws := wsX1_stand) B.pre
  have hown : s.vm.findClass RX1 = some m.cls := findClass_of_methodNamed B.named
  have hlocks := B.notSynchronized
  subst hsz
  have hD := hD0.self (sz := s.heap.size)
  generalize hAe : va_A [(a_this, .inr (1, rf_o1 a_this_finger a_this_waiting a_this_held a_this_seen g_this)), (a_this_finger, .inr (0, rf_o0 a_this_finger_kinds a_this_finger_thicks g_this_finger))] s.heap.size = A at hD hE ⊢
  have hA : ∀ q : Nat, s.heap.size ≤ q → A q := fun q h => by rw [← hAe]; exact Or.inr h
  have hS : va_S A s.heap s.heap [] := va_S.rf
  have hP : va_P D vwCl [(a_this, .inr (1, rf_o1 a_this_finger a_this_waiting a_this_held a_this_seen g_this)), (a_this_finger, .inr (0, rf_o0 a_this_finger_kinds a_this_finger_thicks g_this_finger))] s.heap := hP
  have hl := lv_entry ([.ref a_this, .int p1, .int p2]) (n := 3) (Nat.le_of_ble_eq_true rfl)
  rw [lg_entry_eq]
  generalize (lg_sl ([.ref a_this, .int p1, .int p2]) ++ List.replicate (3 - (lg_sl ([.ref a_this, .int p1, .int p2])).length) Slot.unset).toArray = ls at hl ⊢
  have hl : lv_has ls 3 [(0, .ref a_this), (1, .int p1), (2, .int p2)] := hl
  rw [f_X1_stand] at hf
  refine lv_aload_n hx hb dX1_stand_0 rfl (lv_at hl 0 rfl) ?_
  refine va_get (D := D) (ci := 1) (v := .ref a_this_finger) (C := RX1) (T := TX1) (N := 7) hx hb hts jX1_stand_X1 hown hK hP 0 rfl rfl 0 (by decide) (hts _ kX1_stand_0) (fun _ h9 => h9) rfl dX1_stand_1 ?_
  refine lv_iload_n hx hb dX1_stand_4 rfl (lv_at hl 1 rfl) ?_
  refine lv_bipush (v := 31) hx hb dX1_stand_5 (by decide) ?_
  refine lv_idiv hx hb dX1_stand_7 (by decide) ?_
  refine lv_iconst (v := 3) hx hb dX1_stand_8 (by decide) ?_
  refine lv_idiv hx hb dX1_stand_9 (by decide) ?_
  refine lv_topi (fun v1 ev1 => ?_)
  have hf := rf_bindv hf ev1
  clear ev1
  refine va_put (D := D) (ci := 0) (v := .int v1) (ty := .int) (C := RX0) (T := TX0) (N := 12) hx hb hts jX1_stand_X0 tyX0 tyX0_ok nmX0 hown hK hP hD hS 1 rfl rfl 5 (by decide) (hts _ kX1_stand_1) (fun _ h9 => h9) rfl (by decide +kernel) rfl rfl (Nat.le_of_ble_eq_true rfl) dX1_stand_10 (fun H locs hP hD hS => ?_)
  have hP : va_P D vwCl [(a_this, .inr (1, rf_o1 a_this_finger a_this_waiting a_this_held a_this_seen g_this)), (a_this_finger, .inr (0, rf_o0 a_this_finger_kinds a_this_finger_thicks (upd g_this_finger 3 v1)))] H := hP
  have hD : va_D A [(a_this, .inr (1, rf_o1 a_this_finger a_this_waiting a_this_held a_this_seen g_this)), (a_this_finger, .inr (0, rf_o0 a_this_finger_kinds a_this_finger_thicks (upd g_this_finger 3 v1)))] := hD
  refine lv_aload_n hx hb dX1_stand_13 rfl (lv_at hl 0 rfl) ?_
  refine va_get (D := D) (ci := 1) (v := .ref a_this_finger) (C := RX1) (T := TX1) (N := 7) hx hb hts jX1_stand_X1 hown hK hP 0 rfl rfl 0 (by decide) (hts _ kX1_stand_0) (fun _ h9 => h9) rfl dX1_stand_14 ?_
  refine lv_iload_n hx hb dX1_stand_17 rfl (lv_at hl 1 rfl) ?_
  refine lv_bipush (v := 31) hx hb dX1_stand_18 (by decide) ?_
  refine lv_irem hx hb dX1_stand_20 (by decide) ?_
  refine lv_topi (fun v2 ev2 => ?_)
  have hf := rf_bindv hf ev2
  clear ev2
  refine va_put (D := D) (ci := 0) (v := .int v2) (ty := .int) (C := RX0) (T := TX0) (N := 12) hx hb hts jX1_stand_X0 tyX0 tyX0_ok nmX0 hown hK hP hD hS 1 rfl rfl 6 (by decide) (hts _ kX1_stand_2) (fun _ h9 => h9) rfl (by decide +kernel) rfl rfl (Nat.le_of_ble_eq_true rfl) dX1_stand_21 (fun H locs hP hD hS => ?_)
  have hP : va_P D vwCl [(a_this, .inr (1, rf_o1 a_this_finger a_this_waiting a_this_held a_this_seen g_this)), (a_this_finger, .inr (0, rf_o0 a_this_finger_kinds a_this_finger_thicks (upd (upd g_this_finger 3 v1) 4 v2)))] H := hP
  have hD : va_D A [(a_this, .inr (1, rf_o1 a_this_finger a_this_waiting a_this_held a_this_seen g_this)), (a_this_finger, .inr (0, rf_o0 a_this_finger_kinds a_this_finger_thicks (upd (upd g_this_finger 3 v1) 4 v2)))] := hD
  refine lv_aload_n hx hb dX1_stand_24 rfl (lv_at hl 0 rfl) ?_
  refine va_get (D := D) (ci := 1) (v := .ref a_this_finger) (C := RX1) (T := TX1) (N := 7) hx hb hts jX1_stand_X1 hown hK hP 0 rfl rfl 0 (by decide) (hts _ kX1_stand_0) (fun _ h9 => h9) rfl dX1_stand_25 ?_
  refine lv_iload_n hx hb dX1_stand_28 rfl (lv_at hl 2 rfl) ?_
  refine va_put (D := D) (ci := 0) (v := .int p2) (ty := .int) (C := RX0) (T := TX0) (N := 12) hx hb hts jX1_stand_X0 tyX0 tyX0_ok nmX0 hown hK hP hD hS 1 rfl rfl 7 (by decide) (hts _ kX1_stand_3) (fun _ h9 => h9) rfl (by decide +kernel) rfl rfl (Nat.le_of_ble_eq_true rfl) dX1_stand_29 (fun H locs hP hD hS => ?_)
  have hP : va_P D vwCl [(a_this, .inr (1, rf_o1 a_this_finger a_this_waiting a_this_held a_this_seen g_this)), (a_this_finger, .inr (0, rf_o0 a_this_finger_kinds a_this_finger_thicks (upd (upd (upd g_this_finger 3 v1) 4 v2) 5 p2)))] H := hP
  have hD : va_D A [(a_this, .inr (1, rf_o1 a_this_finger a_this_waiting a_this_held a_this_seen g_this)), (a_this_finger, .inr (0, rf_o0 a_this_finger_kinds a_this_finger_thicks (upd (upd (upd g_this_finger 3 v1) 4 v2) 5 p2)))] := hD
  obtain rfl := Option.some.inj hf
  exact W.vret hx hb hr (fun t ht hW => ⟨⟨(), rfl, trivial, rf_mk ht hP hD⟩, hS.F ht⟩) hS.2.2 dX1_stand_32
theorem kX2_movePrice_0 : (.fieldLink RX2 114 "RingAndFinger" "MOVE_MINUTES" "[I" : Cond) ∈ wsX2_movePrice := by decide +kernel
theorem kX2_movePrice_1 : (.fieldLink RX2 120 "RingAndFinger" "MOVE_HARM" "[I" : Cond) ∈ wsX2_movePrice := by decide +kernel
set_option maxHeartbeats 8000000 in
set_option maxRecDepth 100000 in
theorem c_X2_movePrice (l : Launch) (D : va_G) (cA : ClassId) (ad : Nat → Nat) (sz : Nat) (p0 p1 : Int32) (q : Int32) (hf : f_X2_movePrice p0 p1 = some q) : Met l yX2_movePrice wsX2_movePrice ({ frames := 1, cells := 0, slots := 0, locals := 21 } : Room) (va_Pc [.int p0, .int p1] (rf_Pre D cA ad [] sz)) (va_Qi (fun (r : Int32) (_ : Unit) => r = q) (fun _ t => rf_Post D (va_A [] sz) [] t) (va_A [] sz)) 0 0 (va_A [] sz) := by
  refine Met.ofW (cc := cX2_movePrice) (maxL := 2) (ret := (some .int)) (by decide) rfl ?_
  intro p e s m args below meth c s₁ B hml hv
  obtain ⟨rfl, hsz, hP, hK, hD0, hE⟩ := hv
  have hx := B.exec
  have hb := B.bytes
  have hr := B.returns
  have hts := atoms_spec (ws := wsX2_movePrice) B.pre
  have hown : s.vm.findClass RX2 = some m.cls := findClass_of_methodNamed B.named
  have hlocks := B.notSynchronized
  subst hsz
  have hD := hD0.self (sz := s.heap.size)
  generalize hAe : va_A [] s.heap.size = A at hD hE ⊢
  have hA : ∀ q : Nat, s.heap.size ≤ q → A q := fun q h => by rw [← hAe]; exact Or.inr h
  have hS : va_S A s.heap s.heap [] := va_S.rf
  have hP : va_P D vwCl [] s.heap := hP
  have hl := lv_entry ([.int p0, .int p1]) (n := 2) (Nat.le_of_ble_eq_true rfl)
  rw [lg_entry_eq]
  generalize (lg_sl ([.int p0, .int p1]) ++ List.replicate (2 - (lg_sl ([.int p0, .int p1])).length) Slot.unset).toArray = ls at hl ⊢
  have hl : lv_has ls 2 [(0, .int p0), (1, .int p1)] := hl
  rw [f_X2_movePrice] at hf
  refine lv_iload_n hx hb dX2_movePrice_0 rfl (lv_at hl 1 rfl) ?_
  refine lv_if_eq (tgt := 14) hx hb dX2_movePrice_1 (by decide) (fun c1 => ?_) (fun c1 => ?_)
  · have hf := rf_ifp hf c1
    refine va_gets (v := .ref (ad 2)) hx hb (hE.2.2 2 _ rfl).1 hS hown (hts _ kX2_movePrice_0) (fun _ h9 => h9) dX2_movePrice_14 ?_
    refine lv_iload_n hx hb dX2_movePrice_17 rfl (lv_at hl 0 rfl) ?_
    obtain ⟨q2, hq2, hf⟩ := rf_bindq hf
    refine rf_SiT (As := [.ref (ad 2), .int p0]) (rest := []) ⟨hx, hb, hml, hown, hts⟩ hK hP hD hS hA hE (c_X2_at_T l D cA ad (ad 2) s.heap.size 8 rf_a2 p0 q2 hq2) (va_cwS 2 hts gX2_movePrice_X2_at rfl rfl rfl hs_X2_at ⟨Nat.le_of_ble_eq_true rfl, Nat.le_of_ble_eq_true rfl⟩) rfl rfl hl.1 (Nat.le_of_ble_eq_true rfl) dX2_movePrice_18 ⟨Nat.zero_le _, Nat.zero_le _⟩ (hE.2.2 2 _ rfl).2 (fun H locs hP hD hS => ?_)
    obtain rfl := Option.some.inj hf
    exact W.iret (v := q2) hx hb hr (fun t ht hW => ⟨⟨q2, (), rfl, rfl, rf_mk ht hP hD⟩, hS.F ht⟩) hS.2.2 dX2_movePrice_21
  · have hf := rf_ifn hf c1
    refine va_gets (v := .ref (ad 4)) hx hb (hE.2.2 4 _ rfl).1 hS hown (hts _ kX2_movePrice_1) (fun _ h9 => h9) dX2_movePrice_4 ?_
    refine lv_iload_n hx hb dX2_movePrice_7 rfl (lv_at hl 0 rfl) ?_
    obtain ⟨q3, hq3, hf⟩ := rf_bindq hf
    refine rf_SiT (As := [.ref (ad 4), .int p0]) (rest := []) ⟨hx, hb, hml, hown, hts⟩ hK hP hD hS hA hE (c_X2_at_T l D cA ad (ad 4) s.heap.size 8 rf_a4 p0 q3 hq3) (va_cwS 2 hts gX2_movePrice_X2_at rfl rfl rfl hs_X2_at ⟨Nat.le_of_ble_eq_true rfl, Nat.le_of_ble_eq_true rfl⟩) rfl rfl hl.1 (Nat.le_of_ble_eq_true rfl) dX2_movePrice_8 ⟨Nat.zero_le _, Nat.zero_le _⟩ (hE.2.2 4 _ rfl).2 (fun H locs hP hD hS => ?_)
    refine lv_goto (tgt := 21) hx hb dX2_movePrice_11 (by decide) ?_
    obtain rfl := Option.some.inj hf
    exact W.iret (v := q3) hx hb hr (fun t ht hW => ⟨⟨q3, (), rfl, rfl, rf_mk ht hP hD⟩, hS.F ht⟩) hS.2.2 dX2_movePrice_21
