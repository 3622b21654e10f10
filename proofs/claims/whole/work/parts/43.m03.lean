theorem hs_X3_placeOf : yX3_placeOf.cls ≠ "java/lang/invoke/MethodHandle" ∧ yX3_placeOf.cls ≠ "java/lang/invoke/VarHandle" ∧ (parseMethodDescriptor yX3_placeOf.desc).map (fun d => d.parameters.length) = some 1 := by decide +kernel
theorem kX3_set_0 : (.fieldLink RX3 9 "RingAndFingerModel" "s" "[I" : Cond) ∈ wsX3_set := by decide +kernel
theorem jX3_set_X3 : ∀ w ∈ u_ws RX3 TX3 16, w ∈ wsX3_set := by decide +kernel
set_option maxHeartbeats 8000000 in
set_option maxRecDepth 100000 in
theorem c_X3_set (l : Launch) (D : va_G) (cA : ClassId) (ad : Nat → Nat) (a_this a_this_s a_this_image a_this_read a_this_mind a_this_letters a_this_row a_this_refused a_this_numbers a_this_cost : Nat) (sz : Nat) (g_this f_this_s f_this_refused : Nat → Int32) (p1 p2 : Int32) (q : Int32 × (Nat → Int32) × (Nat → Int32)) (hf : f_X3_set g_this f_this_s f_this_refused p1 p2 = some q) : Met l yX3_set wsX3_set ({ frames := 1, cells := 0, slots := 0, locals := 22 } : Room) (va_Pc [.ref a_this, .int p1, .int p2] (rf_Pre D cA ad [(a_this, .inr (3, rf_o3 a_this_s a_this_image a_this_read a_this_mind a_this_letters a_this_row a_this_refused a_this_numbers a_this_cost g_this)), (a_this_s, .inl (cA, 22, .inl f_this_s)), (a_this_refused, .inl (cA, 7, .inl f_this_refused))] sz)) (va_Qi (fun (r : Int32) (_ : Unit) => r = q.1) (fun _ t => rf_Post D (va_A [(a_this, .inr (3, rf_o3 a_this_s a_this_image a_this_read a_this_mind a_this_letters a_this_row a_this_refused a_this_numbers a_this_cost g_this)), (a_this_s, .inl (cA, 22, .inl f_this_s)), (a_this_refused, .inl (cA, 7, .inl f_this_refused))] sz) [(a_this, .inr (3, rf_o3 a_this_s a_this_image a_this_read a_this_mind a_this_letters a_this_row a_this_refused a_this_numbers a_this_cost g_this)), (a_this_s, .inl (cA, 22, .inl q.2.1)), (a_this_refused, .inl (cA, 7, .inl q.2.2))] t) (va_A [(a_this, .inr (3, rf_o3 a_this_s a_this_image a_this_read a_this_mind a_this_letters a_this_row a_this_refused a_this_numbers a_this_cost g_this)), (a_this_s, .inl (cA, 22, .inl f_this_s)), (a_this_refused, .inl (cA, 7, .inl f_this_refused))] sz)) 0 0 (va_A [(a_this, .inr (3, rf_o3 a_this_s a_this_image a_this_read a_this_mind a_this_letters a_this_row a_this_refused a_this_numbers a_this_cost g_this)), (a_this_s, .inl (cA, 22, .inl f_this_s)), (a_this_refused, .inl (cA, 7, .inl f_this_refused))] sz) := by
  refine Met.ofW (cc := cX3_set) (maxL := 6) (ret := (some .int)) (by decide) rfl ?_
  intro p e s m args below meth c s₁ B hml hv
  obtain ⟨rfl, hsz, hP, hK, hD0, hE⟩ := hv
  have hx := B.exec
  have hb := B.bytes
  have hr := B.returns
  have hts := atoms_spec (ws := wsX3_set) B.pre
  have hown : s.vm.findClass RX3 = some m.cls := findClass_of_methodNamed B.named
  have hlocks := B.notSynchronized
  subst hsz
  have hD := hD0.self (sz := s.heap.size)
  generalize hAe : va_A [(a_this, .inr (3, rf_o3 a_this_s a_this_image a_this_read a_this_mind a_this_letters a_this_row a_this_refused a_this_numbers a_this_cost g_this)), (a_this_s, .inl (cA, 22, .inl f_this_s)), (a_this_refused, .inl (cA, 7, .inl f_this_refused))] s.heap.size = A at hD hE ⊢
  have hA : ∀ q : Nat, s.heap.size ≤ q → A q := fun q h => by rw [← hAe]; exact Or.inr h
  have hS : va_S A s.heap s.heap [] := va_S.rf
  have hP : va_P D vwCl [(a_this, .inr (3, rf_o3 a_this_s a_this_image a_this_read a_this_mind a_this_letters a_this_row a_this_refused a_this_numbers a_this_cost g_this)), (a_this_s, .inl (cA, 22, .inl f_this_s)), (a_this_refused, .inl (cA, 7, .inl f_this_refused))] s.heap := hP
  have hl := lv_entry ([.ref a_this, .int p1, .int p2]) (n := 6) (Nat.le_of_ble_eq_true rfl)
  rw [lg_entry_eq]
  generalize (lg_sl ([.ref a_this, .int p1, .int p2]) ++ List.replicate (6 - (lg_sl ([.ref a_this, .int p1, .int p2])).length) Slot.unset).toArray = ls at hl ⊢
  have hl : lv_has ls 6 [(0, .ref a_this), (1, .int p1), (2, .int p2)] := hl
  rw [f_X3_set] at hf
  refine lv_iload_n hx hb dX3_set_0 rfl (lv_at hl 1 rfl) ?_
  refine lv_iconst (v := 0) hx hb dX3_set_1 (by decide) ?_
  refine lv_iconst (v := 4) hx hb dX3_set_2 (by decide) ?_
  obtain ⟨q1, hq1, hf⟩ := rf_bindq hf
  refine rf_Si (As := [.int p1, .int 0, .int 4]) (rest := []) (wr := [(a_this, .inr (3, rf_o3 a_this_s a_this_image a_this_read a_this_mind a_this_letters a_this_row a_this_refused a_this_numbers a_this_cost g_this)), (a_this_s, .inl (cA, 22, .inl f_this_s)), (a_this_refused, .inl (cA, 7, .inl f_this_refused))]) (wn := [(a_this, .inr (3, rf_o3 a_this_s a_this_image a_this_read a_this_mind a_this_letters a_this_row a_this_refused a_this_numbers a_this_cost g_this)), (a_this_s, .inl (cA, 22, .inl f_this_s)), (a_this_refused, .inl (cA, 7, .inl f_this_refused))]) ⟨hx, hb, hml, hown, hts⟩ hK hP hD hS hA hE (c_X3_isIn l D cA ad s.heap.size p1 0 4 q1 hq1) (va_cwS 3 hts gX3_set_X3_isIn rfl rfl rfl hs_X3_isIn ⟨Nat.le_of_ble_eq_true rfl, Nat.le_of_ble_eq_true rfl⟩) [] [0, 1, 2] [0, 1, 2] rfl rfl rfl rfl (by decide) rfl rfl rfl rfl hl.1 (Nat.le_of_ble_eq_true rfl) dX3_set_3 ⟨Nat.zero_le _, Nat.zero_le _⟩ (fun H locs hP hD hS => ?_)
  refine lv_if_ne (tgt := 16) hx hb dX3_set_6 (by decide) (fun c2 => ?_) (fun c2 => ?_)
  · have hf := rf_ifn hf c2
    refine lv_iload_n hx hb dX3_set_16 rfl (lv_at hl 1 rfl) ?_
    refine lv_if_ne (tgt := 25) hx hb dX3_set_17 (by decide) (fun c3 => ?_) (fun c3 => ?_)
    · have hf := rf_ifn hf c3
      refine lv_iload_n hx hb dX3_set_25 rfl (lv_at hl 1 rfl) ?_
      refine lv_iconst (v := 1) hx hb dX3_set_26 (by decide) ?_
      refine lv_icmp_ne (tgt := 34) hx hb dX3_set_27 (by decide) (fun c4 => ?_) (fun c4 => ?_)
      · have hf := rf_ifn hf c4
        refine lv_iconst (v := 0) hx hb dX3_set_34 (by decide) ?_
        refine lv_istore_n (lv' := [(3, .int 0), (0, .ref a_this), (1, .int p1), (2, .int p2)]) hx hb dX3_set_35 rfl hl (by decide) rfl (fun ls hl => ?_)
        refine lv_iload_n hx hb dX3_set_36 rfl (lv_at hl 2 rfl) ?_
        refine lv_if_ne (tgt := 46) hx hb dX3_set_37 (by decide) (fun c5 => ?_) (fun c5 => ?_)
        · have hf := rf_ifn hf c5
          refine lv_iload_n hx hb dX3_set_46 rfl (lv_at hl 2 rfl) ?_
          refine lv_iconst (v := 2) hx hb dX3_set_47 (by decide) ?_
          refine lv_icmp_ne (tgt := 56) hx hb dX3_set_48 (by decide) (fun c6 => ?_) (fun c6 => ?_)
          · have hf := rf_ifn hf c6
            refine lv_iload_n hx hb dX3_set_56 rfl (lv_at hl 2 rfl) ?_
            refine lv_iconst (v := 3) hx hb dX3_set_57 (by decide) ?_
            refine lv_icmp_ne (tgt := 66) hx hb dX3_set_58 (by decide) (fun c7 => ?_) (fun c7 => ?_)
            · have hf := rf_ifn hf c7
              refine lv_bipush (v := 9) hx hb dX3_set_66 (by decide) ?_
              refine lv_istore (lv' := [(4, .int 9), (3, .int 0), (0, .ref a_this), (1, .int p1), (2, .int p2)]) hx hb dX3_set_68 hl (by decide) rfl (fun ls hl => ?_)
              refine lv_iload_n hx hb dX3_set_70 rfl (lv_at hl 4 rfl) ?_
              refine lv_iload_n hx hb dX3_set_71 rfl (lv_at hl 1 rfl) ?_
              refine lv_icmp_ge (tgt := 82) hx hb dX3_set_72 (by decide) (fun c8 => ?_) (fun c8 => ?_)
              · have hf := rf_ifp hf c8
                refine lv_iload_n hx hb dX3_set_82 rfl (lv_at hl 4 rfl) ?_
                refine lv_iload hx hb dX3_set_83 (lv_at hl 0 rfl) ?_
                refine lv_icmp_le (tgt := 95) hx hb dX3_set_85 (by decide) (fun c9 => ?_) (fun c9 => ?_)
                · have hf := rf_ifp hf c9
                  refine lv_aload_n hx hb dX3_set_95 rfl (lv_at hl 2 rfl) ?_
                  refine va_get (D := D) (ci := 3) (v := .ref a_this_s) (C := RX3) (T := TX3) (N := 16) hx hb hts jX3_set_X3 hown hK hP 0 rfl rfl 0 (by decide) (hts _ kX3_set_0) (fun _ h9 => h9) rfl dX3_set_96 ?_
                  refine lv_iload_n hx hb dX3_set_99 rfl (lv_at hl 3 rfl) ?_
                  obtain ⟨q10, hq10, hf⟩ := rf_bindq hf
                  refine rf_Si (As := [.int p1]) (rest := [.ref a_this_s]) (wr := [(a_this, .inr (3, rf_o3 a_this_s a_this_image a_this_read a_this_mind a_this_letters a_this_row a_this_refused a_this_numbers a_this_cost g_this)), (a_this_s, .inl (cA, 22, .inl f_this_s)), (a_this_refused, .inl (cA, 7, .inl f_this_refused))]) (wn := [(a_this, .inr (3, rf_o3 a_this_s a_this_image a_this_read a_this_mind a_this_letters a_this_row a_this_refused a_this_numbers a_this_cost g_this)), (a_this_s, .inl (cA, 22, .inl f_this_s)), (a_this_refused, .inl (cA, 7, .inl f_this_refused))]) ⟨hx, hb, hml, hown, hts⟩ hK hP hD hS hA hE (c_X3_placeOf l D cA ad H.size p1 q10 hq10) (va_cwS 1 hts gX3_set_X3_placeOf rfl rfl rfl hs_X3_placeOf ⟨Nat.le_of_ble_eq_true rfl, Nat.le_of_ble_eq_true rfl⟩) [] [0, 1, 2] [0, 1, 2] rfl rfl rfl rfl (by decide) rfl rfl rfl rfl hl.1 (Nat.le_of_ble_eq_true rfl) dX3_set_100 ⟨Nat.zero_le _, Nat.zero_le _⟩ (fun H locs hP hD hS => ?_)
                  obtain ⟨c11, hf⟩ := rf_chk hf
                  refine va_iald hx hb hK hP 1 0 rfl rfl c11 dX3_set_103 ?_
                  refine lv_topi (fun v12 ev12 => ?_)
                  have hf := rf_bindv hf ev12
                  clear ev12
                  refine lv_istore (lv' := [(5, .int v12), (4, .int 9), (3, .int 0), (0, .ref a_this), (1, .int p1), (2, .int p2)]) hx hb dX3_set_104 hl (by decide) rfl (fun ls hl => ?_)
                  refine lv_aload_n hx hb dX3_set_106 rfl (lv_at hl 3 rfl) ?_
                  refine va_get (D := D) (ci := 3) (v := .ref a_this_s) (C := RX3) (T := TX3) (N := 16) hx hb hts jX3_set_X3 hown hK hP 0 rfl rfl 0 (by decide) (hts _ kX3_set_0) (fun _ h9 => h9) rfl dX3_set_107 ?_
                  refine lv_iload_n hx hb dX3_set_110 rfl (lv_at hl 4 rfl) ?_
                  obtain ⟨q13, hq13, hf⟩ := rf_bindq hf
                  refine rf_Si (As := [.int p1]) (rest := [.ref a_this_s]) (wr := [(a_this, .inr (3, rf_o3 a_this_s a_this_image a_this_read a_this_mind a_this_letters a_this_row a_this_refused a_this_numbers a_this_cost g_this)), (a_this_s, .inl (cA, 22, .inl f_this_s)), (a_this_refused, .inl (cA, 7, .inl f_this_refused))]) (wn := [(a_this, .inr (3, rf_o3 a_this_s a_this_image a_this_read a_this_mind a_this_letters a_this_row a_this_refused a_this_numbers a_this_cost g_this)), (a_this_s, .inl (cA, 22, .inl f_this_s)), (a_this_refused, .inl (cA, 7, .inl f_this_refused))]) ⟨hx, hb, hml, hown, hts⟩ hK hP hD hS hA hE (c_X3_placeOf l D cA ad H.size p1 q13 hq13) (va_cwS 1 hts gX3_set_X3_placeOf rfl rfl rfl hs_X3_placeOf ⟨Nat.le_of_ble_eq_true rfl, Nat.le_of_ble_eq_true rfl⟩) [] [0, 1, 2] [0, 1, 2] rfl rfl rfl rfl (by decide) rfl rfl rfl rfl hl.1 (Nat.le_of_ble_eq_true rfl) dX3_set_111 ⟨Nat.zero_le _, Nat.zero_le _⟩ (fun H locs hP hD hS => ?_)
                  refine lv_iload_n hx hb dX3_set_114 rfl (lv_at hl 5 rfl) ?_
                  obtain ⟨c14, hf⟩ := rf_chk hf
                  refine va_iast hx hb hK hP hD hS 1 0 rfl rfl c14 dX3_set_115 (fun H locs hP hD hS => ?_)
                  have hP : va_P D vwCl [(a_this, .inr (3, rf_o3 a_this_s a_this_image a_this_read a_this_mind a_this_letters a_this_row a_this_refused a_this_numbers a_this_cost g_this)), (a_this_s, .inl (cA, 22, .inl (upd f_this_s (q13.toNatClampNeg) p2))), (a_this_refused, .inl (cA, 7, .inl f_this_refused))] H := hP
                  have hD : va_D A [(a_this, .inr (3, rf_o3 a_this_s a_this_image a_this_read a_this_mind a_this_letters a_this_row a_this_refused a_this_numbers a_this_cost g_this)), (a_this_s, .inl (cA, 22, .inl (upd f_this_s (q13.toNatClampNeg) p2))), (a_this_refused, .inl (cA, 7, .inl f_this_refused))] := hD
                  refine lv_iload hx hb dX3_set_116 (lv_at hl 0 rfl) ?_
                  obtain rfl := Option.some.inj hf
                  exact W.iret (v := v12) hx hb hr (fun t ht hW => ⟨⟨v12, (), rfl, rfl, rf_mk ht hP hD⟩, hS.F ht⟩) hS.2.2 dX3_set_118
                · have hf := rf_ifn hf c9
                  refine lv_aload_n hx hb dX3_set_88 rfl (lv_at hl 2 rfl) ?_
                  refine lv_bipush (v := (-6)) hx hb dX3_set_89 (by decide) ?_
                  obtain ⟨q15, hq15, hf⟩ := rf_bindq hf
                  refine rf_Vi (As := [.int (-6)]) (rest := []) (wr := [(a_this_s, .inl (cA, 22, .inl f_this_s))]) (wn := [(a_this, .inr (3, rf_o3 a_this_s a_this_image a_this_read a_this_mind a_this_letters a_this_row a_this_refused a_this_numbers a_this_cost g_this)), (a_this_s, .inl (cA, 22, .inl f_this_s)), (a_this_refused, .inl (cA, 7, .inl q15.2))]) ⟨hx, hb, hml, hown, hts⟩ hK hP hD hS hA hE (c_X3_no l D cA ad a_this a_this_s a_this_image a_this_read a_this_mind a_this_letters a_this_row a_this_refused a_this_numbers a_this_cost H.size g_this f_this_refused (-6) q15 hq15) (cwV 1 hts gX3_set_X3_no rfl rfl rfl hv_X3_no ⟨Nat.le_of_ble_eq_true rfl, Nat.le_of_ble_eq_true rfl⟩) [0, 2] [1] [1, 0, 2] rfl rfl rfl rfl (by decide) rfl rfl 3 0 rfl rfl rfl rfl rfl hl.1 (Nat.le_of_ble_eq_true rfl) dX3_set_91 ⟨Nat.zero_le _, Nat.zero_le _⟩ (fun H locs hP hD hS => ?_)
                  obtain rfl := Option.some.inj hf
                  exact W.iret (v := q15.1) hx hb hr (fun t ht hW => ⟨⟨q15.1, (), rfl, rfl, rf_mk ht hP hD⟩, hS.F ht⟩) hS.2.2 dX3_set_94
              · have hf := rf_ifn hf c8
                refine lv_aload_n hx hb dX3_set_75 rfl (lv_at hl 2 rfl) ?_
                refine lv_bipush (v := (-4)) hx hb dX3_set_76 (by decide) ?_
                obtain ⟨q16, hq16, hf⟩ := rf_bindq hf
                refine rf_Vi (As := [.int (-4)]) (rest := []) (wr := [(a_this_s, .inl (cA, 22, .inl f_this_s))]) (wn := [(a_this, .inr (3, rf_o3 a_this_s a_this_image a_this_read a_this_mind a_this_letters a_this_row a_this_refused a_this_numbers a_this_cost g_this)), (a_this_s, .inl (cA, 22, .inl f_this_s)), (a_this_refused, .inl (cA, 7, .inl q16.2))]) ⟨hx, hb, hml, hown, hts⟩ hK hP hD hS hA hE (c_X3_no l D cA ad a_this a_this_s a_this_image a_this_read a_this_mind a_this_letters a_this_row a_this_refused a_this_numbers a_this_cost H.size g_this f_this_refused (-4) q16 hq16) (cwV 1 hts gX3_set_X3_no rfl rfl rfl hv_X3_no ⟨Nat.le_of_ble_eq_true rfl, Nat.le_of_ble_eq_true rfl⟩) [0, 2] [1] [1, 0, 2] rfl rfl rfl rfl (by decide) rfl rfl 3 0 rfl rfl rfl rfl rfl hl.1 (Nat.le_of_ble_eq_true rfl) dX3_set_78 ⟨Nat.zero_le _, Nat.zero_le _⟩ (fun H locs hP hD hS => ?_)
                obtain rfl := Option.some.inj hf
                exact W.iret (v := q16.1) hx hb hr (fun t ht hW => ⟨⟨q16.1, (), rfl, rfl, rf_mk ht hP hD⟩, hS.F ht⟩) hS.2.2 dX3_set_81
            · have hf := rf_ifp hf c7
              refine lv_bipush (v := 20) hx hb dX3_set_61 (by decide) ?_
              refine lv_goto (tgt := 68) hx hb dX3_set_63 (by decide) ?_
              refine lv_istore (lv' := [(4, .int 20), (3, .int 0), (0, .ref a_this), (1, .int p1), (2, .int p2)]) hx hb dX3_set_68 hl (by decide) rfl (fun ls hl => ?_)
              refine lv_iload_n hx hb dX3_set_70 rfl (lv_at hl 4 rfl) ?_
              refine lv_iload_n hx hb dX3_set_71 rfl (lv_at hl 1 rfl) ?_
              refine lv_icmp_ge (tgt := 82) hx hb dX3_set_72 (by decide) (fun c17 => ?_) (fun c17 => ?_)
              · have hf := rf_ifp hf c17
                refine lv_iload_n hx hb dX3_set_82 rfl (lv_at hl 4 rfl) ?_
                refine lv_iload hx hb dX3_set_83 (lv_at hl 0 rfl) ?_
                refine lv_icmp_le (tgt := 95) hx hb dX3_set_85 (by decide) (fun c18 => ?_) (fun c18 => ?_)
                · have hf := rf_ifp hf c18
                  refine lv_aload_n hx hb dX3_set_95 rfl (lv_at hl 2 rfl) ?_
                  refine va_get (D := D) (ci := 3) (v := .ref a_this_s) (C := RX3) (T := TX3) (N := 16) hx hb hts jX3_set_X3 hown hK hP 0 rfl rfl 0 (by decide) (hts _ kX3_set_0) (fun _ h9 => h9) rfl dX3_set_96 ?_
                  refine lv_iload_n hx hb dX3_set_99 rfl (lv_at hl 3 rfl) ?_
                  obtain ⟨q19, hq19, hf⟩ := rf_bindq hf
                  refine rf_Si (As := [.int p1]) (rest := [.ref a_this_s]) (wr := [(a_this, .inr (3, rf_o3 a_this_s a_this_image a_this_read a_this_mind a_this_letters a_this_row a_this_refused a_this_numbers a_this_cost g_this)), (a_this_s, .inl (cA, 22, .inl f_this_s)), (a_this_refused, .inl (cA, 7, .inl f_this_refused))]) (wn := [(a_this, .inr (3, rf_o3 a_this_s a_this_image a_this_read a_this_mind a_this_letters a_this_row a_this_refused a_this_numbers a_this_cost g_this)), (a_this_s, .inl (cA, 22, .inl f_this_s)), (a_this_refused, .inl (cA, 7, .inl f_this_refused))]) ⟨hx, hb, hml, hown, hts⟩ hK hP hD hS hA hE (c_X3_placeOf l D cA ad H.size p1 q19 hq19) (va_cwS 1 hts gX3_set_X3_placeOf rfl rfl rfl hs_X3_placeOf ⟨Nat.le_of_ble_eq_true rfl, Nat.le_of_ble_eq_true rfl⟩) [] [0, 1, 2] [0, 1, 2] rfl rfl rfl rfl (by decide) rfl rfl rfl rfl hl.1 (Nat.le_of_ble_eq_true rfl) dX3_set_100 ⟨Nat.zero_le _, Nat.zero_le _⟩ (fun H locs hP hD hS => ?_)
                  obtain ⟨c20, hf⟩ := rf_chk hf
                  refine va_iald hx hb hK hP 1 0 rfl rfl c20 dX3_set_103 ?_
                  refine lv_topi (fun v21 ev21 => ?_)
                  have hf := rf_bindv hf ev21
                  clear ev21
                  refine lv_istore (lv' := [(5, .int v21), (4, .int 20), (3, .int 0), (0, .ref a_this), (1, .int p1), (2, .int p2)]) hx hb dX3_set_104 hl (by decide) rfl (fun ls hl => ?_)
                  refine lv_aload_n hx hb dX3_set_106 rfl (lv_at hl 3 rfl) ?_
                  refine va_get (D := D) (ci := 3) (v := .ref a_this_s) (C := RX3) (T := TX3) (N := 16) hx hb hts jX3_set_X3 hown hK hP 0 rfl rfl 0 (by decide) (hts _ kX3_set_0) (fun _ h9 => h9) rfl dX3_set_107 ?_
                  refine lv_iload_n hx hb dX3_set_110 rfl (lv_at hl 4 rfl) ?_
                  obtain ⟨q22, hq22, hf⟩ := rf_bindq hf
                  refine rf_Si (As := [.int p1]) (rest := [.ref a_this_s]) (wr := [(a_this, .inr (3, rf_o3 a_this_s a_this_image a_this_read a_this_mind a_this_letters a_this_row a_this_refused a_this_numbers a_this_cost g_this)), (a_this_s, .inl (cA, 22, .inl f_this_s)), (a_this_refused, .inl (cA, 7, .inl f_this_refused))]) (wn := [(a_this, .inr (3, rf_o3 a_this_s a_this_image a_this_read a_this_mind a_this_letters a_this_row a_this_refused a_this_numbers a_this_cost g_this)), (a_this_s, .inl (cA, 22, .inl f_this_s)), (a_this_refused, .inl (cA, 7, .inl f_this_refused))]) ⟨hx, hb, hml, hown, hts⟩ hK hP hD hS hA hE (c_X3_placeOf l D cA ad H.size p1 q22 hq22) (va_cwS 1 hts gX3_set_X3_placeOf rfl rfl rfl hs_X3_placeOf ⟨Nat.le_of_ble_eq_true rfl, Nat.le_of_ble_eq_true rfl⟩) [] [0, 1, 2] [0, 1, 2] rfl rfl rfl rfl (by decide) rfl rfl rfl rfl hl.1 (Nat.le_of_ble_eq_true rfl) dX3_set_111 ⟨Nat.zero_le _, Nat.zero_le _⟩ (fun H locs hP hD hS => ?_)
                  refine lv_iload_n hx hb dX3_set_114 rfl (lv_at hl 5 rfl) ?_
                  obtain ⟨c23, hf⟩ := rf_chk hf
                  refine va_iast hx hb hK hP hD hS 1 0 rfl rfl c23 dX3_set_115 (fun H locs hP hD hS => ?_)
                  have hP : va_P D vwCl [(a_this, .inr (3, rf_o3 a_this_s a_this_image a_this_read a_this_mind a_this_letters a_this_row a_this_refused a_this_numbers a_this_cost g_this)), (a_this_s, .inl (cA, 22, .inl (upd f_this_s (q22.toNatClampNeg) p2))), (a_this_refused, .inl (cA, 7, .inl f_this_refused))] H := hP
                  have hD : va_D A [(a_this, .inr (3, rf_o3 a_this_s a_this_image a_this_read a_this_mind a_this_letters a_this_row a_this_refused a_this_numbers a_this_cost g_this)), (a_this_s, .inl (cA, 22, .inl (upd f_this_s (q22.toNatClampNeg) p2))), (a_this_refused, .inl (cA, 7, .inl f_this_refused))] := hD
                  refine lv_iload hx hb dX3_set_116 (lv_at hl 0 rfl) ?_
                  obtain rfl := Option.some.inj hf
                  exact W.iret (v := v21) hx hb hr (fun t ht hW => ⟨⟨v21, (), rfl, rfl, rf_mk ht hP hD⟩, hS.F ht⟩) hS.2.2 dX3_set_118
                · have hf := rf_ifn hf c18
                  refine lv_aload_n hx hb dX3_set_88 rfl (lv_at hl 2 rfl) ?_
                  refine lv_bipush (v := (-6)) hx hb dX3_set_89 (by decide) ?_
                  obtain ⟨q24, hq24, hf⟩ := rf_bindq hf
                  refine rf_Vi (As := [.int (-6)]) (rest := []) (wr := [(a_this_s, .inl (cA, 22, .inl f_this_s))]) (wn := [(a_this, .inr (3, rf_o3 a_this_s a_this_image a_this_read a_this_mind a_this_letters a_this_row a_this_refused a_this_numbers a_this_cost g_this)), (a_this_s, .inl (cA, 22, .inl f_this_s)), (a_this_refused, .inl (cA, 7, .inl q24.2))]) ⟨hx, hb, hml, hown, hts⟩ hK hP hD hS hA hE (c_X3_no l D cA ad a_this a_this_s a_this_image a_this_read a_this_mind a_this_letters a_this_row a_this_refused a_this_numbers a_this_cost H.size g_this f_this_refused (-6) q24 hq24) (cwV 1 hts gX3_set_X3_no rfl rfl rfl hv_X3_no ⟨Nat.le_of_ble_eq_true rfl, Nat.le_of_ble_eq_true rfl⟩) [0, 2] [1] [1, 0, 2] rfl rfl rfl rfl (by decide) rfl rfl 3 0 rfl rfl rfl rfl rfl hl.1 (Nat.le_of_ble_eq_true rfl) dX3_set_91 ⟨Nat.zero_le _, Nat.zero_le _⟩ (fun H locs hP hD hS => ?_)
                  obtain rfl := Option.some.inj hf
                  exact W.iret (v := q24.1) hx hb hr (fun t ht hW => ⟨⟨q24.1, (), rfl, rfl, rf_mk ht hP hD⟩, hS.F ht⟩) hS.2.2 dX3_set_94
              · have hf := rf_ifn hf c17
                refine lv_aload_n hx hb dX3_set_75 rfl (lv_at hl 2 rfl) ?_
                refine lv_bipush (v := (-4)) hx hb dX3_set_76 (by decide) ?_
                obtain ⟨q25, hq25, hf⟩ := rf_bindq hf
                refine rf_Vi (As := [.int (-4)]) (rest := []) (wr := [(a_this_s, .inl (cA, 22, .inl f_this_s))]) (wn := [(a_this, .inr (3, rf_o3 a_this_s a_this_image a_this_read a_this_mind a_this_letters a_this_row a_this_refused a_this_numbers a_this_cost g_this)), (a_this_s, .inl (cA, 22, .inl f_this_s)), (a_this_refused, .inl (cA, 7, .inl q25.2))]) ⟨hx, hb, hml, hown, hts⟩ hK hP hD hS hA hE (c_X3_no l D cA ad a_this a_this_s a_this_image a_this_read a_this_mind a_this_letters a_this_row a_this_refused a_this_numbers a_this_cost H.size g_this f_this_refused (-4) q25 hq25) (cwV 1 hts gX3_set_X3_no rfl rfl rfl hv_X3_no ⟨Nat.le_of_ble_eq_true rfl, Nat.le_of_ble_eq_true rfl⟩) [0, 2] [1] [1, 0, 2] rfl rfl rfl rfl (by decide) rfl rfl 3 0 rfl rfl rfl rfl rfl hl.1 (Nat.le_of_ble_eq_true rfl) dX3_set_78 ⟨Nat.zero_le _, Nat.zero_le _⟩ (fun H locs hP hD hS => ?_)
                obtain rfl := Option.some.inj hf
                exact W.iret (v := q25.1) hx hb hr (fun t ht hW => ⟨⟨q25.1, (), rfl, rfl, rf_mk ht hP hD⟩, hS.F ht⟩) hS.2.2 dX3_set_81
          · have hf := rf_ifp hf c6
            refine lv_bipush (v := 30) hx hb dX3_set_51 (by decide) ?_
            refine lv_goto (tgt := 68) hx hb dX3_set_53 (by decide) ?_
            refine lv_istore (lv' := [(4, .int 30), (3, .int 0), (0, .ref a_this), (1, .int p1), (2, .int p2)]) hx hb dX3_set_68 hl (by decide) rfl (fun ls hl => ?_)
            refine lv_iload_n hx hb dX3_set_70 rfl (lv_at hl 4 rfl) ?_
            refine lv_iload_n hx hb dX3_set_71 rfl (lv_at hl 1 rfl) ?_
            refine lv_icmp_ge (tgt := 82) hx hb dX3_set_72 (by decide) (fun c26 => ?_) (fun c26 => ?_)
            · have hf := rf_ifp hf c26
              refine lv_iload_n hx hb dX3_set_82 rfl (lv_at hl 4 rfl) ?_
              refine lv_iload hx hb dX3_set_83 (lv_at hl 0 rfl) ?_
              refine lv_icmp_le (tgt := 95) hx hb dX3_set_85 (by decide) (fun c27 => ?_) (fun c27 => ?_)
              · have hf := rf_ifp hf c27
                refine lv_aload_n hx hb dX3_set_95 rfl (lv_at hl 2 rfl) ?_
                refine va_get (D := D) (ci := 3) (v := .ref a_this_s) (C := RX3) (T := TX3) (N := 16) hx hb hts jX3_set_X3 hown hK hP 0 rfl rfl 0 (by decide) (hts _ kX3_set_0) (fun _ h9 => h9) rfl dX3_set_96 ?_
                refine lv_iload_n hx hb dX3_set_99 rfl (lv_at hl 3 rfl) ?_
                obtain ⟨q28, hq28, hf⟩ := rf_bindq hf
                refine rf_Si (As := [.int p1]) (rest := [.ref a_this_s]) (wr := [(a_this, .inr (3, rf_o3 a_this_s a_this_image a_this_read a_this_mind a_this_letters a_this_row a_this_refused a_this_numbers a_this_cost g_this)), (a_this_s, .inl (cA, 22, .inl f_this_s)), (a_this_refused, .inl (cA, 7, .inl f_this_refused))]) (wn := [(a_this, .inr (3, rf_o3 a_this_s a_this_image a_this_read a_this_mind a_this_letters a_this_row a_this_refused a_this_numbers a_this_cost g_this)), (a_this_s, .inl (cA, 22, .inl f_this_s)), (a_this_refused, .inl (cA, 7, .inl f_this_refused))]) ⟨hx, hb, hml, hown, hts⟩ hK hP hD hS hA hE (c_X3_placeOf l D cA ad H.size p1 q28 hq28) (va_cwS 1 hts gX3_set_X3_placeOf rfl rfl rfl hs_X3_placeOf ⟨Nat.le_of_ble_eq_true rfl, Nat.le_of_ble_eq_true rfl⟩) [] [0, 1, 2] [0, 1, 2] rfl rfl rfl rfl (by decide) rfl rfl rfl rfl hl.1 (Nat.le_of_ble_eq_true rfl) dX3_set_100 ⟨Nat.zero_le _, Nat.zero_le _⟩ (fun H locs hP hD hS => ?_)
                obtain ⟨c29, hf⟩ := rf_chk hf
                refine va_iald hx hb hK hP 1 0 rfl rfl c29 dX3_set_103 ?_
                refine lv_topi (fun v30 ev30 => ?_)
                have hf := rf_bindv hf ev30
                clear ev30
                refine lv_istore (lv' := [(5, .int v30), (4, .int 30), (3, .int 0), (0, .ref a_this), (1, .int p1), (2, .int p2)]) hx hb dX3_set_104 hl (by decide) rfl (fun ls hl => ?_)
                refine lv_aload_n hx hb dX3_set_106 rfl (lv_at hl 3 rfl) ?_
                refine va_get (D := D) (ci := 3) (v := .ref a_this_s) (C := RX3) (T := TX3) (N := 16) hx hb hts jX3_set_X3 hown hK hP 0 rfl rfl 0 (by decide) (hts _ kX3_set_0) (fun _ h9 => h9) rfl dX3_set_107 ?_
                refine lv_iload_n hx hb dX3_set_110 rfl (lv_at hl 4 rfl) ?_
                obtain ⟨q31, hq31, hf⟩ := rf_bindq hf
                refine rf_Si (As := [.int p1]) (rest := [.ref a_this_s]) (wr := [(a_this, .inr (3, rf_o3 a_this_s a_this_image a_this_read a_this_mind a_this_letters a_this_row a_this_refused a_this_numbers a_this_cost g_this)), (a_this_s, .inl (cA, 22, .inl f_this_s)), (a_this_refused, .inl (cA, 7, .inl f_this_refused))]) (wn := [(a_this, .inr (3, rf_o3 a_this_s a_this_image a_this_read a_this_mind a_this_letters a_this_row a_this_refused a_this_numbers a_this_cost g_this)), (a_this_s, .inl (cA, 22, .inl f_this_s)), (a_this_refused, .inl (cA, 7, .inl f_this_refused))]) ⟨hx, hb, hml, hown, hts⟩ hK hP hD hS hA hE (c_X3_placeOf l D cA ad H.size p1 q31 hq31) (va_cwS 1 hts gX3_set_X3_placeOf rfl rfl rfl hs_X3_placeOf ⟨Nat.le_of_ble_eq_true rfl, Nat.le_of_ble_eq_true rfl⟩) [] [0, 1, 2] [0, 1, 2] rfl rfl rfl rfl (by decide) rfl rfl rfl rfl hl.1 (Nat.le_of_ble_eq_true rfl) dX3_set_111 ⟨Nat.zero_le _, Nat.zero_le _⟩ (fun H locs hP hD hS => ?_)
                refine lv_iload_n hx hb dX3_set_114 rfl (lv_at hl 5 rfl) ?_
                obtain ⟨c32, hf⟩ := rf_chk hf
                refine va_iast hx hb hK hP hD hS 1 0 rfl rfl c32 dX3_set_115 (fun H locs hP hD hS => ?_)
                have hP : va_P D vwCl [(a_this, .inr (3, rf_o3 a_this_s a_this_image a_this_read a_this_mind a_this_letters a_this_row a_this_refused a_this_numbers a_this_cost g_this)), (a_this_s, .inl (cA, 22, .inl (upd f_this_s (q31.toNatClampNeg) p2))), (a_this_refused, .inl (cA, 7, .inl f_this_refused))] H := hP
                have hD : va_D A [(a_this, .inr (3, rf_o3 a_this_s a_this_image a_this_read a_this_mind a_this_letters a_this_row a_this_refused a_this_numbers a_this_cost g_this)), (a_this_s, .inl (cA, 22, .inl (upd f_this_s (q31.toNatClampNeg) p2))), (a_this_refused, .inl (cA, 7, .inl f_this_refused))] := hD
                refine lv_iload hx hb dX3_set_116 (lv_at hl 0 rfl) ?_
                obtain rfl := Option.some.inj hf
                exact W.iret (v := v30) hx hb hr (fun t ht hW => ⟨⟨v30, (), rfl, rfl, rf_mk ht hP hD⟩, hS.F ht⟩) hS.2.2 dX3_set_118
              · have hf := rf_ifn hf c27
                refine lv_aload_n hx hb dX3_set_88 rfl (lv_at hl 2 rfl) ?_
                refine lv_bipush (v := (-6)) hx hb dX3_set_89 (by decide) ?_
                obtain ⟨q33, hq33, hf⟩ := rf_bindq hf
                refine rf_Vi (As := [.int (-6)]) (rest := []) (wr := [(a_this_s, .inl (cA, 22, .inl f_this_s))]) (wn := [(a_this, .inr (3, rf_o3 a_this_s a_this_image a_this_read a_this_mind a_this_letters a_this_row a_this_refused a_this_numbers a_this_cost g_this)), (a_this_s, .inl (cA, 22, .inl f_this_s)), (a_this_refused, .inl (cA, 7, .inl q33.2))]) ⟨hx, hb, hml, hown, hts⟩ hK hP hD hS hA hE (c_X3_no l D cA ad a_this a_this_s a_this_image a_this_read a_this_mind a_this_letters a_this_row a_this_refused a_this_numbers a_this_cost H.size g_this f_this_refused (-6) q33 hq33) (cwV 1 hts gX3_set_X3_no rfl rfl rfl hv_X3_no ⟨Nat.le_of_ble_eq_true rfl, Nat.le_of_ble_eq_true rfl⟩) [0, 2] [1] [1, 0, 2] rfl rfl rfl rfl (by decide) rfl rfl 3 0 rfl rfl rfl rfl rfl hl.1 (Nat.le_of_ble_eq_true rfl) dX3_set_91 ⟨Nat.zero_le _, Nat.zero_le _⟩ (fun H locs hP hD hS => ?_)
                obtain rfl := Option.some.inj hf
                exact W.iret (v := q33.1) hx hb hr (fun t ht hW => ⟨⟨q33.1, (), rfl, rfl, rf_mk ht hP hD⟩, hS.F ht⟩) hS.2.2 dX3_set_94
            · have hf := rf_ifn hf c26
              refine lv_aload_n hx hb dX3_set_75 rfl (lv_at hl 2 rfl) ?_
              refine lv_bipush (v := (-4)) hx hb dX3_set_76 (by decide) ?_
              obtain ⟨q34, hq34, hf⟩ := rf_bindq hf
              refine rf_Vi (As := [.int (-4)]) (rest := []) (wr := [(a_this_s, .inl (cA, 22, .inl f_this_s))]) (wn := [(a_this, .inr (3, rf_o3 a_this_s a_this_image a_this_read a_this_mind a_this_letters a_this_row a_this_refused a_this_numbers a_this_cost g_this)), (a_this_s, .inl (cA, 22, .inl f_this_s)), (a_this_refused, .inl (cA, 7, .inl q34.2))]) ⟨hx, hb, hml, hown, hts⟩ hK hP hD hS hA hE (c_X3_no l D cA ad a_this a_this_s a_this_image a_this_read a_this_mind a_this_letters a_this_row a_this_refused a_this_numbers a_this_cost H.size g_this f_this_refused (-4) q34 hq34) (cwV 1 hts gX3_set_X3_no rfl rfl rfl hv_X3_no ⟨Nat.le_of_ble_eq_true rfl, Nat.le_of_ble_eq_true rfl⟩) [0, 2] [1] [1, 0, 2] rfl rfl rfl rfl (by decide) rfl rfl 3 0 rfl rfl rfl rfl rfl hl.1 (Nat.le_of_ble_eq_true rfl) dX3_set_78 ⟨Nat.zero_le _, Nat.zero_le _⟩ (fun H locs hP hD hS => ?_)
              obtain rfl := Option.some.inj hf
              exact W.iret (v := q34.1) hx hb hr (fun t ht hW => ⟨⟨q34.1, (), rfl, rfl, rf_mk ht hP hD⟩, hS.F ht⟩) hS.2.2 dX3_set_81
        · have hf := rf_ifp hf c5
          refine lv_sipush (v := 250) hx hb dX3_set_40 (by decide) ?_
          refine lv_goto (tgt := 68) hx hb dX3_set_43 (by decide) ?_
          refine lv_istore (lv' := [(4, .int 250), (3, .int 0), (0, .ref a_this), (1, .int p1), (2, .int p2)]) hx hb dX3_set_68 hl (by decide) rfl (fun ls hl => ?_)
          refine lv_iload_n hx hb dX3_set_70 rfl (lv_at hl 4 rfl) ?_
          refine lv_iload_n hx hb dX3_set_71 rfl (lv_at hl 1 rfl) ?_
          refine lv_icmp_ge (tgt := 82) hx hb dX3_set_72 (by decide) (fun c35 => ?_) (fun c35 => ?_)
          · have hf := rf_ifp hf c35
            refine lv_iload_n hx hb dX3_set_82 rfl (lv_at hl 4 rfl) ?_
            refine lv_iload hx hb dX3_set_83 (lv_at hl 0 rfl) ?_
            refine lv_icmp_le (tgt := 95) hx hb dX3_set_85 (by decide) (fun c36 => ?_) (fun c36 => ?_)
            · have hf := rf_ifp hf c36
              refine lv_aload_n hx hb dX3_set_95 rfl (lv_at hl 2 rfl) ?_
              refine va_get (D := D) (ci := 3) (v := .ref a_this_s) (C := RX3) (T := TX3) (N := 16) hx hb hts jX3_set_X3 hown hK hP 0 rfl rfl 0 (by decide) (hts _ kX3_set_0) (fun _ h9 => h9) rfl dX3_set_96 ?_
              refine lv_iload_n hx hb dX3_set_99 rfl (lv_at hl 3 rfl) ?_
              obtain ⟨q37, hq37, hf⟩ := rf_bindq hf
              refine rf_Si (As := [.int p1]) (rest := [.ref a_this_s]) (wr := [(a_this, .inr (3, rf_o3 a_this_s a_this_image a_this_read a_this_mind a_this_letters a_this_row a_this_refused a_this_numbers a_this_cost g_this)), (a_this_s, .inl (cA, 22, .inl f_this_s)), (a_this_refused, .inl (cA, 7, .inl f_this_refused))]) (wn := [(a_this, .inr (3, rf_o3 a_this_s a_this_image a_this_read a_this_mind a_this_letters a_this_row a_this_refused a_this_numbers a_this_cost g_this)), (a_this_s, .inl (cA, 22, .inl f_this_s)), (a_this_refused, .inl (cA, 7, .inl f_this_refused))]) ⟨hx, hb, hml, hown, hts⟩ hK hP hD hS hA hE (c_X3_placeOf l D cA ad H.size p1 q37 hq37) (va_cwS 1 hts gX3_set_X3_placeOf rfl rfl rfl hs_X3_placeOf ⟨Nat.le_of_ble_eq_true rfl, Nat.le_of_ble_eq_true rfl⟩) [] [0, 1, 2] [0, 1, 2] rfl rfl rfl rfl (by decide) rfl rfl rfl rfl hl.1 (Nat.le_of_ble_eq_true rfl) dX3_set_100 ⟨Nat.zero_le _, Nat.zero_le _⟩ (fun H locs hP hD hS => ?_)
              obtain ⟨c38, hf⟩ := rf_chk hf
              refine va_iald hx hb hK hP 1 0 rfl rfl c38 dX3_set_103 ?_
              refine lv_topi (fun v39 ev39 => ?_)
              have hf := rf_bindv hf ev39
              clear ev39
              refine lv_istore (lv' := [(5, .int v39), (4, .int 250), (3, .int 0), (0, .ref a_this), (1, .int p1), (2, .int p2)]) hx hb dX3_set_104 hl (by decide) rfl (fun ls hl => ?_)
              refine lv_aload_n hx hb dX3_set_106 rfl (lv_at hl 3 rfl) ?_
              refine va_get (D := D) (ci := 3) (v := .ref a_this_s) (C := RX3) (T := TX3) (N := 16) hx hb hts jX3_set_X3 hown hK hP 0 rfl rfl 0 (by decide) (hts _ kX3_set_0) (fun _ h9 => h9) rfl dX3_set_107 ?_
              refine lv_iload_n hx hb dX3_set_110 rfl (lv_at hl 4 rfl) ?_
              obtain ⟨q40, hq40, hf⟩ := rf_bindq hf
              refine rf_Si (As := [.int p1]) (rest := [.ref a_this_s]) (wr := [(a_this, .inr (3, rf_o3 a_this_s a_this_image a_this_read a_this_mind a_this_letters a_this_row a_this_refused a_this_numbers a_this_cost g_this)), (a_this_s, .inl (cA, 22, .inl f_this_s)), (a_this_refused, .inl (cA, 7, .inl f_this_refused))]) (wn := [(a_this, .inr (3, rf_o3 a_this_s a_this_image a_this_read a_this_mind a_this_letters a_this_row a_this_refused a_this_numbers a_this_cost g_this)), (a_this_s, .inl (cA, 22, .inl f_this_s)), (a_this_refused, .inl (cA, 7, .inl f_this_refused))]) ⟨hx, hb, hml, hown, hts⟩ hK hP hD hS hA hE (c_X3_placeOf l D cA ad H.size p1 q40 hq40) (va_cwS 1 hts gX3_set_X3_placeOf rfl rfl rfl hs_X3_placeOf ⟨Nat.le_of_ble_eq_true rfl, Nat.le_of_ble_eq_true rfl⟩) [] [0, 1, 2] [0, 1, 2] rfl rfl rfl rfl (by decide) rfl rfl rfl rfl hl.1 (Nat.le_of_ble_eq_true rfl) dX3_set_111 ⟨Nat.zero_le _, Nat.zero_le _⟩ (fun H locs hP hD hS => ?_)
              refine lv_iload_n hx hb dX3_set_114 rfl (lv_at hl 5 rfl) ?_
              obtain ⟨c41, hf⟩ := rf_chk hf
              refine va_iast hx hb hK hP hD hS 1 0 rfl rfl c41 dX3_set_115 (fun H locs hP hD hS => ?_)
              have hP : va_P D vwCl [(a_this, .inr (3, rf_o3 a_this_s a_this_image a_this_read a_this_mind a_this_letters a_this_row a_this_refused a_this_numbers a_this_cost g_this)), (a_this_s, .inl (cA, 22, .inl (upd f_this_s (q40.toNatClampNeg) p2))), (a_this_refused, .inl (cA, 7, .inl f_this_refused))] H := hP
              have hD : va_D A [(a_this, .inr (3, rf_o3 a_this_s a_this_image a_this_read a_this_mind a_this_letters a_this_row a_this_refused a_this_numbers a_this_cost g_this)), (a_this_s, .inl (cA, 22, .inl (upd f_this_s (q40.toNatClampNeg) p2))), (a_this_refused, .inl (cA, 7, .inl f_this_refused))] := hD
              refine lv_iload hx hb dX3_set_116 (lv_at hl 0 rfl) ?_
              obtain rfl := Option.some.inj hf
              exact W.iret (v := v39) hx hb hr (fun t ht hW => ⟨⟨v39, (), rfl, rfl, rf_mk ht hP hD⟩, hS.F ht⟩) hS.2.2 dX3_set_118
            · have hf := rf_ifn hf c36
              refine lv_aload_n hx hb dX3_set_88 rfl (lv_at hl 2 rfl) ?_
              refine lv_bipush (v := (-6)) hx hb dX3_set_89 (by decide) ?_
              obtain ⟨q42, hq42, hf⟩ := rf_bindq hf
              refine rf_Vi (As := [.int (-6)]) (rest := []) (wr := [(a_this_s, .inl (cA, 22, .inl f_this_s))]) (wn := [(a_this, .inr (3, rf_o3 a_this_s a_this_image a_this_read a_this_mind a_this_letters a_this_row a_this_refused a_this_numbers a_this_cost g_this)), (a_this_s, .inl (cA, 22, .inl f_this_s)), (a_this_refused, .inl (cA, 7, .inl q42.2))]) ⟨hx, hb, hml, hown, hts⟩ hK hP hD hS hA hE (c_X3_no l D cA ad a_this a_this_s a_this_image a_this_read a_this_mind a_this_letters a_this_row a_this_refused a_this_numbers a_this_cost H.size g_this f_this_refused (-6) q42 hq42) (cwV 1 hts gX3_set_X3_no rfl rfl rfl hv_X3_no ⟨Nat.le_of_ble_eq_true rfl, Nat.le_of_ble_eq_true rfl⟩) [0, 2] [1] [1, 0, 2] rfl rfl rfl rfl (by decide) rfl rfl 3 0 rfl rfl rfl rfl rfl hl.1 (Nat.le_of_ble_eq_true rfl) dX3_set_91 ⟨Nat.zero_le _, Nat.zero_le _⟩ (fun H locs hP hD hS => ?_)
              obtain rfl := Option.some.inj hf
              exact W.iret (v := q42.1) hx hb hr (fun t ht hW => ⟨⟨q42.1, (), rfl, rfl, rf_mk ht hP hD⟩, hS.F ht⟩) hS.2.2 dX3_set_94
          · have hf := rf_ifn hf c35
            refine lv_aload_n hx hb dX3_set_75 rfl (lv_at hl 2 rfl) ?_
            refine lv_bipush (v := (-4)) hx hb dX3_set_76 (by decide) ?_
            obtain ⟨q43, hq43, hf⟩ := rf_bindq hf
            refine rf_Vi (As := [.int (-4)]) (rest := []) (wr := [(a_this_s, .inl (cA, 22, .inl f_this_s))]) (wn := [(a_this, .inr (3, rf_o3 a_this_s a_this_image a_this_read a_this_mind a_this_letters a_this_row a_this_refused a_this_numbers a_this_cost g_this)), (a_this_s, .inl (cA, 22, .inl f_this_s)), (a_this_refused, .inl (cA, 7, .inl q43.2))]) ⟨hx, hb, hml, hown, hts⟩ hK hP hD hS hA hE (c_X3_no l D cA ad a_this a_this_s a_this_image a_this_read a_this_mind a_this_letters a_this_row a_this_refused a_this_numbers a_this_cost H.size g_this f_this_refused (-4) q43 hq43) (cwV 1 hts gX3_set_X3_no rfl rfl rfl hv_X3_no ⟨Nat.le_of_ble_eq_true rfl, Nat.le_of_ble_eq_true rfl⟩) [0, 2] [1] [1, 0, 2] rfl rfl rfl rfl (by decide) rfl rfl 3 0 rfl rfl rfl rfl rfl hl.1 (Nat.le_of_ble_eq_true rfl) dX3_set_78 ⟨Nat.zero_le _, Nat.zero_le _⟩ (fun H locs hP hD hS => ?_)
            obtain rfl := Option.some.inj hf
            exact W.iret (v := q43.1) hx hb hr (fun t ht hW => ⟨⟨q43.1, (), rfl, rfl, rf_mk ht hP hD⟩, hS.F ht⟩) hS.2.2 dX3_set_81
      · have hf := rf_ifp hf c4
        refine lv_iconst (v := 1) hx hb dX3_set_30 (by decide) ?_
        refine lv_goto (tgt := 35) hx hb dX3_set_31 (by decide) ?_
        refine lv_istore_n (lv' := [(3, .int 1), (0, .ref a_this), (1, .int p1), (2, .int p2)]) hx hb dX3_set_35 rfl hl (by decide) rfl (fun ls hl => ?_)
        refine lv_iload_n hx hb dX3_set_36 rfl (lv_at hl 2 rfl) ?_
        refine lv_if_ne (tgt := 46) hx hb dX3_set_37 (by decide) (fun c44 => ?_) (fun c44 => ?_)
        · have hf := rf_ifn hf c44
          refine lv_iload_n hx hb dX3_set_46 rfl (lv_at hl 2 rfl) ?_
          refine lv_iconst (v := 2) hx hb dX3_set_47 (by decide) ?_
          refine lv_icmp_ne (tgt := 56) hx hb dX3_set_48 (by decide) (fun c45 => ?_) (fun c45 => ?_)
          · have hf := rf_ifn hf c45
            refine lv_iload_n hx hb dX3_set_56 rfl (lv_at hl 2 rfl) ?_
            refine lv_iconst (v := 3) hx hb dX3_set_57 (by decide) ?_
            refine lv_icmp_ne (tgt := 66) hx hb dX3_set_58 (by decide) (fun c46 => ?_) (fun c46 => ?_)
            · have hf := rf_ifn hf c46
              refine lv_bipush (v := 9) hx hb dX3_set_66 (by decide) ?_
              refine lv_istore (lv' := [(4, .int 9), (3, .int 1), (0, .ref a_this), (1, .int p1), (2, .int p2)]) hx hb dX3_set_68 hl (by decide) rfl (fun ls hl => ?_)
              refine lv_iload_n hx hb dX3_set_70 rfl (lv_at hl 4 rfl) ?_
              refine lv_iload_n hx hb dX3_set_71 rfl (lv_at hl 1 rfl) ?_
              refine lv_icmp_ge (tgt := 82) hx hb dX3_set_72 (by decide) (fun c47 => ?_) (fun c47 => ?_)
              · have hf := rf_ifp hf c47
                refine lv_iload_n hx hb dX3_set_82 rfl (lv_at hl 4 rfl) ?_
                refine lv_iload hx hb dX3_set_83 (lv_at hl 0 rfl) ?_
                refine lv_icmp_le (tgt := 95) hx hb dX3_set_85 (by decide) (fun c48 => ?_) (fun c48 => ?_)
                · have hf := rf_ifp hf c48
                  refine lv_aload_n hx hb dX3_set_95 rfl (lv_at hl 2 rfl) ?_
                  refine va_get (D := D) (ci := 3) (v := .ref a_this_s) (C := RX3) (T := TX3) (N := 16) hx hb hts jX3_set_X3 hown hK hP 0 rfl rfl 0 (by decide) (hts _ kX3_set_0) (fun _ h9 => h9) rfl dX3_set_96 ?_
                  refine lv_iload_n hx hb dX3_set_99 rfl (lv_at hl 3 rfl) ?_
                  obtain ⟨q49, hq49, hf⟩ := rf_bindq hf
                  refine rf_Si (As := [.int p1]) (rest := [.ref a_this_s]) (wr := [(a_this, .inr (3, rf_o3 a_this_s a_this_image a_this_read a_this_mind a_this_letters a_this_row a_this_refused a_this_numbers a_this_cost g_this)), (a_this_s, .inl (cA, 22, .inl f_this_s)), (a_this_refused, .inl (cA, 7, .inl f_this_refused))]) (wn := [(a_this, .inr (3, rf_o3 a_this_s a_this_image a_this_read a_this_mind a_this_letters a_this_row a_this_refused a_this_numbers a_this_cost g_this)), (a_this_s, .inl (cA, 22, .inl f_this_s)), (a_this_refused, .inl (cA, 7, .inl f_this_refused))]) ⟨hx, hb, hml, hown, hts⟩ hK hP hD hS hA hE (c_X3_placeOf l D cA ad H.size p1 q49 hq49) (va_cwS 1 hts gX3_set_X3_placeOf rfl rfl rfl hs_X3_placeOf ⟨Nat.le_of_ble_eq_true rfl, Nat.le_of_ble_eq_true rfl⟩) [] [0, 1, 2] [0, 1, 2] rfl rfl rfl rfl (by decide) rfl rfl rfl rfl hl.1 (Nat.le_of_ble_eq_true rfl) dX3_set_100 ⟨Nat.zero_le _, Nat.zero_le _⟩ (fun H locs hP hD hS => ?_)
                  obtain ⟨c50, hf⟩ := rf_chk hf
                  refine va_iald hx hb hK hP 1 0 rfl rfl c50 dX3_set_103 ?_
                  refine lv_topi (fun v51 ev51 => ?_)
                  have hf := rf_bindv hf ev51
                  clear ev51
                  refine lv_istore (lv' := [(5, .int v51), (4, .int 9), (3, .int 1), (0, .ref a_this), (1, .int p1), (2, .int p2)]) hx hb dX3_set_104 hl (by decide) rfl (fun ls hl => ?_)
                  refine lv_aload_n hx hb dX3_set_106 rfl (lv_at hl 3 rfl) ?_
                  refine va_get (D := D) (ci := 3) (v := .ref a_this_s) (C := RX3) (T := TX3) (N := 16) hx hb hts jX3_set_X3 hown hK hP 0 rfl rfl 0 (by decide) (hts _ kX3_set_0) (fun _ h9 => h9) rfl dX3_set_107 ?_
                  refine lv_iload_n hx hb dX3_set_110 rfl (lv_at hl 4 rfl) ?_
                  obtain ⟨q52, hq52, hf⟩ := rf_bindq hf
                  refine rf_Si (As := [.int p1]) (rest := [.ref a_this_s]) (wr := [(a_this, .inr (3, rf_o3 a_this_s a_this_image a_this_read a_this_mind a_this_letters a_this_row a_this_refused a_this_numbers a_this_cost g_this)), (a_this_s, .inl (cA, 22, .inl f_this_s)), (a_this_refused, .inl (cA, 7, .inl f_this_refused))]) (wn := [(a_this, .inr (3, rf_o3 a_this_s a_this_image a_this_read a_this_mind a_this_letters a_this_row a_this_refused a_this_numbers a_this_cost g_this)), (a_this_s, .inl (cA, 22, .inl f_this_s)), (a_this_refused, .inl (cA, 7, .inl f_this_refused))]) ⟨hx, hb, hml, hown, hts⟩ hK hP hD hS hA hE (c_X3_placeOf l D cA ad H.size p1 q52 hq52) (va_cwS 1 hts gX3_set_X3_placeOf rfl rfl rfl hs_X3_placeOf ⟨Nat.le_of_ble_eq_true rfl, Nat.le_of_ble_eq_true rfl⟩) [] [0, 1, 2] [0, 1, 2] rfl rfl rfl rfl (by decide) rfl rfl rfl rfl hl.1 (Nat.le_of_ble_eq_true rfl) dX3_set_111 ⟨Nat.zero_le _, Nat.zero_le _⟩ (fun H locs hP hD hS => ?_)
                  refine lv_iload_n hx hb dX3_set_114 rfl (lv_at hl 5 rfl) ?_
                  obtain ⟨c53, hf⟩ := rf_chk hf
                  refine va_iast hx hb hK hP hD hS 1 0 rfl rfl c53 dX3_set_115 (fun H locs hP hD hS => ?_)
                  have hP : va_P D vwCl [(a_this, .inr (3, rf_o3 a_this_s a_this_image a_this_read a_this_mind a_this_letters a_this_row a_this_refused a_this_numbers a_this_cost g_this)), (a_this_s, .inl (cA, 22, .inl (upd f_this_s (q52.toNatClampNeg) p2))), (a_this_refused, .inl (cA, 7, .inl f_this_refused))] H := hP
                  have hD : va_D A [(a_this, .inr (3, rf_o3 a_this_s a_this_image a_this_read a_this_mind a_this_letters a_this_row a_this_refused a_this_numbers a_this_cost g_this)), (a_this_s, .inl (cA, 22, .inl (upd f_this_s (q52.toNatClampNeg) p2))), (a_this_refused, .inl (cA, 7, .inl f_this_refused))] := hD
                  refine lv_iload hx hb dX3_set_116 (lv_at hl 0 rfl) ?_
                  obtain rfl := Option.some.inj hf
                  exact W.iret (v := v51) hx hb hr (fun t ht hW => ⟨⟨v51, (), rfl, rfl, rf_mk ht hP hD⟩, hS.F ht⟩) hS.2.2 dX3_set_118
                · have hf := rf_ifn hf c48
                  refine lv_aload_n hx hb dX3_set_88 rfl (lv_at hl 2 rfl) ?_
                  refine lv_bipush (v := (-6)) hx hb dX3_set_89 (by decide) ?_
                  obtain ⟨q54, hq54, hf⟩ := rf_bindq hf
                  refine rf_Vi (As := [.int (-6)]) (rest := []) (wr := [(a_this_s, .inl (cA, 22, .inl f_this_s))]) (wn := [(a_this, .inr (3, rf_o3 a_this_s a_this_image a_this_read a_this_mind a_this_letters a_this_row a_this_refused a_this_numbers a_this_cost g_this)), (a_this_s, .inl (cA, 22, .inl f_this_s)), (a_this_refused, .inl (cA, 7, .inl q54.2))]) ⟨hx, hb, hml, hown, hts⟩ hK hP hD hS hA hE (c_X3_no l D cA ad a_this a_this_s a_this_image a_this_read a_this_mind a_this_letters a_this_row a_this_refused a_this_numbers a_this_cost H.size g_this f_this_refused (-6) q54 hq54) (cwV 1 hts gX3_set_X3_no rfl rfl rfl hv_X3_no ⟨Nat.le_of_ble_eq_true rfl, Nat.le_of_ble_eq_true rfl⟩) [0, 2] [1] [1, 0, 2] rfl rfl rfl rfl (by decide) rfl rfl 3 0 rfl rfl rfl rfl rfl hl.1 (Nat.le_of_ble_eq_true rfl) dX3_set_91 ⟨Nat.zero_le _, Nat.zero_le _⟩ (fun H locs hP hD hS => ?_)
                  obtain rfl := Option.some.inj hf
                  exact W.iret (v := q54.1) hx hb hr (fun t ht hW => ⟨⟨q54.1, (), rfl, rfl, rf_mk ht hP hD⟩, hS.F ht⟩) hS.2.2 dX3_set_94
              · have hf := rf_ifn hf c47
                refine lv_aload_n hx hb dX3_set_75 rfl (lv_at hl 2 rfl) ?_
                refine lv_bipush (v := (-4)) hx hb dX3_set_76 (by decide) ?_
                obtain ⟨q55, hq55, hf⟩ := rf_bindq hf
                refine rf_Vi (As := [.int (-4)]) (rest := []) (wr := [(a_this_s, .inl (cA, 22, .inl f_this_s))]) (wn := [(a_this, .inr (3, rf_o3 a_this_s a_this_image a_this_read a_this_mind a_this_letters a_this_row a_this_refused a_this_numbers a_this_cost g_this)), (a_this_s, .inl (cA, 22, .inl f_this_s)), (a_this_refused, .inl (cA, 7, .inl q55.2))]) ⟨hx, hb, hml, hown, hts⟩ hK hP hD hS hA hE (c_X3_no l D cA ad a_this a_this_s a_this_image a_this_read a_this_mind a_this_letters a_this_row a_this_refused a_this_numbers a_this_cost H.size g_this f_this_refused (-4) q55 hq55) (cwV 1 hts gX3_set_X3_no rfl rfl rfl hv_X3_no ⟨Nat.le_of_ble_eq_true rfl, Nat.le_of_ble_eq_true rfl⟩) [0, 2] [1] [1, 0, 2] rfl rfl rfl rfl (by decide) rfl rfl 3 0 rfl rfl rfl rfl rfl hl.1 (Nat.le_of_ble_eq_true rfl) dX3_set_78 ⟨Nat.zero_le _, Nat.zero_le _⟩ (fun H locs hP hD hS => ?_)
                obtain rfl := Option.some.inj hf
                exact W.iret (v := q55.1) hx hb hr (fun t ht hW => ⟨⟨q55.1, (), rfl, rfl, rf_mk ht hP hD⟩, hS.F ht⟩) hS.2.2 dX3_set_81
            · have hf := rf_ifp hf c46
              refine lv_bipush (v := 20) hx hb dX3_set_61 (by decide) ?_
              refine lv_goto (tgt := 68) hx hb dX3_set_63 (by decide) ?_
              refine lv_istore (lv' := [(4, .int 20), (3, .int 1), (0, .ref a_this), (1, .int p1), (2, .int p2)]) hx hb dX3_set_68 hl (by decide) rfl (fun ls hl => ?_)
              refine lv_iload_n hx hb dX3_set_70 rfl (lv_at hl 4 rfl) ?_
              refine lv_iload_n hx hb dX3_set_71 rfl (lv_at hl 1 rfl) ?_
              refine lv_icmp_ge (tgt := 82) hx hb dX3_set_72 (by decide) (fun c56 => ?_) (fun c56 => ?_)
              · have hf := rf_ifp hf c56
                refine lv_iload_n hx hb dX3_set_82 rfl (lv_at hl 4 rfl) ?_
                refine lv_iload hx hb dX3_set_83 (lv_at hl 0 rfl) ?_
                refine lv_icmp_le (tgt := 95) hx hb dX3_set_85 (by decide) (fun c57 => ?_) (fun c57 => ?_)
                · have hf := rf_ifp hf c57
                  refine lv_aload_n hx hb dX3_set_95 rfl (lv_at hl 2 rfl) ?_
                  refine va_get (D := D) (ci := 3) (v := .ref a_this_s) (C := RX3) (T := TX3) (N := 16) hx hb hts jX3_set_X3 hown hK hP 0 rfl rfl 0 (by decide) (hts _ kX3_set_0) (fun _ h9 => h9) rfl dX3_set_96 ?_
                  refine lv_iload_n hx hb dX3_set_99 rfl (lv_at hl 3 rfl) ?_
                  obtain ⟨q58, hq58, hf⟩ := rf_bindq hf
                  refine rf_Si (As := [.int p1]) (rest := [.ref a_this_s]) (wr := [(a_this, .inr (3, rf_o3 a_this_s a_this_image a_this_read a_this_mind a_this_letters a_this_row a_this_refused a_this_numbers a_this_cost g_this)), (a_this_s, .inl (cA, 22, .inl f_this_s)), (a_this_refused, .inl (cA, 7, .inl f_this_refused))]) (wn := [(a_this, .inr (3, rf_o3 a_this_s a_this_image a_this_read a_this_mind a_this_letters a_this_row a_this_refused a_this_numbers a_this_cost g_this)), (a_this_s, .inl (cA, 22, .inl f_this_s)), (a_this_refused, .inl (cA, 7, .inl f_this_refused))]) ⟨hx, hb, hml, hown, hts⟩ hK hP hD hS hA hE (c_X3_placeOf l D cA ad H.size p1 q58 hq58) (va_cwS 1 hts gX3_set_X3_placeOf rfl rfl rfl hs_X3_placeOf ⟨Nat.le_of_ble_eq_true rfl, Nat.le_of_ble_eq_true rfl⟩) [] [0, 1, 2] [0, 1, 2] rfl rfl rfl rfl (by decide) rfl rfl rfl rfl hl.1 (Nat.le_of_ble_eq_true rfl) dX3_set_100 ⟨Nat.zero_le _, Nat.zero_le _⟩ (fun H locs hP hD hS => ?_)
                  obtain ⟨c59, hf⟩ := rf_chk hf
                  refine va_iald hx hb hK hP 1 0 rfl rfl c59 dX3_set_103 ?_
                  refine lv_topi (fun v60 ev60 => ?_)
                  have hf := rf_bindv hf ev60
                  clear ev60
                  refine lv_istore (lv' := [(5, .int v60), (4, .int 20), (3, .int 1), (0, .ref a_this), (1, .int p1), (2, .int p2)]) hx hb dX3_set_104 hl (by decide) rfl (fun ls hl => ?_)
                  refine lv_aload_n hx hb dX3_set_106 rfl (lv_at hl 3 rfl) ?_
                  refine va_get (D := D) (ci := 3) (v := .ref a_this_s) (C := RX3) (T := TX3) (N := 16) hx hb hts jX3_set_X3 hown hK hP 0 rfl rfl 0 (by decide) (hts _ kX3_set_0) (fun _ h9 => h9) rfl dX3_set_107 ?_
                  refine lv_iload_n hx hb dX3_set_110 rfl (lv_at hl 4 rfl) ?_
                  obtain ⟨q61, hq61, hf⟩ := rf_bindq hf
                  refine rf_Si (As := [.int p1]) (rest := [.ref a_this_s]) (wr := [(a_this, .inr (3, rf_o3 a_this_s a_this_image a_this_read a_this_mind a_this_letters a_this_row a_this_refused a_this_numbers a_this_cost g_this)), (a_this_s, .inl (cA, 22, .inl f_this_s)), (a_this_refused, .inl (cA, 7, .inl f_this_refused))]) (wn := [(a_this, .inr (3, rf_o3 a_this_s a_this_image a_this_read a_this_mind a_this_letters a_this_row a_this_refused a_this_numbers a_this_cost g_this)), (a_this_s, .inl (cA, 22, .inl f_this_s)), (a_this_refused, .inl (cA, 7, .inl f_this_refused))]) ⟨hx, hb, hml, hown, hts⟩ hK hP hD hS hA hE (c_X3_placeOf l D cA ad H.size p1 q61 hq61) (va_cwS 1 hts gX3_set_X3_placeOf rfl rfl rfl hs_X3_placeOf ⟨Nat.le_of_ble_eq_true rfl, Nat.le_of_ble_eq_true rfl⟩) [] [0, 1, 2] [0, 1, 2] rfl rfl rfl rfl (by decide) rfl rfl rfl rfl hl.1 (Nat.le_of_ble_eq_true rfl) dX3_set_111 ⟨Nat.zero_le _, Nat.zero_le _⟩ (fun H locs hP hD hS => ?_)
                  refine lv_iload_n hx hb dX3_set_114 rfl (lv_at hl 5 rfl) ?_
                  obtain ⟨c62, hf⟩ := rf_chk hf
                  refine va_iast hx hb hK hP hD hS 1 0 rfl rfl c62 dX3_set_115 (fun H locs hP hD hS => ?_)
                  have hP : va_P D vwCl [(a_this, .inr (3, rf_o3 a_this_s a_this_image a_this_read a_this_mind a_this_letters a_this_row a_this_refused a_this_numbers a_this_cost g_this)), (a_this_s, .inl (cA, 22, .inl (upd f_this_s (q61.toNatClampNeg) p2))), (a_this_refused, .inl (cA, 7, .inl f_this_refused))] H := hP
                  have hD : va_D A [(a_this, .inr (3, rf_o3 a_this_s a_this_image a_this_read a_this_mind a_this_letters a_this_row a_this_refused a_this_numbers a_this_cost g_this)), (a_this_s, .inl (cA, 22, .inl (upd f_this_s (q61.toNatClampNeg) p2))), (a_this_refused, .inl (cA, 7, .inl f_this_refused))] := hD
                  refine lv_iload hx hb dX3_set_116 (lv_at hl 0 rfl) ?_
                  obtain rfl := Option.some.inj hf
                  exact W.iret (v := v60) hx hb hr (fun t ht hW => ⟨⟨v60, (), rfl, rfl, rf_mk ht hP hD⟩, hS.F ht⟩) hS.2.2 dX3_set_118
                · have hf := rf_ifn hf c57
                  refine lv_aload_n hx hb dX3_set_88 rfl (lv_at hl 2 rfl) ?_
                  refine lv_bipush (v := (-6)) hx hb dX3_set_89 (by decide) ?_
                  obtain ⟨q63, hq63, hf⟩ := rf_bindq hf
                  refine rf_Vi (As := [.int (-6)]) (rest := []) (wr := [(a_this_s, .inl (cA, 22, .inl f_this_s))]) (wn := [(a_this, .inr (3, rf_o3 a_this_s a_this_image a_this_read a_this_mind a_this_letters a_this_row a_this_refused a_this_numbers a_this_cost g_this)), (a_this_s, .inl (cA, 22, .inl f_this_s)), (a_this_refused, .inl (cA, 7, .inl q63.2))]) ⟨hx, hb, hml, hown, hts⟩ hK hP hD hS hA hE (c_X3_no l D cA ad a_this a_this_s a_this_image a_this_read a_this_mind a_this_letters a_this_row a_this_refused a_this_numbers a_this_cost H.size g_this f_this_refused (-6) q63 hq63) (cwV 1 hts gX3_set_X3_no rfl rfl rfl hv_X3_no ⟨Nat.le_of_ble_eq_true rfl, Nat.le_of_ble_eq_true rfl⟩) [0, 2] [1] [1, 0, 2] rfl rfl rfl rfl (by decide) rfl rfl 3 0 rfl rfl rfl rfl rfl hl.1 (Nat.le_of_ble_eq_true rfl) dX3_set_91 ⟨Nat.zero_le _, Nat.zero_le _⟩ (fun H locs hP hD hS => ?_)
                  obtain rfl := Option.some.inj hf
                  exact W.iret (v := q63.1) hx hb hr (fun t ht hW => ⟨⟨q63.1, (), rfl, rfl, rf_mk ht hP hD⟩, hS.F ht⟩) hS.2.2 dX3_set_94
              · have hf := rf_ifn hf c56
                refine lv_aload_n hx hb dX3_set_75 rfl (lv_at hl 2 rfl) ?_
                refine lv_bipush (v := (-4)) hx hb dX3_set_76 (by decide) ?_
                obtain ⟨q64, hq64, hf⟩ := rf_bindq hf
                refine rf_Vi (As := [.int (-4)]) (rest := []) (wr := [(a_this_s, .inl (cA, 22, .inl f_this_s))]) (wn := [(a_this, .inr (3, rf_o3 a_this_s a_this_image a_this_read a_this_mind a_this_letters a_this_row a_this_refused a_this_numbers a_this_cost g_this)), (a_this_s, .inl (cA, 22, .inl f_this_s)), (a_this_refused, .inl (cA, 7, .inl q64.2))]) ⟨hx, hb, hml, hown, hts⟩ hK hP hD hS hA hE (c_X3_no l D cA ad a_this a_this_s a_this_image a_this_read a_this_mind a_this_letters a_this_row a_this_refused a_this_numbers a_this_cost H.size g_this f_this_refused (-4) q64 hq64) (cwV 1 hts gX3_set_X3_no rfl rfl rfl hv_X3_no ⟨Nat.le_of_ble_eq_true rfl, Nat.le_of_ble_eq_true rfl⟩) [0, 2] [1] [1, 0, 2] rfl rfl rfl rfl (by decide) rfl rfl 3 0 rfl rfl rfl rfl rfl hl.1 (Nat.le_of_ble_eq_true rfl) dX3_set_78 ⟨Nat.zero_le _, Nat.zero_le _⟩ (fun H locs hP hD hS => ?_)
                obtain rfl := Option.some.inj hf
                exact W.iret (v := q64.1) hx hb hr (fun t ht hW => ⟨⟨q64.1, (), rfl, rfl, rf_mk ht hP hD⟩, hS.F ht⟩) hS.2.2 dX3_set_81
          · have hf := rf_ifp hf c45
            refine lv_bipush (v := 30) hx hb dX3_set_51 (by decide) ?_
            refine lv_goto (tgt := 68) hx hb dX3_set_53 (by decide) ?_
            refine lv_istore (lv' := [(4, .int 30), (3, .int 1), (0, .ref a_this), (1, .int p1), (2, .int p2)]) hx hb dX3_set_68 hl (by decide) rfl (fun ls hl => ?_)
            refine lv_iload_n hx hb dX3_set_70 rfl (lv_at hl 4 rfl) ?_
            refine lv_iload_n hx hb dX3_set_71 rfl (lv_at hl 1 rfl) ?_
            refine lv_icmp_ge (tgt := 82) hx hb dX3_set_72 (by decide) (fun c65 => ?_) (fun c65 => ?_)
            · have hf := rf_ifp hf c65
              refine lv_iload_n hx hb dX3_set_82 rfl (lv_at hl 4 rfl) ?_
              refine lv_iload hx hb dX3_set_83 (lv_at hl 0 rfl) ?_
              refine lv_icmp_le (tgt := 95) hx hb dX3_set_85 (by decide) (fun c66 => ?_) (fun c66 => ?_)
              · have hf := rf_ifp hf c66
                refine lv_aload_n hx hb dX3_set_95 rfl (lv_at hl 2 rfl) ?_
                refine va_get (D := D) (ci := 3) (v := .ref a_this_s) (C := RX3) (T := TX3) (N := 16) hx hb hts jX3_set_X3 hown hK hP 0 rfl rfl 0 (by decide) (hts _ kX3_set_0) (fun _ h9 => h9) rfl dX3_set_96 ?_
                refine lv_iload_n hx hb dX3_set_99 rfl (lv_at hl 3 rfl) ?_
                obtain ⟨q67, hq67, hf⟩ := rf_bindq hf
                refine rf_Si (As := [.int p1]) (rest := [.ref a_this_s]) (wr := [(a_this, .inr (3, rf_o3 a_this_s a_this_image a_this_read a_this_mind a_this_letters a_this_row a_this_refused a_this_numbers a_this_cost g_this)), (a_this_s, .inl (cA, 22, .inl f_this_s)), (a_this_refused, .inl (cA, 7, .inl f_this_refused))]) (wn := [(a_this, .inr (3, rf_o3 a_this_s a_this_image a_this_read a_this_mind a_this_letters a_this_row a_this_refused a_this_numbers a_this_cost g_this)), (a_this_s, .inl (cA, 22, .inl f_this_s)), (a_this_refused, .inl (cA, 7, .inl f_this_refused))]) ⟨hx, hb, hml, hown, hts⟩ hK hP hD hS hA hE (c_X3_placeOf l D cA ad H.size p1 q67 hq67) (va_cwS 1 hts gX3_set_X3_placeOf rfl rfl rfl hs_X3_placeOf ⟨Nat.le_of_ble_eq_true rfl, Nat.le_of_ble_eq_true rfl⟩) [] [0, 1, 2] [0, 1, 2] rfl rfl rfl rfl (by decide) rfl rfl rfl rfl hl.1 (Nat.le_of_ble_eq_true rfl) dX3_set_100 ⟨Nat.zero_le _, Nat.zero_le _⟩ (fun H locs hP hD hS => ?_)
                obtain ⟨c68, hf⟩ := rf_chk hf
                refine va_iald hx hb hK hP 1 0 rfl rfl c68 dX3_set_103 ?_
                refine lv_topi (fun v69 ev69 => ?_)
                have hf := rf_bindv hf ev69
                clear ev69
                refine lv_istore (lv' := [(5, .int v69), (4, .int 30), (3, .int 1), (0, .ref a_this), (1, .int p1), (2, .int p2)]) hx hb dX3_set_104 hl (by decide) rfl (fun ls hl => ?_)
                refine lv_aload_n hx hb dX3_set_106 rfl (lv_at hl 3 rfl) ?_
                refine va_get (D := D) (ci := 3) (v := .ref a_this_s) (C := RX3) (T := TX3) (N := 16) hx hb hts jX3_set_X3 hown hK hP 0 rfl rfl 0 (by decide) (hts _ kX3_set_0) (fun _ h9 => h9) rfl dX3_set_107 ?_
                refine lv_iload_n hx hb dX3_set_110 rfl (lv_at hl 4 rfl) ?_
                obtain ⟨q70, hq70, hf⟩ := rf_bindq hf
                refine rf_Si (As := [.int p1]) (rest := [.ref a_this_s]) (wr := [(a_this, .inr (3, rf_o3 a_this_s a_this_image a_this_read a_this_mind a_this_letters a_this_row a_this_refused a_this_numbers a_this_cost g_this)), (a_this_s, .inl (cA, 22, .inl f_this_s)), (a_this_refused, .inl (cA, 7, .inl f_this_refused))]) (wn := [(a_this, .inr (3, rf_o3 a_this_s a_this_image a_this_read a_this_mind a_this_letters a_this_row a_this_refused a_this_numbers a_this_cost g_this)), (a_this_s, .inl (cA, 22, .inl f_this_s)), (a_this_refused, .inl (cA, 7, .inl f_this_refused))]) ⟨hx, hb, hml, hown, hts⟩ hK hP hD hS hA hE (c_X3_placeOf l D cA ad H.size p1 q70 hq70) (va_cwS 1 hts gX3_set_X3_placeOf rfl rfl rfl hs_X3_placeOf ⟨Nat.le_of_ble_eq_true rfl, Nat.le_of_ble_eq_true rfl⟩) [] [0, 1, 2] [0, 1, 2] rfl rfl rfl rfl (by decide) rfl rfl rfl rfl hl.1 (Nat.le_of_ble_eq_true rfl) dX3_set_111 ⟨Nat.zero_le _, Nat.zero_le _⟩ (fun H locs hP hD hS => ?_)
                refine lv_iload_n hx hb dX3_set_114 rfl (lv_at hl 5 rfl) ?_
                obtain ⟨c71, hf⟩ := rf_chk hf
                refine va_iast hx hb hK hP hD hS 1 0 rfl rfl c71 dX3_set_115 (fun H locs hP hD hS => ?_)
                have hP : va_P D vwCl [(a_this, .inr (3, rf_o3 a_this_s a_this_image a_this_read a_this_mind a_this_letters a_this_row a_this_refused a_this_numbers a_this_cost g_this)), (a_this_s, .inl (cA, 22, .inl (upd f_this_s (q70.toNatClampNeg) p2))), (a_this_refused, .inl (cA, 7, .inl f_this_refused))] H := hP
                have hD : va_D A [(a_this, .inr (3, rf_o3 a_this_s a_this_image a_this_read a_this_mind a_this_letters a_this_row a_this_refused a_this_numbers a_this_cost g_this)), (a_this_s, .inl (cA, 22, .inl (upd f_this_s (q70.toNatClampNeg) p2))), (a_this_refused, .inl (cA, 7, .inl f_this_refused))] := hD
                refine lv_iload hx hb dX3_set_116 (lv_at hl 0 rfl) ?_
                obtain rfl := Option.some.inj hf
                exact W.iret (v := v69) hx hb hr (fun t ht hW => ⟨⟨v69, (), rfl, rfl, rf_mk ht hP hD⟩, hS.F ht⟩) hS.2.2 dX3_set_118
              · have hf := rf_ifn hf c66
                refine lv_aload_n hx hb dX3_set_88 rfl (lv_at hl 2 rfl) ?_
                refine lv_bipush (v := (-6)) hx hb dX3_set_89 (by decide) ?_
                obtain ⟨q72, hq72, hf⟩ := rf_bindq hf
                refine rf_Vi (As := [.int (-6)]) (rest := []) (wr := [(a_this_s, .inl (cA, 22, .inl f_this_s))]) (wn := [(a_this, .inr (3, rf_o3 a_this_s a_this_image a_this_read a_this_mind a_this_letters a_this_row a_this_refused a_this_numbers a_this_cost g_this)), (a_this_s, .inl (cA, 22, .inl f_this_s)), (a_this_refused, .inl (cA, 7, .inl q72.2))]) ⟨hx, hb, hml, hown, hts⟩ hK hP hD hS hA hE (c_X3_no l D cA ad a_this a_this_s a_this_image a_this_read a_this_mind a_this_letters a_this_row a_this_refused a_this_numbers a_this_cost H.size g_this f_this_refused (-6) q72 hq72) (cwV 1 hts gX3_set_X3_no rfl rfl rfl hv_X3_no ⟨Nat.le_of_ble_eq_true rfl, Nat.le_of_ble_eq_true rfl⟩) [0, 2] [1] [1, 0, 2] rfl rfl rfl rfl (by decide) rfl rfl 3 0 rfl rfl rfl rfl rfl hl.1 (Nat.le_of_ble_eq_true rfl) dX3_set_91 ⟨Nat.zero_le _, Nat.zero_le _⟩ (fun H locs hP hD hS => ?_)
                obtain rfl := Option.some.inj hf
                exact W.iret (v := q72.1) hx hb hr (fun t ht hW => ⟨⟨q72.1, (), rfl, rfl, rf_mk ht hP hD⟩, hS.F ht⟩) hS.2.2 dX3_set_94
            · have hf := rf_ifn hf c65
              refine lv_aload_n hx hb dX3_set_75 rfl (lv_at hl 2 rfl) ?_
              refine lv_bipush (v := (-4)) hx hb dX3_set_76 (by decide) ?_
              obtain ⟨q73, hq73, hf⟩ := rf_bindq hf
              refine rf_Vi (As := [.int (-4)]) (rest := []) (wr := [(a_this_s, .inl (cA, 22, .inl f_this_s))]) (wn := [(a_this, .inr (3, rf_o3 a_this_s a_this_image a_this_read a_this_mind a_this_letters a_this_row a_this_refused a_this_numbers a_this_cost g_this)), (a_this_s, .inl (cA, 22, .inl f_this_s)), (a_this_refused, .inl (cA, 7, .inl q73.2))]) ⟨hx, hb, hml, hown, hts⟩ hK hP hD hS hA hE (c_X3_no l D cA ad a_this a_this_s a_this_image a_this_read a_this_mind a_this_letters a_this_row a_this_refused a_this_numbers a_this_cost H.size g_this f_this_refused (-4) q73 hq73) (cwV 1 hts gX3_set_X3_no rfl rfl rfl hv_X3_no ⟨Nat.le_of_ble_eq_true rfl, Nat.le_of_ble_eq_true rfl⟩) [0, 2] [1] [1, 0, 2] rfl rfl rfl rfl (by decide) rfl rfl 3 0 rfl rfl rfl rfl rfl hl.1 (Nat.le_of_ble_eq_true rfl) dX3_set_78 ⟨Nat.zero_le _, Nat.zero_le _⟩ (fun H locs hP hD hS => ?_)
              obtain rfl := Option.some.inj hf
              exact W.iret (v := q73.1) hx hb hr (fun t ht hW => ⟨⟨q73.1, (), rfl, rfl, rf_mk ht hP hD⟩, hS.F ht⟩) hS.2.2 dX3_set_81
        · have hf := rf_ifp hf c44
          refine lv_sipush (v := 250) hx hb dX3_set_40 (by decide) ?_
          refine lv_goto (tgt := 68) hx hb dX3_set_43 (by decide) ?_
          refine lv_istore (lv' := [(4, .int 250), (3, .int 1), (0, .ref a_this), (1, .int p1), (2, .int p2)]) hx hb dX3_set_68 hl (by decide) rfl (fun ls hl => ?_)
          refine lv_iload_n hx hb dX3_set_70 rfl (lv_at hl 4 rfl) ?_
          refine lv_iload_n hx hb dX3_set_71 rfl (lv_at hl 1 rfl) ?_
          refine lv_icmp_ge (tgt := 82) hx hb dX3_set_72 (by decide) (fun c74 => ?_) (fun c74 => ?_)
          · have hf := rf_ifp hf c74
            refine lv_iload_n hx hb dX3_set_82 rfl (lv_at hl 4 rfl) ?_
            refine lv_iload hx hb dX3_set_83 (lv_at hl 0 rfl) ?_
            refine lv_icmp_le (tgt := 95) hx hb dX3_set_85 (by decide) (fun c75 => ?_) (fun c75 => ?_)
            · have hf := rf_ifp hf c75
              refine lv_aload_n hx hb dX3_set_95 rfl (lv_at hl 2 rfl) ?_
              refine va_get (D := D) (ci := 3) (v := .ref a_this_s) (C := RX3) (T := TX3) (N := 16) hx hb hts jX3_set_X3 hown hK hP 0 rfl rfl 0 (by decide) (hts _ kX3_set_0) (fun _ h9 => h9) rfl dX3_set_96 ?_
              refine lv_iload_n hx hb dX3_set_99 rfl (lv_at hl 3 rfl) ?_
              obtain ⟨q76, hq76, hf⟩ := rf_bindq hf
              refine rf_Si (As := [.int p1]) (rest := [.ref a_this_s]) (wr := [(a_this, .inr (3, rf_o3 a_this_s a_this_image a_this_read a_this_mind a_this_letters a_this_row a_this_refused a_this_numbers a_this_cost g_this)), (a_this_s, .inl (cA, 22, .inl f_this_s)), (a_this_refused, .inl (cA, 7, .inl f_this_refused))]) (wn := [(a_this, .inr (3, rf_o3 a_this_s a_this_image a_this_read a_this_mind a_this_letters a_this_row a_this_refused a_this_numbers a_this_cost g_this)), (a_this_s, .inl (cA, 22, .inl f_this_s)), (a_this_refused, .inl (cA, 7, .inl f_this_refused))]) ⟨hx, hb, hml, hown, hts⟩ hK hP hD hS hA hE (c_X3_placeOf l D cA ad H.size p1 q76 hq76) (va_cwS 1 hts gX3_set_X3_placeOf rfl rfl rfl hs_X3_placeOf ⟨Nat.le_of_ble_eq_true rfl, Nat.le_of_ble_eq_true rfl⟩) [] [0, 1, 2] [0, 1, 2] rfl rfl rfl rfl (by decide) rfl rfl rfl rfl hl.1 (Nat.le_of_ble_eq_true rfl) dX3_set_100 ⟨Nat.zero_le _, Nat.zero_le _⟩ (fun H locs hP hD hS => ?_)
              obtain ⟨c77, hf⟩ := rf_chk hf
              refine va_iald hx hb hK hP 1 0 rfl rfl c77 dX3_set_103 ?_
              refine lv_topi (fun v78 ev78 => ?_)
              have hf := rf_bindv hf ev78
              clear ev78
              refine lv_istore (lv' := [(5, .int v78), (4, .int 250), (3, .int 1), (0, .ref a_this), (1, .int p1), (2, .int p2)]) hx hb dX3_set_104 hl (by decide) rfl (fun ls hl => ?_)
              refine lv_aload_n hx hb dX3_set_106 rfl (lv_at hl 3 rfl) ?_
              refine va_get (D := D) (ci := 3) (v := .ref a_this_s) (C := RX3) (T := TX3) (N := 16) hx hb hts jX3_set_X3 hown hK hP 0 rfl rfl 0 (by decide) (hts _ kX3_set_0) (fun _ h9 => h9) rfl dX3_set_107 ?_
              refine lv_iload_n hx hb dX3_set_110 rfl (lv_at hl 4 rfl) ?_
              obtain ⟨q79, hq79, hf⟩ := rf_bindq hf
              refine rf_Si (As := [.int p1]) (rest := [.ref a_this_s]) (wr := [(a_this, .inr (3, rf_o3 a_this_s a_this_image a_this_read a_this_mind a_this_letters a_this_row a_this_refused a_this_numbers a_this_cost g_this)), (a_this_s, .inl (cA, 22, .inl f_this_s)), (a_this_refused, .inl (cA, 7, .inl f_this_refused))]) (wn := [(a_this, .inr (3, rf_o3 a_this_s a_this_image a_this_read a_this_mind a_this_letters a_this_row a_this_refused a_this_numbers a_this_cost g_this)), (a_this_s, .inl (cA, 22, .inl f_this_s)), (a_this_refused, .inl (cA, 7, .inl f_this_refused))]) ⟨hx, hb, hml, hown, hts⟩ hK hP hD hS hA hE (c_X3_placeOf l D cA ad H.size p1 q79 hq79) (va_cwS 1 hts gX3_set_X3_placeOf rfl rfl rfl hs_X3_placeOf ⟨Nat.le_of_ble_eq_true rfl, Nat.le_of_ble_eq_true rfl⟩) [] [0, 1, 2] [0, 1, 2] rfl rfl rfl rfl (by decide) rfl rfl rfl rfl hl.1 (Nat.le_of_ble_eq_true rfl) dX3_set_111 ⟨Nat.zero_le _, Nat.zero_le _⟩ (fun H locs hP hD hS => ?_)
              refine lv_iload_n hx hb dX3_set_114 rfl (lv_at hl 5 rfl) ?_
              obtain ⟨c80, hf⟩ := rf_chk hf
              refine va_iast hx hb hK hP hD hS 1 0 rfl rfl c80 dX3_set_115 (fun H locs hP hD hS => ?_)
              have hP : va_P D vwCl [(a_this, .inr (3, rf_o3 a_this_s a_this_image a_this_read a_this_mind a_this_letters a_this_row a_this_refused a_this_numbers a_this_cost g_this)), (a_this_s, .inl (cA, 22, .inl (upd f_this_s (q79.toNatClampNeg) p2))), (a_this_refused, .inl (cA, 7, .inl f_this_refused))] H := hP
              have hD : va_D A [(a_this, .inr (3, rf_o3 a_this_s a_this_image a_this_read a_this_mind a_this_letters a_this_row a_this_refused a_this_numbers a_this_cost g_this)), (a_this_s, .inl (cA, 22, .inl (upd f_this_s (q79.toNatClampNeg) p2))), (a_this_refused, .inl (cA, 7, .inl f_this_refused))] := hD
              refine lv_iload hx hb dX3_set_116 (lv_at hl 0 rfl) ?_
              obtain rfl := Option.some.inj hf
              exact W.iret (v := v78) hx hb hr (fun t ht hW => ⟨⟨v78, (), rfl, rfl, rf_mk ht hP hD⟩, hS.F ht⟩) hS.2.2 dX3_set_118
            · have hf := rf_ifn hf c75
              refine lv_aload_n hx hb dX3_set_88 rfl (lv_at hl 2 rfl) ?_
              refine lv_bipush (v := (-6)) hx hb dX3_set_89 (by decide) ?_
              obtain ⟨q81, hq81, hf⟩ := rf_bindq hf
              refine rf_Vi (As := [.int (-6)]) (rest := []) (wr := [(a_this_s, .inl (cA, 22, .inl f_this_s))]) (wn := [(a_this, .inr (3, rf_o3 a_this_s a_this_image a_this_read a_this_mind a_this_letters a_this_row a_this_refused a_this_numbers a_this_cost g_this)), (a_this_s, .inl (cA, 22, .inl f_this_s)), (a_this_refused, .inl (cA, 7, .inl q81.2))]) ⟨hx, hb, hml, hown, hts⟩ hK hP hD hS hA hE (c_X3_no l D cA ad a_this a_this_s a_this_image a_this_read a_this_mind a_this_letters a_this_row a_this_refused a_this_numbers a_this_cost H.size g_this f_this_refused (-6) q81 hq81) (cwV 1 hts gX3_set_X3_no rfl rfl rfl hv_X3_no ⟨Nat.le_of_ble_eq_true rfl, Nat.le_of_ble_eq_true rfl⟩) [0, 2] [1] [1, 0, 2] rfl rfl rfl rfl (by decide) rfl rfl 3 0 rfl rfl rfl rfl rfl hl.1 (Nat.le_of_ble_eq_true rfl) dX3_set_91 ⟨Nat.zero_le _, Nat.zero_le _⟩ (fun H locs hP hD hS => ?_)
              obtain rfl := Option.some.inj hf
              exact W.iret (v := q81.1) hx hb hr (fun t ht hW => ⟨⟨q81.1, (), rfl, rfl, rf_mk ht hP hD⟩, hS.F ht⟩) hS.2.2 dX3_set_94
          · have hf := rf_ifn hf c74
            refine lv_aload_n hx hb dX3_set_75 rfl (lv_at hl 2 rfl) ?_
            refine lv_bipush (v := (-4)) hx hb dX3_set_76 (by decide) ?_
            obtain ⟨q82, hq82, hf⟩ := rf_bindq hf
            refine rf_Vi (As := [.int (-4)]) (rest := []) (wr := [(a_this_s, .inl (cA, 22, .inl f_this_s))]) (wn := [(a_this, .inr (3, rf_o3 a_this_s a_this_image a_this_read a_this_mind a_this_letters a_this_row a_this_refused a_this_numbers a_this_cost g_this)), (a_this_s, .inl (cA, 22, .inl f_this_s)), (a_this_refused, .inl (cA, 7, .inl q82.2))]) ⟨hx, hb, hml, hown, hts⟩ hK hP hD hS hA hE (c_X3_no l D cA ad a_this a_this_s a_this_image a_this_read a_this_mind a_this_letters a_this_row a_this_refused a_this_numbers a_this_cost H.size g_this f_this_refused (-4) q82 hq82) (cwV 1 hts gX3_set_X3_no rfl rfl rfl hv_X3_no ⟨Nat.le_of_ble_eq_true rfl, Nat.le_of_ble_eq_true rfl⟩) [0, 2] [1] [1, 0, 2] rfl rfl rfl rfl (by decide) rfl rfl 3 0 rfl rfl rfl rfl rfl hl.1 (Nat.le_of_ble_eq_true rfl) dX3_set_78 ⟨Nat.zero_le _, Nat.zero_le _⟩ (fun H locs hP hD hS => ?_)
            obtain rfl := Option.some.inj hf
            exact W.iret (v := q82.1) hx hb hr (fun t ht hW => ⟨⟨q82.1, (), rfl, rfl, rf_mk ht hP hD⟩, hS.F ht⟩) hS.2.2 dX3_set_81
    · have hf := rf_ifp hf c3
      refine lv_bipush (v := 100) hx hb dX3_set_20 (by decide) ?_
      refine lv_goto (tgt := 35) hx hb dX3_set_22 (by decide) ?_
      refine lv_istore_n (lv' := [(3, .int 100), (0, .ref a_this), (1, .int p1), (2, .int p2)]) hx hb dX3_set_35 rfl hl (by decide) rfl (fun ls hl => ?_)
      refine lv_iload_n hx hb dX3_set_36 rfl (lv_at hl 2 rfl) ?_
      refine lv_if_ne (tgt := 46) hx hb dX3_set_37 (by decide) (fun c83 => ?_) (fun c83 => ?_)
      · have hf := rf_ifn hf c83
        refine lv_iload_n hx hb dX3_set_46 rfl (lv_at hl 2 rfl) ?_
        refine lv_iconst (v := 2) hx hb dX3_set_47 (by decide) ?_
        refine lv_icmp_ne (tgt := 56) hx hb dX3_set_48 (by decide) (fun c84 => ?_) (fun c84 => ?_)
        · have hf := rf_ifn hf c84
          refine lv_iload_n hx hb dX3_set_56 rfl (lv_at hl 2 rfl) ?_
          refine lv_iconst (v := 3) hx hb dX3_set_57 (by decide) ?_
          refine lv_icmp_ne (tgt := 66) hx hb dX3_set_58 (by decide) (fun c85 => ?_) (fun c85 => ?_)
          · have hf := rf_ifn hf c85
            refine lv_bipush (v := 9) hx hb dX3_set_66 (by decide) ?_
            refine lv_istore (lv' := [(4, .int 9), (3, .int 100), (0, .ref a_this), (1, .int p1), (2, .int p2)]) hx hb dX3_set_68 hl (by decide) rfl (fun ls hl => ?_)
            refine lv_iload_n hx hb dX3_set_70 rfl (lv_at hl 4 rfl) ?_
            refine lv_iload_n hx hb dX3_set_71 rfl (lv_at hl 1 rfl) ?_
            refine lv_icmp_ge (tgt := 82) hx hb dX3_set_72 (by decide) (fun c86 => ?_) (fun c86 => ?_)
            · have hf := rf_ifp hf c86
              refine lv_iload_n hx hb dX3_set_82 rfl (lv_at hl 4 rfl) ?_
              refine lv_iload hx hb dX3_set_83 (lv_at hl 0 rfl) ?_
              refine lv_icmp_le (tgt := 95) hx hb dX3_set_85 (by decide) (fun c87 => ?_) (fun c87 => ?_)
              · have hf := rf_ifp hf c87
                refine lv_aload_n hx hb dX3_set_95 rfl (lv_at hl 2 rfl) ?_
                refine va_get (D := D) (ci := 3) (v := .ref a_this_s) (C := RX3) (T := TX3) (N := 16) hx hb hts jX3_set_X3 hown hK hP 0 rfl rfl 0 (by decide) (hts _ kX3_set_0) (fun _ h9 => h9) rfl dX3_set_96 ?_
                refine lv_iload_n hx hb dX3_set_99 rfl (lv_at hl 3 rfl) ?_
                obtain ⟨q88, hq88, hf⟩ := rf_bindq hf
                refine rf_Si (As := [.int p1]) (rest := [.ref a_this_s]) (wr := [(a_this, .inr (3, rf_o3 a_this_s a_this_image a_this_read a_this_mind a_this_letters a_this_row a_this_refused a_this_numbers a_this_cost g_this)), (a_this_s, .inl (cA, 22, .inl f_this_s)), (a_this_refused, .inl (cA, 7, .inl f_this_refused))]) (wn := [(a_this, .inr (3, rf_o3 a_this_s a_this_image a_this_read a_this_mind a_this_letters a_this_row a_this_refused a_this_numbers a_this_cost g_this)), (a_this_s, .inl (cA, 22, .inl f_this_s)), (a_this_refused, .inl (cA, 7, .inl f_this_refused))]) ⟨hx, hb, hml, hown, hts⟩ hK hP hD hS hA hE (c_X3_placeOf l D cA ad H.size p1 q88 hq88) (va_cwS 1 hts gX3_set_X3_placeOf rfl rfl rfl hs_X3_placeOf ⟨Nat.le_of_ble_eq_true rfl, Nat.le_of_ble_eq_true rfl⟩) [] [0, 1, 2] [0, 1, 2] rfl rfl rfl rfl (by decide) rfl rfl rfl rfl hl.1 (Nat.le_of_ble_eq_true rfl) dX3_set_100 ⟨Nat.zero_le _, Nat.zero_le _⟩ (fun H locs hP hD hS => ?_)
                obtain ⟨c89, hf⟩ := rf_chk hf
                refine va_iald hx hb hK hP 1 0 rfl rfl c89 dX3_set_103 ?_
                refine lv_topi (fun v90 ev90 => ?_)
                have hf := rf_bindv hf ev90
                clear ev90
                refine lv_istore (lv' := [(5, .int v90), (4, .int 9), (3, .int 100), (0, .ref a_this), (1, .int p1), (2, .int p2)]) hx hb dX3_set_104 hl (by decide) rfl (fun ls hl => ?_)
                refine lv_aload_n hx hb dX3_set_106 rfl (lv_at hl 3 rfl) ?_
                refine va_get (D := D) (ci := 3) (v := .ref a_this_s) (C := RX3) (T := TX3) (N := 16) hx hb hts jX3_set_X3 hown hK hP 0 rfl rfl 0 (by decide) (hts _ kX3_set_0) (fun _ h9 => h9) rfl dX3_set_107 ?_
                refine lv_iload_n hx hb dX3_set_110 rfl (lv_at hl 4 rfl) ?_
                obtain ⟨q91, hq91, hf⟩ := rf_bindq hf
                refine rf_Si (As := [.int p1]) (rest := [.ref a_this_s]) (wr := [(a_this, .inr (3, rf_o3 a_this_s a_this_image a_this_read a_this_mind a_this_letters a_this_row a_this_refused a_this_numbers a_this_cost g_this)), (a_this_s, .inl (cA, 22, .inl f_this_s)), (a_this_refused, .inl (cA, 7, .inl f_this_refused))]) (wn := [(a_this, .inr (3, rf_o3 a_this_s a_this_image a_this_read a_this_mind a_this_letters a_this_row a_this_refused a_this_numbers a_this_cost g_this)), (a_this_s, .inl (cA, 22, .inl f_this_s)), (a_this_refused, .inl (cA, 7, .inl f_this_refused))]) ⟨hx, hb, hml, hown, hts⟩ hK hP hD hS hA hE (c_X3_placeOf l D cA ad H.size p1 q91 hq91) (va_cwS 1 hts gX3_set_X3_placeOf rfl rfl rfl hs_X3_placeOf ⟨Nat.le_of_ble_eq_true rfl, Nat.le_of_ble_eq_true rfl⟩) [] [0, 1, 2] [0, 1, 2] rfl rfl rfl rfl (by decide) rfl rfl rfl rfl hl.1 (Nat.le_of_ble_eq_true rfl) dX3_set_111 ⟨Nat.zero_le _, Nat.zero_le _⟩ (fun H locs hP hD hS => ?_)
                refine lv_iload_n hx hb dX3_set_114 rfl (lv_at hl 5 rfl) ?_
                obtain ⟨c92, hf⟩ := rf_chk hf
                refine va_iast hx hb hK hP hD hS 1 0 rfl rfl c92 dX3_set_115 (fun H locs hP hD hS => ?_)
                have hP : va_P D vwCl [(a_this, .inr (3, rf_o3 a_this_s a_this_image a_this_read a_this_mind a_this_letters a_this_row a_this_refused a_this_numbers a_this_cost g_this)), (a_this_s, .inl (cA, 22, .inl (upd f_this_s (q91.toNatClampNeg) p2))), (a_this_refused, .inl (cA, 7, .inl f_this_refused))] H := hP
                have hD : va_D A [(a_this, .inr (3, rf_o3 a_this_s a_this_image a_this_read a_this_mind a_this_letters a_this_row a_this_refused a_this_numbers a_this_cost g_this)), (a_this_s, .inl (cA, 22, .inl (upd f_this_s (q91.toNatClampNeg) p2))), (a_this_refused, .inl (cA, 7, .inl f_this_refused))] := hD
                refine lv_iload hx hb dX3_set_116 (lv_at hl 0 rfl) ?_
                obtain rfl := Option.some.inj hf
                exact W.iret (v := v90) hx hb hr (fun t ht hW => ⟨⟨v90, (), rfl, rfl, rf_mk ht hP hD⟩, hS.F ht⟩) hS.2.2 dX3_set_118
              · have hf := rf_ifn hf c87
                refine lv_aload_n hx hb dX3_set_88 rfl (lv_at hl 2 rfl) ?_
                refine lv_bipush (v := (-6)) hx hb dX3_set_89 (by decide) ?_
                obtain ⟨q93, hq93, hf⟩ := rf_bindq hf
                refine rf_Vi (As := [.int (-6)]) (rest := []) (wr := [(a_this_s, .inl (cA, 22, .inl f_this_s))]) (wn := [(a_this, .inr (3, rf_o3 a_this_s a_this_image a_this_read a_this_mind a_this_letters a_this_row a_this_refused a_this_numbers a_this_cost g_this)), (a_this_s, .inl (cA, 22, .inl f_this_s)), (a_this_refused, .inl (cA, 7, .inl q93.2))]) ⟨hx, hb, hml, hown, hts⟩ hK hP hD hS hA hE (c_X3_no l D cA ad a_this a_this_s a_this_image a_this_read a_this_mind a_this_letters a_this_row a_this_refused a_this_numbers a_this_cost H.size g_this f_this_refused (-6) q93 hq93) (cwV 1 hts gX3_set_X3_no rfl rfl rfl hv_X3_no ⟨Nat.le_of_ble_eq_true rfl, Nat.le_of_ble_eq_true rfl⟩) [0, 2] [1] [1, 0, 2] rfl rfl rfl rfl (by decide) rfl rfl 3 0 rfl rfl rfl rfl rfl hl.1 (Nat.le_of_ble_eq_true rfl) dX3_set_91 ⟨Nat.zero_le _, Nat.zero_le _⟩ (fun H locs hP hD hS => ?_)
                obtain rfl := Option.some.inj hf
                exact W.iret (v := q93.1) hx hb hr (fun t ht hW => ⟨⟨q93.1, (), rfl, rfl, rf_mk ht hP hD⟩, hS.F ht⟩) hS.2.2 dX3_set_94
            · have hf := rf_ifn hf c86
              refine lv_aload_n hx hb dX3_set_75 rfl (lv_at hl 2 rfl) ?_
              refine lv_bipush (v := (-4)) hx hb dX3_set_76 (by decide) ?_
              obtain ⟨q94, hq94, hf⟩ := rf_bindq hf
              refine rf_Vi (As := [.int (-4)]) (rest := []) (wr := [(a_this_s, .inl (cA, 22, .inl f_this_s))]) (wn := [(a_this, .inr (3, rf_o3 a_this_s a_this_image a_this_read a_this_mind a_this_letters a_this_row a_this_refused a_this_numbers a_this_cost g_this)), (a_this_s, .inl (cA, 22, .inl f_this_s)), (a_this_refused, .inl (cA, 7, .inl q94.2))]) ⟨hx, hb, hml, hown, hts⟩ hK hP hD hS hA hE (c_X3_no l D cA ad a_this a_this_s a_this_image a_this_read a_this_mind a_this_letters a_this_row a_this_refused a_this_numbers a_this_cost H.size g_this f_this_refused (-4) q94 hq94) (cwV 1 hts gX3_set_X3_no rfl rfl rfl hv_X3_no ⟨Nat.le_of_ble_eq_true rfl, Nat.le_of_ble_eq_true rfl⟩) [0, 2] [1] [1, 0, 2] rfl rfl rfl rfl (by decide) rfl rfl 3 0 rfl rfl rfl rfl rfl hl.1 (Nat.le_of_ble_eq_true rfl) dX3_set_78 ⟨Nat.zero_le _, Nat.zero_le _⟩ (fun H locs hP hD hS => ?_)
              obtain rfl := Option.some.inj hf
              exact W.iret (v := q94.1) hx hb hr (fun t ht hW => ⟨⟨q94.1, (), rfl, rfl, rf_mk ht hP hD⟩, hS.F ht⟩) hS.2.2 dX3_set_81
          · have hf := rf_ifp hf c85
            refine lv_bipush (v := 20) hx hb dX3_set_61 (by decide) ?_
            refine lv_goto (tgt := 68) hx hb dX3_set_63 (by decide) ?_
            refine lv_istore (lv' := [(4, .int 20), (3, .int 100), (0, .ref a_this), (1, .int p1), (2, .int p2)]) hx hb dX3_set_68 hl (by decide) rfl (fun ls hl => ?_)
            refine lv_iload_n hx hb dX3_set_70 rfl (lv_at hl 4 rfl) ?_
            refine lv_iload_n hx hb dX3_set_71 rfl (lv_at hl 1 rfl) ?_
            refine lv_icmp_ge (tgt := 82) hx hb dX3_set_72 (by decide) (fun c95 => ?_) (fun c95 => ?_)
            · have hf := rf_ifp hf c95
              refine lv_iload_n hx hb dX3_set_82 rfl (lv_at hl 4 rfl) ?_
              refine lv_iload hx hb dX3_set_83 (lv_at hl 0 rfl) ?_
              refine lv_icmp_le (tgt := 95) hx hb dX3_set_85 (by decide) (fun c96 => ?_) (fun c96 => ?_)
              · have hf := rf_ifp hf c96
                refine lv_aload_n hx hb dX3_set_95 rfl (lv_at hl 2 rfl) ?_
                refine va_get (D := D) (ci := 3) (v := .ref a_this_s) (C := RX3) (T := TX3) (N := 16) hx hb hts jX3_set_X3 hown hK hP 0 rfl rfl 0 (by decide) (hts _ kX3_set_0) (fun _ h9 => h9) rfl dX3_set_96 ?_
                refine lv_iload_n hx hb dX3_set_99 rfl (lv_at hl 3 rfl) ?_
                obtain ⟨q97, hq97, hf⟩ := rf_bindq hf
                refine rf_Si (As := [.int p1]) (rest := [.ref a_this_s]) (wr := [(a_this, .inr (3, rf_o3 a_this_s a_this_image a_this_read a_this_mind a_this_letters a_this_row a_this_refused a_this_numbers a_this_cost g_this)), (a_this_s, .inl (cA, 22, .inl f_this_s)), (a_this_refused, .inl (cA, 7, .inl f_this_refused))]) (wn := [(a_this, .inr (3, rf_o3 a_this_s a_this_image a_this_read a_this_mind a_this_letters a_this_row a_this_refused a_this_numbers a_this_cost g_this)), (a_this_s, .inl (cA, 22, .inl f_this_s)), (a_this_refused, .inl (cA, 7, .inl f_this_refused))]) ⟨hx, hb, hml, hown, hts⟩ hK hP hD hS hA hE (c_X3_placeOf l D cA ad H.size p1 q97 hq97) (va_cwS 1 hts gX3_set_X3_placeOf rfl rfl rfl hs_X3_placeOf ⟨Nat.le_of_ble_eq_true rfl, Nat.le_of_ble_eq_true rfl⟩) [] [0, 1, 2] [0, 1, 2] rfl rfl rfl rfl (by decide) rfl rfl rfl rfl hl.1 (Nat.le_of_ble_eq_true rfl) dX3_set_100 ⟨Nat.zero_le _, Nat.zero_le _⟩ (fun H locs hP hD hS => ?_)
                obtain ⟨c98, hf⟩ := rf_chk hf
                refine va_iald hx hb hK hP 1 0 rfl rfl c98 dX3_set_103 ?_
                refine lv_topi (fun v99 ev99 => ?_)
                have hf := rf_bindv hf ev99
                clear ev99
                refine lv_istore (lv' := [(5, .int v99), (4, .int 20), (3, .int 100), (0, .ref a_this), (1, .int p1), (2, .int p2)]) hx hb dX3_set_104 hl (by decide) rfl (fun ls hl => ?_)
                refine lv_aload_n hx hb dX3_set_106 rfl (lv_at hl 3 rfl) ?_
                refine va_get (D := D) (ci := 3) (v := .ref a_this_s) (C := RX3) (T := TX3) (N := 16) hx hb hts jX3_set_X3 hown hK hP 0 rfl rfl 0 (by decide) (hts _ kX3_set_0) (fun _ h9 => h9) rfl dX3_set_107 ?_
                refine lv_iload_n hx hb dX3_set_110 rfl (lv_at hl 4 rfl) ?_
                obtain ⟨q100, hq100, hf⟩ := rf_bindq hf
                refine rf_Si (As := [.int p1]) (rest := [.ref a_this_s]) (wr := [(a_this, .inr (3, rf_o3 a_this_s a_this_image a_this_read a_this_mind a_this_letters a_this_row a_this_refused a_this_numbers a_this_cost g_this)), (a_this_s, .inl (cA, 22, .inl f_this_s)), (a_this_refused, .inl (cA, 7, .inl f_this_refused))]) (wn := [(a_this, .inr (3, rf_o3 a_this_s a_this_image a_this_read a_this_mind a_this_letters a_this_row a_this_refused a_this_numbers a_this_cost g_this)), (a_this_s, .inl (cA, 22, .inl f_this_s)), (a_this_refused, .inl (cA, 7, .inl f_this_refused))]) ⟨hx, hb, hml, hown, hts⟩ hK hP hD hS hA hE (c_X3_placeOf l D cA ad H.size p1 q100 hq100) (va_cwS 1 hts gX3_set_X3_placeOf rfl rfl rfl hs_X3_placeOf ⟨Nat.le_of_ble_eq_true rfl, Nat.le_of_ble_eq_true rfl⟩) [] [0, 1, 2] [0, 1, 2] rfl rfl rfl rfl (by decide) rfl rfl rfl rfl hl.1 (Nat.le_of_ble_eq_true rfl) dX3_set_111 ⟨Nat.zero_le _, Nat.zero_le _⟩ (fun H locs hP hD hS => ?_)
                refine lv_iload_n hx hb dX3_set_114 rfl (lv_at hl 5 rfl) ?_
                obtain ⟨c101, hf⟩ := rf_chk hf
                refine va_iast hx hb hK hP hD hS 1 0 rfl rfl c101 dX3_set_115 (fun H locs hP hD hS => ?_)
                have hP : va_P D vwCl [(a_this, .inr (3, rf_o3 a_this_s a_this_image a_this_read a_this_mind a_this_letters a_this_row a_this_refused a_this_numbers a_this_cost g_this)), (a_this_s, .inl (cA, 22, .inl (upd f_this_s (q100.toNatClampNeg) p2))), (a_this_refused, .inl (cA, 7, .inl f_this_refused))] H := hP
                have hD : va_D A [(a_this, .inr (3, rf_o3 a_this_s a_this_image a_this_read a_this_mind a_this_letters a_this_row a_this_refused a_this_numbers a_this_cost g_this)), (a_this_s, .inl (cA, 22, .inl (upd f_this_s (q100.toNatClampNeg) p2))), (a_this_refused, .inl (cA, 7, .inl f_this_refused))] := hD
                refine lv_iload hx hb dX3_set_116 (lv_at hl 0 rfl) ?_
                obtain rfl := Option.some.inj hf
                exact W.iret (v := v99) hx hb hr (fun t ht hW => ⟨⟨v99, (), rfl, rfl, rf_mk ht hP hD⟩, hS.F ht⟩) hS.2.2 dX3_set_118
              · have hf := rf_ifn hf c96
                refine lv_aload_n hx hb dX3_set_88 rfl (lv_at hl 2 rfl) ?_
                refine lv_bipush (v := (-6)) hx hb dX3_set_89 (by decide) ?_
                obtain ⟨q102, hq102, hf⟩ := rf_bindq hf
                refine rf_Vi (As := [.int (-6)]) (rest := []) (wr := [(a_this_s, .inl (cA, 22, .inl f_this_s))]) (wn := [(a_this, .inr (3, rf_o3 a_this_s a_this_image a_this_read a_this_mind a_this_letters a_this_row a_this_refused a_this_numbers a_this_cost g_this)), (a_this_s, .inl (cA, 22, .inl f_this_s)), (a_this_refused, .inl (cA, 7, .inl q102.2))]) ⟨hx, hb, hml, hown, hts⟩ hK hP hD hS hA hE (c_X3_no l D cA ad a_this a_this_s a_this_image a_this_read a_this_mind a_this_letters a_this_row a_this_refused a_this_numbers a_this_cost H.size g_this f_this_refused (-6) q102 hq102) (cwV 1 hts gX3_set_X3_no rfl rfl rfl hv_X3_no ⟨Nat.le_of_ble_eq_true rfl, Nat.le_of_ble_eq_true rfl⟩) [0, 2] [1] [1, 0, 2] rfl rfl rfl rfl (by decide) rfl rfl 3 0 rfl rfl rfl rfl rfl hl.1 (Nat.le_of_ble_eq_true rfl) dX3_set_91 ⟨Nat.zero_le _, Nat.zero_le _⟩ (fun H locs hP hD hS => ?_)
                obtain rfl := Option.some.inj hf
                exact W.iret (v := q102.1) hx hb hr (fun t ht hW => ⟨⟨q102.1, (), rfl, rfl, rf_mk ht hP hD⟩, hS.F ht⟩) hS.2.2 dX3_set_94
            · have hf := rf_ifn hf c95
              refine lv_aload_n hx hb dX3_set_75 rfl (lv_at hl 2 rfl) ?_
              refine lv_bipush (v := (-4)) hx hb dX3_set_76 (by decide) ?_
              obtain ⟨q103, hq103, hf⟩ := rf_bindq hf
              refine rf_Vi (As := [.int (-4)]) (rest := []) (wr := [(a_this_s, .inl (cA, 22, .inl f_this_s))]) (wn := [(a_this, .inr (3, rf_o3 a_this_s a_this_image a_this_read a_this_mind a_this_letters a_this_row a_this_refused a_this_numbers a_this_cost g_this)), (a_this_s, .inl (cA, 22, .inl f_this_s)), (a_this_refused, .inl (cA, 7, .inl q103.2))]) ⟨hx, hb, hml, hown, hts⟩ hK hP hD hS hA hE (c_X3_no l D cA ad a_this a_this_s a_this_image a_this_read a_this_mind a_this_letters a_this_row a_this_refused a_this_numbers a_this_cost H.size g_this f_this_refused (-4) q103 hq103) (cwV 1 hts gX3_set_X3_no rfl rfl rfl hv_X3_no ⟨Nat.le_of_ble_eq_true rfl, Nat.le_of_ble_eq_true rfl⟩) [0, 2] [1] [1, 0, 2] rfl rfl rfl rfl (by decide) rfl rfl 3 0 rfl rfl rfl rfl rfl hl.1 (Nat.le_of_ble_eq_true rfl) dX3_set_78 ⟨Nat.zero_le _, Nat.zero_le _⟩ (fun H locs hP hD hS => ?_)
              obtain rfl := Option.some.inj hf
              exact W.iret (v := q103.1) hx hb hr (fun t ht hW => ⟨⟨q103.1, (), rfl, rfl, rf_mk ht hP hD⟩, hS.F ht⟩) hS.2.2 dX3_set_81
        · have hf := rf_ifp hf c84
          refine lv_bipush (v := 30) hx hb dX3_set_51 (by decide) ?_
          refine lv_goto (tgt := 68) hx hb dX3_set_53 (by decide) ?_
          refine lv_istore (lv' := [(4, .int 30), (3, .int 100), (0, .ref a_this), (1, .int p1), (2, .int p2)]) hx hb dX3_set_68 hl (by decide) rfl (fun ls hl => ?_)
          refine lv_iload_n hx hb dX3_set_70 rfl (lv_at hl 4 rfl) ?_
          refine lv_iload_n hx hb dX3_set_71 rfl (lv_at hl 1 rfl) ?_
          refine lv_icmp_ge (tgt := 82) hx hb dX3_set_72 (by decide) (fun c104 => ?_) (fun c104 => ?_)
          · have hf := rf_ifp hf c104
            refine lv_iload_n hx hb dX3_set_82 rfl (lv_at hl 4 rfl) ?_
            refine lv_iload hx hb dX3_set_83 (lv_at hl 0 rfl) ?_
            refine lv_icmp_le (tgt := 95) hx hb dX3_set_85 (by decide) (fun c105 => ?_) (fun c105 => ?_)
            · have hf := rf_ifp hf c105
              refine lv_aload_n hx hb dX3_set_95 rfl (lv_at hl 2 rfl) ?_
              refine va_get (D := D) (ci := 3) (v := .ref a_this_s) (C := RX3) (T := TX3) (N := 16) hx hb hts jX3_set_X3 hown hK hP 0 rfl rfl 0 (by decide) (hts _ kX3_set_0) (fun _ h9 => h9) rfl dX3_set_96 ?_
              refine lv_iload_n hx hb dX3_set_99 rfl (lv_at hl 3 rfl) ?_
              obtain ⟨q106, hq106, hf⟩ := rf_bindq hf
              refine rf_Si (As := [.int p1]) (rest := [.ref a_this_s]) (wr := [(a_this, .inr (3, rf_o3 a_this_s a_this_image a_this_read a_this_mind a_this_letters a_this_row a_this_refused a_this_numbers a_this_cost g_this)), (a_this_s, .inl (cA, 22, .inl f_this_s)), (a_this_refused, .inl (cA, 7, .inl f_this_refused))]) (wn := [(a_this, .inr (3, rf_o3 a_this_s a_this_image a_this_read a_this_mind a_this_letters a_this_row a_this_refused a_this_numbers a_this_cost g_this)), (a_this_s, .inl (cA, 22, .inl f_this_s)), (a_this_refused, .inl (cA, 7, .inl f_this_refused))]) ⟨hx, hb, hml, hown, hts⟩ hK hP hD hS hA hE (c_X3_placeOf l D cA ad H.size p1 q106 hq106) (va_cwS 1 hts gX3_set_X3_placeOf rfl rfl rfl hs_X3_placeOf ⟨Nat.le_of_ble_eq_true rfl, Nat.le_of_ble_eq_true rfl⟩) [] [0, 1, 2] [0, 1, 2] rfl rfl rfl rfl (by decide) rfl rfl rfl rfl hl.1 (Nat.le_of_ble_eq_true rfl) dX3_set_100 ⟨Nat.zero_le _, Nat.zero_le _⟩ (fun H locs hP hD hS => ?_)
              obtain ⟨c107, hf⟩ := rf_chk hf
              refine va_iald hx hb hK hP 1 0 rfl rfl c107 dX3_set_103 ?_
              refine lv_topi (fun v108 ev108 => ?_)
              have hf := rf_bindv hf ev108
              clear ev108
              refine lv_istore (lv' := [(5, .int v108), (4, .int 30), (3, .int 100), (0, .ref a_this), (1, .int p1), (2, .int p2)]) hx hb dX3_set_104 hl (by decide) rfl (fun ls hl => ?_)
              refine lv_aload_n hx hb dX3_set_106 rfl (lv_at hl 3 rfl) ?_
              refine va_get (D := D) (ci := 3) (v := .ref a_this_s) (C := RX3) (T := TX3) (N := 16) hx hb hts jX3_set_X3 hown hK hP 0 rfl rfl 0 (by decide) (hts _ kX3_set_0) (fun _ h9 => h9) rfl dX3_set_107 ?_
              refine lv_iload_n hx hb dX3_set_110 rfl (lv_at hl 4 rfl) ?_
              obtain ⟨q109, hq109, hf⟩ := rf_bindq hf
              refine rf_Si (As := [.int p1]) (rest := [.ref a_this_s]) (wr := [(a_this, .inr (3, rf_o3 a_this_s a_this_image a_this_read a_this_mind a_this_letters a_this_row a_this_refused a_this_numbers a_this_cost g_this)), (a_this_s, .inl (cA, 22, .inl f_this_s)), (a_this_refused, .inl (cA, 7, .inl f_this_refused))]) (wn := [(a_this, .inr (3, rf_o3 a_this_s a_this_image a_this_read a_this_mind a_this_letters a_this_row a_this_refused a_this_numbers a_this_cost g_this)), (a_this_s, .inl (cA, 22, .inl f_this_s)), (a_this_refused, .inl (cA, 7, .inl f_this_refused))]) ⟨hx, hb, hml, hown, hts⟩ hK hP hD hS hA hE (c_X3_placeOf l D cA ad H.size p1 q109 hq109) (va_cwS 1 hts gX3_set_X3_placeOf rfl rfl rfl hs_X3_placeOf ⟨Nat.le_of_ble_eq_true rfl, Nat.le_of_ble_eq_true rfl⟩) [] [0, 1, 2] [0, 1, 2] rfl rfl rfl rfl (by decide) rfl rfl rfl rfl hl.1 (Nat.le_of_ble_eq_true rfl) dX3_set_111 ⟨Nat.zero_le _, Nat.zero_le _⟩ (fun H locs hP hD hS => ?_)
              refine lv_iload_n hx hb dX3_set_114 rfl (lv_at hl 5 rfl) ?_
              obtain ⟨c110, hf⟩ := rf_chk hf
              refine va_iast hx hb hK hP hD hS 1 0 rfl rfl c110 dX3_set_115 (fun H locs hP hD hS => ?_)
              have hP : va_P D vwCl [(a_this, .inr (3, rf_o3 a_this_s a_this_image a_this_read a_this_mind a_this_letters a_this_row a_this_refused a_this_numbers a_this_cost g_this)), (a_this_s, .inl (cA, 22, .inl (upd f_this_s (q109.toNatClampNeg) p2))), (a_this_refused, .inl (cA, 7, .inl f_this_refused))] H := hP
              have hD : va_D A [(a_this, .inr (3, rf_o3 a_this_s a_this_image a_this_read a_this_mind a_this_letters a_this_row a_this_refused a_this_numbers a_this_cost g_this)), (a_this_s, .inl (cA, 22, .inl (upd f_this_s (q109.toNatClampNeg) p2))), (a_this_refused, .inl (cA, 7, .inl f_this_refused))] := hD
              refine lv_iload hx hb dX3_set_116 (lv_at hl 0 rfl) ?_
              obtain rfl := Option.some.inj hf
              exact W.iret (v := v108) hx hb hr (fun t ht hW => ⟨⟨v108, (), rfl, rfl, rf_mk ht hP hD⟩, hS.F ht⟩) hS.2.2 dX3_set_118
            · have hf := rf_ifn hf c105
              refine lv_aload_n hx hb dX3_set_88 rfl (lv_at hl 2 rfl) ?_
              refine lv_bipush (v := (-6)) hx hb dX3_set_89 (by decide) ?_
              obtain ⟨q111, hq111, hf⟩ := rf_bindq hf
              refine rf_Vi (As := [.int (-6)]) (rest := []) (wr := [(a_this_s, .inl (cA, 22, .inl f_this_s))]) (wn := [(a_this, .inr (3, rf_o3 a_this_s a_this_image a_this_read a_this_mind a_this_letters a_this_row a_this_refused a_this_numbers a_this_cost g_this)), (a_this_s, .inl (cA, 22, .inl f_this_s)), (a_this_refused, .inl (cA, 7, .inl q111.2))]) ⟨hx, hb, hml, hown, hts⟩ hK hP hD hS hA hE (c_X3_no l D cA ad a_this a_this_s a_this_image a_this_read a_this_mind a_this_letters a_this_row a_this_refused a_this_numbers a_this_cost H.size g_this f_this_refused (-6) q111 hq111) (cwV 1 hts gX3_set_X3_no rfl rfl rfl hv_X3_no ⟨Nat.le_of_ble_eq_true rfl, Nat.le_of_ble_eq_true rfl⟩) [0, 2] [1] [1, 0, 2] rfl rfl rfl rfl (by decide) rfl rfl 3 0 rfl rfl rfl rfl rfl hl.1 (Nat.le_of_ble_eq_true rfl) dX3_set_91 ⟨Nat.zero_le _, Nat.zero_le _⟩ (fun H locs hP hD hS => ?_)
              obtain rfl := Option.some.inj hf
              exact W.iret (v := q111.1) hx hb hr (fun t ht hW => ⟨⟨q111.1, (), rfl, rfl, rf_mk ht hP hD⟩, hS.F ht⟩) hS.2.2 dX3_set_94
          · have hf := rf_ifn hf c104
            refine lv_aload_n hx hb dX3_set_75 rfl (lv_at hl 2 rfl) ?_
            refine lv_bipush (v := (-4)) hx hb dX3_set_76 (by decide) ?_
            obtain ⟨q112, hq112, hf⟩ := rf_bindq hf
            refine rf_Vi (As := [.int (-4)]) (rest := []) (wr := [(a_this_s, .inl (cA, 22, .inl f_this_s))]) (wn := [(a_this, .inr (3, rf_o3 a_this_s a_this_image a_this_read a_this_mind a_this_letters a_this_row a_this_refused a_this_numbers a_this_cost g_this)), (a_this_s, .inl (cA, 22, .inl f_this_s)), (a_this_refused, .inl (cA, 7, .inl q112.2))]) ⟨hx, hb, hml, hown, hts⟩ hK hP hD hS hA hE (c_X3_no l D cA ad a_this a_this_s a_this_image a_this_read a_this_mind a_this_letters a_this_row a_this_refused a_this_numbers a_this_cost H.size g_this f_this_refused (-4) q112 hq112) (cwV 1 hts gX3_set_X3_no rfl rfl rfl hv_X3_no ⟨Nat.le_of_ble_eq_true rfl, Nat.le_of_ble_eq_true rfl⟩) [0, 2] [1] [1, 0, 2] rfl rfl rfl rfl (by decide) rfl rfl 3 0 rfl rfl rfl rfl rfl hl.1 (Nat.le_of_ble_eq_true rfl) dX3_set_78 ⟨Nat.zero_le _, Nat.zero_le _⟩ (fun H locs hP hD hS => ?_)
            obtain rfl := Option.some.inj hf
            exact W.iret (v := q112.1) hx hb hr (fun t ht hW => ⟨⟨q112.1, (), rfl, rfl, rf_mk ht hP hD⟩, hS.F ht⟩) hS.2.2 dX3_set_81
      · have hf := rf_ifp hf c83
        refine lv_sipush (v := 250) hx hb dX3_set_40 (by decide) ?_
        refine lv_goto (tgt := 68) hx hb dX3_set_43 (by decide) ?_
        refine lv_istore (lv' := [(4, .int 250), (3, .int 100), (0, .ref a_this), (1, .int p1), (2, .int p2)]) hx hb dX3_set_68 hl (by decide) rfl (fun ls hl => ?_)
        refine lv_iload_n hx hb dX3_set_70 rfl (lv_at hl 4 rfl) ?_
        refine lv_iload_n hx hb dX3_set_71 rfl (lv_at hl 1 rfl) ?_
        refine lv_icmp_ge (tgt := 82) hx hb dX3_set_72 (by decide) (fun c113 => ?_) (fun c113 => ?_)
        · have hf := rf_ifp hf c113
          refine lv_iload_n hx hb dX3_set_82 rfl (lv_at hl 4 rfl) ?_
          refine lv_iload hx hb dX3_set_83 (lv_at hl 0 rfl) ?_
          refine lv_icmp_le (tgt := 95) hx hb dX3_set_85 (by decide) (fun c114 => ?_) (fun c114 => ?_)
          · have hf := rf_ifp hf c114
            refine lv_aload_n hx hb dX3_set_95 rfl (lv_at hl 2 rfl) ?_
            refine va_get (D := D) (ci := 3) (v := .ref a_this_s) (C := RX3) (T := TX3) (N := 16) hx hb hts jX3_set_X3 hown hK hP 0 rfl rfl 0 (by decide) (hts _ kX3_set_0) (fun _ h9 => h9) rfl dX3_set_96 ?_
            refine lv_iload_n hx hb dX3_set_99 rfl (lv_at hl 3 rfl) ?_
            obtain ⟨q115, hq115, hf⟩ := rf_bindq hf
            refine rf_Si (As := [.int p1]) (rest := [.ref a_this_s]) (wr := [(a_this, .inr (3, rf_o3 a_this_s a_this_image a_this_read a_this_mind a_this_letters a_this_row a_this_refused a_this_numbers a_this_cost g_this)), (a_this_s, .inl (cA, 22, .inl f_this_s)), (a_this_refused, .inl (cA, 7, .inl f_this_refused))]) (wn := [(a_this, .inr (3, rf_o3 a_this_s a_this_image a_this_read a_this_mind a_this_letters a_this_row a_this_refused a_this_numbers a_this_cost g_this)), (a_this_s, .inl (cA, 22, .inl f_this_s)), (a_this_refused, .inl (cA, 7, .inl f_this_refused))]) ⟨hx, hb, hml, hown, hts⟩ hK hP hD hS hA hE (c_X3_placeOf l D cA ad H.size p1 q115 hq115) (va_cwS 1 hts gX3_set_X3_placeOf rfl rfl rfl hs_X3_placeOf ⟨Nat.le_of_ble_eq_true rfl, Nat.le_of_ble_eq_true rfl⟩) [] [0, 1, 2] [0, 1, 2] rfl rfl rfl rfl (by decide) rfl rfl rfl rfl hl.1 (Nat.le_of_ble_eq_true rfl) dX3_set_100 ⟨Nat.zero_le _, Nat.zero_le _⟩ (fun H locs hP hD hS => ?_)
            obtain ⟨c116, hf⟩ := rf_chk hf
            refine va_iald hx hb hK hP 1 0 rfl rfl c116 dX3_set_103 ?_
            refine lv_topi (fun v117 ev117 => ?_)
            have hf := rf_bindv hf ev117
            clear ev117
            refine lv_istore (lv' := [(5, .int v117), (4, .int 250), (3, .int 100), (0, .ref a_this), (1, .int p1), (2, .int p2)]) hx hb dX3_set_104 hl (by decide) rfl (fun ls hl => ?_)
            refine lv_aload_n hx hb dX3_set_106 rfl (lv_at hl 3 rfl) ?_
            refine va_get (D := D) (ci := 3) (v := .ref a_this_s) (C := RX3) (T := TX3) (N := 16) hx hb hts jX3_set_X3 hown hK hP 0 rfl rfl 0 (by decide) (hts _ kX3_set_0) (fun _ h9 => h9) rfl dX3_set_107 ?_
            refine lv_iload_n hx hb dX3_set_110 rfl (lv_at hl 4 rfl) ?_
            obtain ⟨q118, hq118, hf⟩ := rf_bindq hf
            refine rf_Si (As := [.int p1]) (rest := [.ref a_this_s]) (wr := [(a_this, .inr (3, rf_o3 a_this_s a_this_image a_this_read a_this_mind a_this_letters a_this_row a_this_refused a_this_numbers a_this_cost g_this)), (a_this_s, .inl (cA, 22, .inl f_this_s)), (a_this_refused, .inl (cA, 7, .inl f_this_refused))]) (wn := [(a_this, .inr (3, rf_o3 a_this_s a_this_image a_this_read a_this_mind a_this_letters a_this_row a_this_refused a_this_numbers a_this_cost g_this)), (a_this_s, .inl (cA, 22, .inl f_this_s)), (a_this_refused, .inl (cA, 7, .inl f_this_refused))]) ⟨hx, hb, hml, hown, hts⟩ hK hP hD hS hA hE (c_X3_placeOf l D cA ad H.size p1 q118 hq118) (va_cwS 1 hts gX3_set_X3_placeOf rfl rfl rfl hs_X3_placeOf ⟨Nat.le_of_ble_eq_true rfl, Nat.le_of_ble_eq_true rfl⟩) [] [0, 1, 2] [0, 1, 2] rfl rfl rfl rfl (by decide) rfl rfl rfl rfl hl.1 (Nat.le_of_ble_eq_true rfl) dX3_set_111 ⟨Nat.zero_le _, Nat.zero_le _⟩ (fun H locs hP hD hS => ?_)
            refine lv_iload_n hx hb dX3_set_114 rfl (lv_at hl 5 rfl) ?_
            obtain ⟨c119, hf⟩ := rf_chk hf
            refine va_iast hx hb hK hP hD hS 1 0 rfl rfl c119 dX3_set_115 (fun H locs hP hD hS => ?_)
            have hP : va_P D vwCl [(a_this, .inr (3, rf_o3 a_this_s a_this_image a_this_read a_this_mind a_this_letters a_this_row a_this_refused a_this_numbers a_this_cost g_this)), (a_this_s, .inl (cA, 22, .inl (upd f_this_s (q118.toNatClampNeg) p2))), (a_this_refused, .inl (cA, 7, .inl f_this_refused))] H := hP
            have hD : va_D A [(a_this, .inr (3, rf_o3 a_this_s a_this_image a_this_read a_this_mind a_this_letters a_this_row a_this_refused a_this_numbers a_this_cost g_this)), (a_this_s, .inl (cA, 22, .inl (upd f_this_s (q118.toNatClampNeg) p2))), (a_this_refused, .inl (cA, 7, .inl f_this_refused))] := hD
            refine lv_iload hx hb dX3_set_116 (lv_at hl 0 rfl) ?_
            obtain rfl := Option.some.inj hf
            exact W.iret (v := v117) hx hb hr (fun t ht hW => ⟨⟨v117, (), rfl, rfl, rf_mk ht hP hD⟩, hS.F ht⟩) hS.2.2 dX3_set_118
          · have hf := rf_ifn hf c114
            refine lv_aload_n hx hb dX3_set_88 rfl (lv_at hl 2 rfl) ?_
            refine lv_bipush (v := (-6)) hx hb dX3_set_89 (by decide) ?_
            obtain ⟨q120, hq120, hf⟩ := rf_bindq hf
            refine rf_Vi (As := [.int (-6)]) (rest := []) (wr := [(a_this_s, .inl (cA, 22, .inl f_this_s))]) (wn := [(a_this, .inr (3, rf_o3 a_this_s a_this_image a_this_read a_this_mind a_this_letters a_this_row a_this_refused a_this_numbers a_this_cost g_this)), (a_this_s, .inl (cA, 22, .inl f_this_s)), (a_this_refused, .inl (cA, 7, .inl q120.2))]) ⟨hx, hb, hml, hown, hts⟩ hK hP hD hS hA hE (c_X3_no l D cA ad a_this a_this_s a_this_image a_this_read a_this_mind a_this_letters a_this_row a_this_refused a_this_numbers a_this_cost H.size g_this f_this_refused (-6) q120 hq120) (cwV 1 hts gX3_set_X3_no rfl rfl rfl hv_X3_no ⟨Nat.le_of_ble_eq_true rfl, Nat.le_of_ble_eq_true rfl⟩) [0, 2] [1] [1, 0, 2] rfl rfl rfl rfl (by decide) rfl rfl 3 0 rfl rfl rfl rfl rfl hl.1 (Nat.le_of_ble_eq_true rfl) dX3_set_91 ⟨Nat.zero_le _, Nat.zero_le _⟩ (fun H locs hP hD hS => ?_)
            obtain rfl := Option.some.inj hf
            exact W.iret (v := q120.1) hx hb hr (fun t ht hW => ⟨⟨q120.1, (), rfl, rfl, rf_mk ht hP hD⟩, hS.F ht⟩) hS.2.2 dX3_set_94
        · have hf := rf_ifn hf c113
          refine lv_aload_n hx hb dX3_set_75 rfl (lv_at hl 2 rfl) ?_
          refine lv_bipush (v := (-4)) hx hb dX3_set_76 (by decide) ?_
          obtain ⟨q121, hq121, hf⟩ := rf_bindq hf
          refine rf_Vi (As := [.int (-4)]) (rest := []) (wr := [(a_this_s, .inl (cA, 22, .inl f_this_s))]) (wn := [(a_this, .inr (3, rf_o3 a_this_s a_this_image a_this_read a_this_mind a_this_letters a_this_row a_this_refused a_this_numbers a_this_cost g_this)), (a_this_s, .inl (cA, 22, .inl f_this_s)), (a_this_refused, .inl (cA, 7, .inl q121.2))]) ⟨hx, hb, hml, hown, hts⟩ hK hP hD hS hA hE (c_X3_no l D cA ad a_this a_this_s a_this_image a_this_read a_this_mind a_this_letters a_this_row a_this_refused a_this_numbers a_this_cost H.size g_this f_this_refused (-4) q121 hq121) (cwV 1 hts gX3_set_X3_no rfl rfl rfl hv_X3_no ⟨Nat.le_of_ble_eq_true rfl, Nat.le_of_ble_eq_true rfl⟩) [0, 2] [1] [1, 0, 2] rfl rfl rfl rfl (by decide) rfl rfl 3 0 rfl rfl rfl rfl rfl hl.1 (Nat.le_of_ble_eq_true rfl) dX3_set_78 ⟨Nat.zero_le _, Nat.zero_le _⟩ (fun H locs hP hD hS => ?_)
          obtain rfl := Option.some.inj hf
          exact W.iret (v := q121.1) hx hb hr (fun t ht hW => ⟨⟨q121.1, (), rfl, rfl, rf_mk ht hP hD⟩, hS.F ht⟩) hS.2.2 dX3_set_81
  · have hf := rf_ifp hf c2
    refine lv_aload_n hx hb dX3_set_9 rfl (lv_at hl 0 rfl) ?_
    refine lv_bipush (v := (-2)) hx hb dX3_set_10 (by decide) ?_
    obtain ⟨q122, hq122, hf⟩ := rf_bindq hf
    refine rf_Vi (As := [.int (-2)]) (rest := []) (wr := [(a_this_s, .inl (cA, 22, .inl f_this_s))]) (wn := [(a_this, .inr (3, rf_o3 a_this_s a_this_image a_this_read a_this_mind a_this_letters a_this_row a_this_refused a_this_numbers a_this_cost g_this)), (a_this_s, .inl (cA, 22, .inl f_this_s)), (a_this_refused, .inl (cA, 7, .inl q122.2))]) ⟨hx, hb, hml, hown, hts⟩ hK hP hD hS hA hE (c_X3_no l D cA ad a_this a_this_s a_this_image a_this_read a_this_mind a_this_letters a_this_row a_this_refused a_this_numbers a_this_cost H.size g_this f_this_refused (-2) q122 hq122) (cwV 1 hts gX3_set_X3_no rfl rfl rfl hv_X3_no ⟨Nat.le_of_ble_eq_true rfl, Nat.le_of_ble_eq_true rfl⟩) [0, 2] [1] [1, 0, 2] rfl rfl rfl rfl (by decide) rfl rfl 3 0 rfl rfl rfl rfl rfl hl.1 (Nat.le_of_ble_eq_true rfl) dX3_set_12 ⟨Nat.zero_le _, Nat.zero_le _⟩ (fun H locs hP hD hS => ?_)
    obtain rfl := Option.some.inj hf
    exact W.iret (v := q122.1) hx hb hr (fun t ht hW => ⟨⟨q122.1, (), rfl, rfl, rf_mk ht hP hD⟩, hS.F ht⟩) hS.2.2 dX3_set_15
theorem kX3_back_0 : (.fieldLink RX3 9 "RingAndFingerModel" "s" "[I" : Cond) ∈ wsX3_back := by decide +kernel
theorem jX3_back_X3 : ∀ w ∈ u_ws RX3 TX3 16, w ∈ wsX3_back := by decide +kernel
set_option maxHeartbeats 8000000 in
set_option maxRecDepth 100000 in
theorem c_X3_back (l : Launch) (D : va_G) (cA : ClassId) (ad : Nat → Nat) (a_this a_this_s a_this_image a_this_read a_this_mind a_this_letters a_this_row a_this_refused a_this_numbers a_this_cost : Nat) (sz : Nat) (g_this f_this_s : Nat → Int32) (q : Int32 × (Nat → Int32)) (hf : f_X3_back g_this f_this_s = some q) : Met l yX3_back wsX3_back ({ frames := 0, cells := 0, slots := 0, locals := 0 } : Room) (va_Pc [.ref a_this] (rf_Pre D cA ad [(a_this, .inr (3, rf_o3 a_this_s a_this_image a_this_read a_this_mind a_this_letters a_this_row a_this_refused a_this_numbers a_this_cost g_this)), (a_this_s, .inl (cA, 22, .inl f_this_s))] sz)) (va_Qi (fun (r : Int32) (_ : Unit) => r = q.1) (fun _ t => rf_Post D (va_A [(a_this, .inr (3, rf_o3 a_this_s a_this_image a_this_read a_this_mind a_this_letters a_this_row a_this_refused a_this_numbers a_this_cost g_this)), (a_this_s, .inl (cA, 22, .inl f_this_s))] sz) [(a_this, .inr (3, rf_o3 a_this_s a_this_image a_this_read a_this_mind a_this_letters a_this_row a_this_refused a_this_numbers a_this_cost g_this)), (a_this_s, .inl (cA, 22, .inl q.2))] t) (va_A [(a_this, .inr (3, rf_o3 a_this_s a_this_image a_this_read a_this_mind a_this_letters a_this_row a_this_refused a_this_numbers a_this_cost g_this)), (a_this_s, .inl (cA, 22, .inl f_this_s))] sz)) 0 0 (va_A [(a_this, .inr (3, rf_o3 a_this_s a_this_image a_this_read a_this_mind a_this_letters a_this_row a_this_refused a_this_numbers a_this_cost g_this)), (a_this_s, .inl (cA, 22, .inl f_this_s))] sz) := by
  refine Met.ofW (cc := cX3_back) (maxL := 2) (ret := (some .int)) (by decide) rfl ?_
  intro p e s m args below meth c s₁ B hml hv
  obtain ⟨rfl, hsz, hP, hK, hD0, hE⟩ := hv
  have hx := B.exec
  have hb := B.bytes
  have hr := B.returns
  have hts := atoms_spec (ws := wsX3_back) B.pre
  have hown : s.vm.findClass RX3 = some m.cls := findClass_of_methodNamed B.named
  have hlocks := B.notSynchronized
  subst hsz
  have hD := hD0.self (sz := s.heap.size)
  generalize hAe : va_A [(a_this, .inr (3, rf_o3 a_this_s a_this_image a_this_read a_this_mind a_this_letters a_this_row a_this_refused a_this_numbers a_this_cost g_this)), (a_this_s, .inl (cA, 22, .inl f_this_s))] s.heap.size = A at hD hE ⊢
  have hA : ∀ q : Nat, s.heap.size ≤ q → A q := fun q h => by rw [← hAe]; exact Or.inr h
  have hS : va_S A s.heap s.heap [] := va_S.rf
  have hP : va_P D vwCl [(a_this, .inr (3, rf_o3 a_this_s a_this_image a_this_read a_this_mind a_this_letters a_this_row a_this_refused a_this_numbers a_this_cost g_this)), (a_this_s, .inl (cA, 22, .inl f_this_s))] s.heap := hP
  have hl := lv_entry ([.ref a_this]) (n := 2) (Nat.le_of_ble_eq_true rfl)
  rw [lg_entry_eq]
  generalize (lg_sl ([.ref a_this]) ++ List.replicate (2 - (lg_sl ([.ref a_this])).length) Slot.unset).toArray = ls at hl ⊢
  have hl : lv_has ls 2 [(0, .ref a_this)] := hl
  rw [f_X3_back] at hf
  refine lv_aload_n hx hb dX3_back_0 rfl (lv_at hl 0 rfl) ?_
  refine va_get (D := D) (ci := 3) (v := .ref a_this_s) (C := RX3) (T := TX3) (N := 16) hx hb hts jX3_back_X3 hown hK hP 0 rfl rfl 0 (by decide) (hts _ kX3_back_0) (fun _ h9 => h9) rfl dX3_back_1 ?_
  refine lv_iconst (v := 3) hx hb dX3_back_4 (by decide) ?_
  refine rf_ialoadk hx hb hK hP 1 0 rfl rfl (k := 3) (by decide) (by decide) (by decide) dX3_back_5 ?_
  refine lv_topi (fun v1 ev1 => ?_)
  have hf := rf_bindv hf ev1
  clear ev1
  refine lv_istore_n (lv' := [(1, .int v1), (0, .ref a_this)]) hx hb dX3_back_6 rfl hl (by decide) rfl (fun ls hl => ?_)
  refine lv_aload_n hx hb dX3_back_7 rfl (lv_at hl 1 rfl) ?_
  refine va_get (D := D) (ci := 3) (v := .ref a_this_s) (C := RX3) (T := TX3) (N := 16) hx hb hts jX3_back_X3 hown hK hP 0 rfl rfl 0 (by decide) (hts _ kX3_back_0) (fun _ h9 => h9) rfl dX3_back_8 ?_
  refine lv_iconst (v := 3) hx hb dX3_back_11 (by decide) ?_
  refine lv_iconst (v := 0) hx hb dX3_back_12 (by decide) ?_
  refine rf_iastorek hx hb hK hP hD hS 1 0 rfl rfl (k := 3) (by decide) (by decide) (by decide) dX3_back_13 (fun H locs hP hD hS => ?_)
  have hP : va_P D vwCl [(a_this, .inr (3, rf_o3 a_this_s a_this_image a_this_read a_this_mind a_this_letters a_this_row a_this_refused a_this_numbers a_this_cost g_this)), (a_this_s, .inl (cA, 22, .inl (upd f_this_s 3 0)))] H := hP
  have hD : va_D A [(a_this, .inr (3, rf_o3 a_this_s a_this_image a_this_read a_this_mind a_this_letters a_this_row a_this_refused a_this_numbers a_this_cost g_this)), (a_this_s, .inl (cA, 22, .inl (upd f_this_s 3 0)))] := hD
  refine lv_iload_n hx hb dX3_back_14 rfl (lv_at hl 0 rfl) ?_
  obtain rfl := Option.some.inj hf
  exact W.iret (v := v1) hx hb hr (fun t ht hW => ⟨⟨v1, (), rfl, rfl, rf_mk ht hP hD⟩, hS.F ht⟩) hS.2.2 dX3_back_15

set_option maxHeartbeats 8000000 in
set_option maxRecDepth 100000 in
theorem c_X3_kind (l : Launch) (D : va_G) (cA : ClassId) (ad : Nat → Nat) (a_this a_this_s a_this_image a_this_read a_this_mind a_this_letters a_this_row a_this_refused a_this_numbers a_this_cost : Nat) (sz : Nat) (g_this f_this_s f_this_refused : Nat → Int32) (p1 p2 : Int32) (q : Int32 × (Nat → Int32)) (hf : f_X3_kind g_this f_this_s f_this_refused p1 p2 = some q) : Met l yX3_kind wsX3_kind ({ frames := 1, cells := 0, slots := 0, locals := 22 } : Room) (va_Pc [.ref a_this, .int p1, .int p2] (rf_Pre D cA ad [(a_this, .inr (3, rf_o3 a_this_s a_this_image a_this_read a_this_mind a_this_letters a_this_row a_this_refused a_this_numbers a_this_cost g_this)), (a_this_s, .inl (cA, 22, .inl f_this_s)), (a_this_refused, .inl (cA, 7, .inl f_this_refused))] sz)) (va_Qi (fun (r : Int32) (_ : Unit) => r = q.1) (fun _ t => rf_Post D (va_A [(a_this, .inr (3, rf_o3 a_this_s a_this_image a_this_read a_this_mind a_this_letters a_this_row a_this_refused a_this_numbers a_this_cost g_this)), (a_this_s, .inl (cA, 22, .inl f_this_s)), (a_this_refused, .inl (cA, 7, .inl f_this_refused))] sz) [(a_this, .inr (3, rf_o3 a_this_s a_this_image a_this_read a_this_mind a_this_letters a_this_row a_this_refused a_this_numbers a_this_cost g_this)), (a_this_s, .inl (cA, 22, .inl f_this_s)), (a_this_refused, .inl (cA, 7, .inl q.2))] t) (va_A [(a_this, .inr (3, rf_o3 a_this_s a_this_image a_this_read a_this_mind a_this_letters a_this_row a_this_refused a_this_numbers a_this_cost g_this)), (a_this_s, .inl (cA, 22, .inl f_this_s)), (a_this_refused, .inl (cA, 7, .inl f_this_refused))] sz)) 0 0 (va_A [(a_this, .inr (3, rf_o3 a_this_s a_this_image a_this_read a_this_mind a_this_letters a_this_row a_this_refused a_this_numbers a_this_cost g_this)), (a_this_s, .inl (cA, 22, .inl f_this_s)), (a_this_refused, .inl (cA, 7, .inl f_this_refused))] sz) := by
  refine Met.ofW (cc := cX3_kind) (maxL := 3) (ret := (some .int)) (by decide) rfl ?_
  intro p e s m args below meth c s₁ B hml hv
  obtain ⟨rfl, hsz, hP, hK, hD0, hE⟩ := hv
  have hx := B.exec
  have hb := B.bytes
  have hr := B.returns
  have hts := atoms_spec (ws := wsX3_kind) B.pre
  have hown : s.vm.findClass RX3 = some m.cls := findClass_of_methodNamed B.named
  have hlocks := B.notSynchronized
  subst hsz
  have hD := hD0.self (sz := s.heap.size)
  generalize hAe : va_A [(a_this, .inr (3, rf_o3 a_this_s a_this_image a_this_read a_this_mind a_this_letters a_this_row a_this_refused a_this_numbers a_this_cost g_this)), (a_this_s, .inl (cA, 22, .inl f_this_s)), (a_this_refused, .inl (cA, 7, .inl f_this_refused))] s.heap.size = A at hD hE ⊢
  have hA : ∀ q : Nat, s.heap.size ≤ q → A q := fun q h => by rw [← hAe]; exact Or.inr h
  have hS : va_S A s.heap s.heap [] := va_S.rf
  have hP : va_P D vwCl [(a_this, .inr (3, rf_o3 a_this_s a_this_image a_this_read a_this_mind a_this_letters a_this_row a_this_refused a_this_numbers a_this_cost g_this)), (a_this_s, .inl (cA, 22, .inl f_this_s)), (a_this_refused, .inl (cA, 7, .inl f_this_refused))] s.heap := hP
  have hl := lv_entry ([.ref a_this, .int p1, .int p2]) (n := 3) (Nat.le_of_ble_eq_true rfl)
  rw [lg_entry_eq]
  generalize (lg_sl ([.ref a_this, .int p1, .int p2]) ++ List.replicate (3 - (lg_sl ([.ref a_this, .int p1, .int p2])).length) Slot.unset).toArray = ls at hl ⊢
  have hl : lv_has ls 3 [(0, .ref a_this), (1, .int p1), (2, .int p2)] := hl
  rw [f_X3_kind] at hf
  refine lv_iload_n hx hb dX3_kind_0 rfl (lv_at hl 1 rfl) ?_
  refine lv_iconst (v := 0) hx hb dX3_kind_1 (by decide) ?_
  refine lv_bipush (v := 6) hx hb dX3_kind_2 (by decide) ?_
  obtain ⟨q1, hq1, hf⟩ := rf_bindq hf
  refine rf_Si (As := [.int p1, .int 0, .int 6]) (rest := []) (wr := [(a_this, .inr (3, rf_o3 a_this_s a_this_image a_this_read a_this_mind a_this_letters a_this_row a_this_refused a_this_numbers a_this_cost g_this)), (a_this_s, .inl (cA, 22, .inl f_this_s)), (a_this_refused, .inl (cA, 7, .inl f_this_refused))]) (wn := [(a_this, .inr (3, rf_o3 a_this_s a_this_image a_this_read a_this_mind a_this_letters a_this_row a_this_refused a_this_numbers a_this_cost g_this)), (a_this_s, .inl (cA, 22, .inl f_this_s)), (a_this_refused, .inl (cA, 7, .inl f_this_refused))]) ⟨hx, hb, hml, hown, hts⟩ hK hP hD hS hA hE (c_X3_isIn l D cA ad s.heap.size p1 0 6 q1 hq1) (va_cwS 3 hts gX3_kind_X3_isIn rfl rfl rfl hs_X3_isIn ⟨Nat.le_of_ble_eq_true rfl, Nat.le_of_ble_eq_true rfl⟩) [] [0, 1, 2] [0, 1, 2] rfl rfl rfl rfl (by decide) rfl rfl rfl rfl hl.1 (Nat.le_of_ble_eq_true rfl) dX3_kind_4 ⟨Nat.zero_le _, Nat.zero_le _⟩ (fun H locs hP hD hS => ?_)
  refine lv_if_eq (tgt := 19) hx hb dX3_kind_7 (by decide) (fun c2 => ?_) (fun c2 => ?_)
  · have hf := rf_ifp hf c2
    refine lv_aload_n hx hb dX3_kind_19 rfl (lv_at hl 0 rfl) ?_
    refine lv_bipush (v := (-2)) hx hb dX3_kind_20 (by decide) ?_
    obtain ⟨q3, hq3, hf⟩ := rf_bindq hf
    refine rf_Vi (As := [.int (-2)]) (rest := []) (wr := [(a_this_s, .inl (cA, 22, .inl f_this_s))]) (wn := [(a_this, .inr (3, rf_o3 a_this_s a_this_image a_this_read a_this_mind a_this_letters a_this_row a_this_refused a_this_numbers a_this_cost g_this)), (a_this_s, .inl (cA, 22, .inl f_this_s)), (a_this_refused, .inl (cA, 7, .inl q3.2))]) ⟨hx, hb, hml, hown, hts⟩ hK hP hD hS hA hE (c_X3_no l D cA ad a_this a_this_s a_this_image a_this_read a_this_mind a_this_letters a_this_row a_this_refused a_this_numbers a_this_cost H.size g_this f_this_refused (-2) q3 hq3) (cwV 1 hts gX3_kind_X3_no rfl rfl rfl hv_X3_no ⟨Nat.le_of_ble_eq_true rfl, Nat.le_of_ble_eq_true rfl⟩) [0, 2] [1] [1, 0, 2] rfl rfl rfl rfl (by decide) rfl rfl 3 0 rfl rfl rfl rfl rfl hl.1 (Nat.le_of_ble_eq_true rfl) dX3_kind_22 ⟨Nat.zero_le _, Nat.zero_le _⟩ (fun H locs hP hD hS => ?_)
    obtain rfl := Option.some.inj hf
    exact W.iret (v := q3.1) hx hb hr (fun t ht hW => ⟨⟨q3.1, (), rfl, rfl, rf_mk ht hP hD⟩, hS.F ht⟩) hS.2.2 dX3_kind_25
  · have hf := rf_ifn hf c2
    refine lv_iload_n hx hb dX3_kind_10 rfl (lv_at hl 2 rfl) ?_
    refine lv_iconst (v := 0) hx hb dX3_kind_11 (by decide) ?_
    refine lv_iconst (v := 3) hx hb dX3_kind_12 (by decide) ?_
    obtain ⟨q4, hq4, hf⟩ := rf_bindq hf
    refine rf_Si (As := [.int p2, .int 0, .int 3]) (rest := []) (wr := [(a_this, .inr (3, rf_o3 a_this_s a_this_image a_this_read a_this_mind a_this_letters a_this_row a_this_refused a_this_numbers a_this_cost g_this)), (a_this_s, .inl (cA, 22, .inl f_this_s)), (a_this_refused, .inl (cA, 7, .inl f_this_refused))]) (wn := [(a_this, .inr (3, rf_o3 a_this_s a_this_image a_this_read a_this_mind a_this_letters a_this_row a_this_refused a_this_numbers a_this_cost g_this)), (a_this_s, .inl (cA, 22, .inl f_this_s)), (a_this_refused, .inl (cA, 7, .inl f_this_refused))]) ⟨hx, hb, hml, hown, hts⟩ hK hP hD hS hA hE (c_X3_isIn l D cA ad H.size p2 0 3 q4 hq4) (va_cwS 3 hts gX3_kind_X3_isIn rfl rfl rfl hs_X3_isIn ⟨Nat.le_of_ble_eq_true rfl, Nat.le_of_ble_eq_true rfl⟩) [] [0, 1, 2] [0, 1, 2] rfl rfl rfl rfl (by decide) rfl rfl rfl rfl hl.1 (Nat.le_of_ble_eq_true rfl) dX3_kind_13 ⟨Nat.zero_le _, Nat.zero_le _⟩ (fun H locs hP hD hS => ?_)
    refine lv_if_ne (tgt := 26) hx hb dX3_kind_16 (by decide) (fun c5 => ?_) (fun c5 => ?_)
    · have hf := rf_ifn hf c5
      refine lv_iload_n hx hb dX3_kind_26 rfl (lv_at hl 2 rfl) ?_
      refine lv_if_ne (tgt := 38) hx hb dX3_kind_27 (by decide) (fun c6 => ?_) (fun c6 => ?_)
      · have hf := rf_ifn hf c6
        refine lv_iload_n hx hb dX3_kind_38 rfl (lv_at hl 2 rfl) ?_
        refine lv_iconst (v := 1) hx hb dX3_kind_39 (by decide) ?_
        refine lv_icmp_ne (tgt := 50) hx hb dX3_kind_40 (by decide) (fun c7 => ?_) (fun c7 => ?_)
        · have hf := rf_ifn hf c7
          refine lv_iload_n hx hb dX3_kind_50 rfl (lv_at hl 2 rfl) ?_
          refine lv_iconst (v := 2) hx hb dX3_kind_51 (by decide) ?_
          refine lv_icmp_ne (tgt := 62) hx hb dX3_kind_52 (by decide) (fun c8 => ?_) (fun c8 => ?_)
          · have hf := rf_ifn hf c8
            refine lv_iload_n hx hb dX3_kind_62 rfl (lv_at hl 1 rfl) ?_
            obtain ⟨q9, hq9, hf⟩ := rf_bindq hf
            refine rf_Si (As := [.int p1]) (rest := []) (wr := [(a_this, .inr (3, rf_o3 a_this_s a_this_image a_this_read a_this_mind a_this_letters a_this_row a_this_refused a_this_numbers a_this_cost g_this)), (a_this_s, .inl (cA, 22, .inl f_this_s)), (a_this_refused, .inl (cA, 7, .inl f_this_refused))]) (wn := [(a_this, .inr (3, rf_o3 a_this_s a_this_image a_this_read a_this_mind a_this_letters a_this_row a_this_refused a_this_numbers a_this_cost g_this)), (a_this_s, .inl (cA, 22, .inl f_this_s)), (a_this_refused, .inl (cA, 7, .inl f_this_refused))]) ⟨hx, hb, hml, hown, hts⟩ hK hP hD hS hA hE (c_X3_harmOf l D cA ad H.size p1 q9 hq9) (va_cwS 1 hts gX3_kind_X3_harmOf rfl rfl rfl hs_X3_harmOf ⟨Nat.le_of_ble_eq_true rfl, Nat.le_of_ble_eq_true rfl⟩) [] [0, 1, 2] [0, 1, 2] rfl rfl rfl rfl (by decide) rfl rfl rfl rfl hl.1 (Nat.le_of_ble_eq_true rfl) dX3_kind_63 ⟨Nat.zero_le _, Nat.zero_le _⟩ (fun H locs hP hD hS => ?_)
            obtain rfl := Option.some.inj hf
            exact W.iret (v := q9) hx hb hr (fun t ht hW => ⟨⟨q9, (), rfl, rfl, rf_mk ht hP hD⟩, hS.F ht⟩) hS.2.2 dX3_kind_66
          · have hf := rf_ifp hf c8
            refine lv_iload_n hx hb dX3_kind_55 rfl (lv_at hl 1 rfl) ?_
            obtain ⟨q10, hq10, hf⟩ := rf_bindq hf
            refine rf_Si (As := [.int p1]) (rest := []) (wr := [(a_this, .inr (3, rf_o3 a_this_s a_this_image a_this_read a_this_mind a_this_letters a_this_row a_this_refused a_this_numbers a_this_cost g_this)), (a_this_s, .inl (cA, 22, .inl f_this_s)), (a_this_refused, .inl (cA, 7, .inl f_this_refused))]) (wn := [(a_this, .inr (3, rf_o3 a_this_s a_this_image a_this_read a_this_mind a_this_letters a_this_row a_this_refused a_this_numbers a_this_cost g_this)), (a_this_s, .inl (cA, 22, .inl f_this_s)), (a_this_refused, .inl (cA, 7, .inl f_this_refused))]) ⟨hx, hb, hml, hown, hts⟩ hK hP hD hS hA hE (c_X3_swellsBy l D cA ad H.size p1 q10 hq10) (va_cwS 1 hts gX3_kind_X3_swellsBy rfl rfl rfl hs_X3_swellsBy ⟨Nat.le_of_ble_eq_true rfl, Nat.le_of_ble_eq_true rfl⟩) [] [0, 1, 2] [0, 1, 2] rfl rfl rfl rfl (by decide) rfl rfl rfl rfl hl.1 (Nat.le_of_ble_eq_true rfl) dX3_kind_56 ⟨Nat.zero_le _, Nat.zero_le _⟩ (fun H locs hP hD hS => ?_)
            refine lv_goto (tgt := 66) hx hb dX3_kind_59 (by decide) ?_
            obtain rfl := Option.some.inj hf
            exact W.iret (v := q10) hx hb hr (fun t ht hW => ⟨⟨q10, (), rfl, rfl, rf_mk ht hP hD⟩, hS.F ht⟩) hS.2.2 dX3_kind_66
        · have hf := rf_ifp hf c7
          refine lv_iload_n hx hb dX3_kind_43 rfl (lv_at hl 1 rfl) ?_
          obtain ⟨q11, hq11, hf⟩ := rf_bindq hf
          refine rf_Si (As := [.int p1]) (rest := []) (wr := [(a_this, .inr (3, rf_o3 a_this_s a_this_image a_this_read a_this_mind a_this_letters a_this_row a_this_refused a_this_numbers a_this_cost g_this)), (a_this_s, .inl (cA, 22, .inl f_this_s)), (a_this_refused, .inl (cA, 7, .inl f_this_refused))]) (wn := [(a_this, .inr (3, rf_o3 a_this_s a_this_image a_this_read a_this_mind a_this_letters a_this_row a_this_refused a_this_numbers a_this_cost g_this)), (a_this_s, .inl (cA, 22, .inl f_this_s)), (a_this_refused, .inl (cA, 7, .inl f_this_refused))]) ⟨hx, hb, hml, hown, hts⟩ hK hP hD hS hA hE (c_X3_minutesOf l D cA ad H.size p1 q11 hq11) (va_cwS 1 hts gX3_kind_X3_minutesOf rfl rfl rfl hs_X3_minutesOf ⟨Nat.le_of_ble_eq_true rfl, Nat.le_of_ble_eq_true rfl⟩) [] [0, 1, 2] [0, 1, 2] rfl rfl rfl rfl (by decide) rfl rfl rfl rfl hl.1 (Nat.le_of_ble_eq_true rfl) dX3_kind_44 ⟨Nat.zero_le _, Nat.zero_le _⟩ (fun H locs hP hD hS => ?_)
          refine lv_goto (tgt := 66) hx hb dX3_kind_47 (by decide) ?_
          obtain rfl := Option.some.inj hf
          exact W.iret (v := q11) hx hb hr (fun t ht hW => ⟨⟨q11, (), rfl, rfl, rf_mk ht hP hD⟩, hS.F ht⟩) hS.2.2 dX3_kind_66
      · have hf := rf_ifp hf c6
        refine lv_aload_n hx hb dX3_kind_30 rfl (lv_at hl 0 rfl) ?_
        refine lv_iload_n hx hb dX3_kind_31 rfl (lv_at hl 1 rfl) ?_
        obtain ⟨q12, hq12, hf⟩ := rf_bindq hf
        refine rf_Vi (As := [.int p1]) (rest := []) (wr := [(a_this_refused, .inl (cA, 7, .inl f_this_refused))]) (wn := [(a_this, .inr (3, rf_o3 a_this_s a_this_image a_this_read a_this_mind a_this_letters a_this_row a_this_refused a_this_numbers a_this_cost g_this)), (a_this_s, .inl (cA, 22, .inl f_this_s)), (a_this_refused, .inl (cA, 7, .inl f_this_refused))]) ⟨hx, hb, hml, hown, hts⟩ hK hP hD hS hA hE (c_X3_allows l D cA ad a_this a_this_s a_this_image a_this_read a_this_mind a_this_letters a_this_row a_this_refused a_this_numbers a_this_cost H.size g_this f_this_s p1 q12 hq12) (cwV 1 hts gX3_kind_X3_allows rfl rfl rfl hv_X3_allows ⟨Nat.le_of_ble_eq_true rfl, Nat.le_of_ble_eq_true rfl⟩) [0, 1] [2] [1, 2, 0] rfl rfl rfl rfl (by decide) rfl rfl 3 0 rfl rfl rfl rfl rfl hl.1 (Nat.le_of_ble_eq_true rfl) dX3_kind_32 ⟨Nat.zero_le _, Nat.zero_le _⟩ (fun H locs hP hD hS => ?_)
        refine lv_goto (tgt := 66) hx hb dX3_kind_35 (by decide) ?_
        obtain rfl := Option.some.inj hf
        exact W.iret (v := q12) hx hb hr (fun t ht hW => ⟨⟨q12, (), rfl, rfl, rf_mk ht hP hD⟩, hS.F ht⟩) hS.2.2 dX3_kind_66
    · have hf := rf_ifp hf c5
      refine lv_aload_n hx hb dX3_kind_19 rfl (lv_at hl 0 rfl) ?_
      refine lv_bipush (v := (-2)) hx hb dX3_kind_20 (by decide) ?_
      obtain ⟨q13, hq13, hf⟩ := rf_bindq hf
      refine rf_Vi (As := [.int (-2)]) (rest := []) (wr := [(a_this_s, .inl (cA, 22, .inl f_this_s))]) (wn := [(a_this, .inr (3, rf_o3 a_this_s a_this_image a_this_read a_this_mind a_this_letters a_this_row a_this_refused a_this_numbers a_this_cost g_this)), (a_this_s, .inl (cA, 22, .inl f_this_s)), (a_this_refused, .inl (cA, 7, .inl q13.2))]) ⟨hx, hb, hml, hown, hts⟩ hK hP hD hS hA hE (c_X3_no l D cA ad a_this a_this_s a_this_image a_this_read a_this_mind a_this_letters a_this_row a_this_refused a_this_numbers a_this_cost H.size g_this f_this_refused (-2) q13 hq13) (cwV 1 hts gX3_kind_X3_no rfl rfl rfl hv_X3_no ⟨Nat.le_of_ble_eq_true rfl, Nat.le_of_ble_eq_true rfl⟩) [0, 2] [1] [1, 0, 2] rfl rfl rfl rfl (by decide) rfl rfl 3 0 rfl rfl rfl rfl rfl hl.1 (Nat.le_of_ble_eq_true rfl) dX3_kind_22 ⟨Nat.zero_le _, Nat.zero_le _⟩ (fun H locs hP hD hS => ?_)
      obtain rfl := Option.some.inj hf
      exact W.iret (v := q13.1) hx hb hr (fun t ht hW => ⟨⟨q13.1, (), rfl, rfl, rf_mk ht hP hD⟩, hS.F ht⟩) hS.2.2 dX3_kind_25

set_option maxHeartbeats 8000000 in
set_option maxRecDepth 100000 in
theorem c_X3_wrongTry (l : Launch) (D : va_G) (cA : ClassId) (ad : Nat → Nat) (a_this a_this_s a_this_image a_this_read a_this_mind a_this_letters a_this_row a_this_refused a_this_numbers a_this_cost : Nat) (sz : Nat) (g_this f_this_s : Nat → Int32) (p1 : Int32) (q : Int32) (hf : f_X3_wrongTry g_this f_this_s p1 = some q) : Met l yX3_wrongTry wsX3_wrongTry ({ frames := 1, cells := 0, slots := 0, locals := 22 } : Room) (va_Pc [.ref a_this, .int p1] (rf_Pre D cA ad [(a_this, .inr (3, rf_o3 a_this_s a_this_image a_this_read a_this_mind a_this_letters a_this_row a_this_refused a_this_numbers a_this_cost g_this)), (a_this_s, .inl (cA, 22, .inl f_this_s))] sz)) (va_Qi (fun (r : Int32) (_ : Unit) => r = q) (fun _ t => rf_Post D (va_A [(a_this, .inr (3, rf_o3 a_this_s a_this_image a_this_read a_this_mind a_this_letters a_this_row a_this_refused a_this_numbers a_this_cost g_this)), (a_this_s, .inl (cA, 22, .inl f_this_s))] sz) [(a_this, .inr (3, rf_o3 a_this_s a_this_image a_this_read a_this_mind a_this_letters a_this_row a_this_refused a_this_numbers a_this_cost g_this)), (a_this_s, .inl (cA, 22, .inl f_this_s))] t) (va_A [(a_this, .inr (3, rf_o3 a_this_s a_this_image a_this_read a_this_mind a_this_letters a_this_row a_this_refused a_this_numbers a_this_cost g_this)), (a_this_s, .inl (cA, 22, .inl f_this_s))] sz)) 0 0 (va_A [(a_this, .inr (3, rf_o3 a_this_s a_this_image a_this_read a_this_mind a_this_letters a_this_row a_this_refused a_this_numbers a_this_cost g_this)), (a_this_s, .inl (cA, 22, .inl f_this_s))] sz) := by
  refine Met.ofW (cc := cX3_wrongTry) (maxL := 2) (ret := (some .int)) (by decide) rfl ?_
  intro p e s m args below meth c s₁ B hml hv
  obtain ⟨rfl, hsz, hP, hK, hD0, hE⟩ := hv
  have hx := B.exec
  have hb := B.bytes
  have hr := B.returns
  have hts := atoms_spec (ws := wsX3_wrongTry) B.pre
  have hown : s.vm.findClass RX3 = some m.cls := findClass_of_methodNamed B.named
  have hlocks := B.notSynchronized
  subst hsz
  have hD := hD0.self (sz := s.heap.size)
  generalize hAe : va_A [(a_this, .inr (3, rf_o3 a_this_s a_this_image a_this_read a_this_mind a_this_letters a_this_row a_this_refused a_this_numbers a_this_cost g_this)), (a_this_s, .inl (cA, 22, .inl f_this_s))] s.heap.size = A at hD hE ⊢
  have hA : ∀ q : Nat, s.heap.size ≤ q → A q := fun q h => by rw [← hAe]; exact Or.inr h
  have hS : va_S A s.heap s.heap [] := va_S.rf
  have hP : va_P D vwCl [(a_this, .inr (3, rf_o3 a_this_s a_this_image a_this_read a_this_mind a_this_letters a_this_row a_this_refused a_this_numbers a_this_cost g_this)), (a_this_s, .inl (cA, 22, .inl f_this_s))] s.heap := hP
  have hl := lv_entry ([.ref a_this, .int p1]) (n := 2) (Nat.le_of_ble_eq_true rfl)
  rw [lg_entry_eq]
  generalize (lg_sl ([.ref a_this, .int p1]) ++ List.replicate (2 - (lg_sl ([.ref a_this, .int p1])).length) Slot.unset).toArray = ls at hl ⊢
  have hl : lv_has ls 2 [(0, .ref a_this), (1, .int p1)] := hl
  rw [f_X3_wrongTry] at hf
  refine lv_iload_n hx hb dX3_wrongTry_0 rfl (lv_at hl 1 rfl) ?_
  refine lv_iconst (v := 0) hx hb dX3_wrongTry_1 (by decide) ?_
  refine lv_bipush (v := 6) hx hb dX3_wrongTry_2 (by decide) ?_
  obtain ⟨q1, hq1, hf⟩ := rf_bindq hf
  refine rf_Si (As := [.int p1, .int 0, .int 6]) (rest := []) (wr := [(a_this, .inr (3, rf_o3 a_this_s a_this_image a_this_read a_this_mind a_this_letters a_this_row a_this_refused a_this_numbers a_this_cost g_this)), (a_this_s, .inl (cA, 22, .inl f_this_s))]) (wn := [(a_this, .inr (3, rf_o3 a_this_s a_this_image a_this_read a_this_mind a_this_letters a_this_row a_this_refused a_this_numbers a_this_cost g_this)), (a_this_s, .inl (cA, 22, .inl f_this_s))]) ⟨hx, hb, hml, hown, hts⟩ hK hP hD hS hA hE (c_X3_isIn l D cA ad s.heap.size p1 0 6 q1 hq1) (va_cwS 3 hts gX3_wrongTry_X3_isIn rfl rfl rfl hs_X3_isIn ⟨Nat.le_of_ble_eq_true rfl, Nat.le_of_ble_eq_true rfl⟩) [] [0, 1] [0, 1] rfl rfl rfl rfl (by decide) rfl rfl rfl rfl hl.1 (Nat.le_of_ble_eq_true rfl) dX3_wrongTry_4 ⟨Nat.zero_le _, Nat.zero_le _⟩ (fun H locs hP hD hS => ?_)
  refine lv_if_ne (tgt := 15) hx hb dX3_wrongTry_7 (by decide) (fun c2 => ?_) (fun c2 => ?_)
  · have hf := rf_ifn hf c2
    refine lv_aload_n hx hb dX3_wrongTry_15 rfl (lv_at hl 0 rfl) ?_
    obtain ⟨q3, hq3, hf⟩ := rf_bindq hf
    refine rf_Vi (As := []) (rest := []) (wr := []) (wn := [(a_this, .inr (3, rf_o3 a_this_s a_this_image a_this_read a_this_mind a_this_letters a_this_row a_this_refused a_this_numbers a_this_cost g_this)), (a_this_s, .inl (cA, 22, .inl f_this_s))]) ⟨hx, hb, hml, hown, hts⟩ hK hP hD hS hA hE (c_X3_isOff l D cA ad a_this a_this_s a_this_image a_this_read a_this_mind a_this_letters a_this_row a_this_refused a_this_numbers a_this_cost H.size g_this f_this_s q3 hq3) (cwV 0 hts gX3_wrongTry_X3_isOff rfl rfl rfl hv_X3_isOff ⟨Nat.le_of_ble_eq_true rfl, Nat.le_of_ble_eq_true rfl⟩) [0, 1] [] [0, 1] rfl rfl rfl rfl (by decide) rfl rfl 3 0 rfl rfl rfl rfl rfl hl.1 (Nat.le_of_ble_eq_true rfl) dX3_wrongTry_16 ⟨Nat.zero_le _, Nat.zero_le _⟩ (fun H locs hP hD hS => ?_)
    refine lv_if_eq (tgt := 27) hx hb dX3_wrongTry_19 (by decide) (fun c4 => ?_) (fun c4 => ?_)
    · have hf := rf_ifp hf c4
      refine lv_iconst (v := 0) hx hb dX3_wrongTry_27 (by decide) ?_
      obtain rfl := Option.some.inj hf
      exact W.iret (v := 0) hx hb hr (fun t ht hW => ⟨⟨0, (), rfl, rfl, rf_mk ht hP hD⟩, hS.F ht⟩) hS.2.2 dX3_wrongTry_28
    · have hf := rf_ifn hf c4
      refine lv_bipush (v := (-3)) hx hb dX3_wrongTry_22 (by decide) ?_
      refine lv_goto (tgt := 28) hx hb dX3_wrongTry_24 (by decide) ?_
      obtain rfl := Option.some.inj hf
      exact W.iret (v := (-3)) hx hb hr (fun t ht hW => ⟨⟨(-3), (), rfl, rfl, rf_mk ht hP hD⟩, hS.F ht⟩) hS.2.2 dX3_wrongTry_28
  · have hf := rf_ifp hf c2
    refine lv_bipush (v := (-2)) hx hb dX3_wrongTry_10 (by decide) ?_
    refine lv_goto (tgt := 28) hx hb dX3_wrongTry_12 (by decide) ?_
    obtain rfl := Option.some.inj hf
    exact W.iret (v := (-2)) hx hb hr (fun t ht hW => ⟨⟨(-2), (), rfl, rfl, rf_mk ht hP hD⟩, hS.F ht⟩) hS.2.2 dX3_wrongTry_28
