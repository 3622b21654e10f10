theorem hv_X3_comes : yX3_comes.cls = RX3 ∧ yX3_comes.cls ≠ "java/lang/invoke/MethodHandle" ∧ yX3_comes.cls ≠ "java/lang/invoke/VarHandle" ∧ (parseMethodDescriptor yX3_comes.desc).map (fun d => d.parameters.length) = some 1 := by decide +kernel
theorem hv_X3_isOff : yX3_isOff.cls = RX3 ∧ yX3_isOff.cls ≠ "java/lang/invoke/MethodHandle" ∧ yX3_isOff.cls ≠ "java/lang/invoke/VarHandle" ∧ (parseMethodDescriptor yX3_isOff.desc).map (fun d => d.parameters.length) = some 0 := by decide +kernel
theorem hv_X3_nowOf : yX3_nowOf.cls = RX3 ∧ yX3_nowOf.cls ≠ "java/lang/invoke/MethodHandle" ∧ yX3_nowOf.cls ≠ "java/lang/invoke/VarHandle" ∧ (parseMethodDescriptor yX3_nowOf.desc).map (fun d => d.parameters.length) = some 1 := by decide +kernel
theorem hv_X3_readsStatement : yX3_readsStatement.cls = RX3 ∧ yX3_readsStatement.cls ≠ "java/lang/invoke/MethodHandle" ∧ yX3_readsStatement.cls ≠ "java/lang/invoke/VarHandle" ∧ (parseMethodDescriptor yX3_readsStatement.desc).map (fun d => d.parameters.length) = some 0 := by decide +kernel
theorem hv_X3_tried : yX3_tried.cls = RX3 ∧ yX3_tried.cls ≠ "java/lang/invoke/MethodHandle" ∧ yX3_tried.cls ≠ "java/lang/invoke/VarHandle" ∧ (parseMethodDescriptor yX3_tried.desc).map (fun d => d.parameters.length) = some 1 := by decide +kernel
theorem hv_X3_waits : yX3_waits.cls = RX3 ∧ yX3_waits.cls ≠ "java/lang/invoke/MethodHandle" ∧ yX3_waits.cls ≠ "java/lang/invoke/VarHandle" ∧ (parseMethodDescriptor yX3_waits.desc).map (fun d => d.parameters.length) = some 1 := by decide +kernel
theorem kX3_comes_0 : (.fieldLink RX3 31 "RingAndFingerModel" "numbers" "[I" : Cond) ∈ wsX3_comes := by decide +kernel
theorem kX3_comes_1 : (.fieldLink RX3 9 "RingAndFingerModel" "s" "[I" : Cond) ∈ wsX3_comes := by decide +kernel
theorem jX3_comes_X3 : ∀ w ∈ u_ws RX3 TX3 16, w ∈ wsX3_comes := by decide +kernel
set_option maxHeartbeats 8000000 in
set_option maxRecDepth 100000 in
theorem c_X3_comes (l : Launch) (D : va_G) (cA : ClassId) (ad : Nat → Nat) (a_this a_this_s a_this_image a_this_read a_this_mind a_this_letters a_this_row a_this_refused a_this_numbers a_this_cost : Nat) (sz : Nat) (g_this f_this_s f_this_numbers : Nat → Int32) (p1 : Int32) (q : Int32 × (Nat → Int32)) (hf : f_X3_comes g_this f_this_s f_this_numbers p1 = some q) : Met l yX3_comes wsX3_comes ({ frames := 6, cells := 0, slots := 0, locals := 138 } : Room) (va_Pc [.ref a_this, .int p1] (rf_Pre D cA ad [(a_this, .inr (3, rf_o3 a_this_s a_this_image a_this_read a_this_mind a_this_letters a_this_row a_this_refused a_this_numbers a_this_cost g_this)), (a_this_s, .inl (cA, 22, .inl f_this_s)), (a_this_numbers, .inl (cA, 2, .inl f_this_numbers))] sz)) (va_Qi (fun (r : Int32) (_ : Unit) => r = q.1) (fun _ t => rf_Post D (va_A [(a_this, .inr (3, rf_o3 a_this_s a_this_image a_this_read a_this_mind a_this_letters a_this_row a_this_refused a_this_numbers a_this_cost g_this)), (a_this_s, .inl (cA, 22, .inl f_this_s)), (a_this_numbers, .inl (cA, 2, .inl f_this_numbers))] sz) [(a_this, .inr (3, rf_o3 a_this_s a_this_image a_this_read a_this_mind a_this_letters a_this_row a_this_refused a_this_numbers a_this_cost g_this)), (a_this_s, .inl (cA, 22, .inl q.2)), (a_this_numbers, .inl (cA, 2, .inl f_this_numbers))] t) (va_A [(a_this, .inr (3, rf_o3 a_this_s a_this_image a_this_read a_this_mind a_this_letters a_this_row a_this_refused a_this_numbers a_this_cost g_this)), (a_this_s, .inl (cA, 22, .inl f_this_s)), (a_this_numbers, .inl (cA, 2, .inl f_this_numbers))] sz)) 0 0 (va_A [(a_this, .inr (3, rf_o3 a_this_s a_this_image a_this_read a_this_mind a_this_letters a_this_row a_this_refused a_this_numbers a_this_cost g_this)), (a_this_s, .inl (cA, 22, .inl f_this_s)), (a_this_numbers, .inl (cA, 2, .inl f_this_numbers))] sz) := by
  refine Met.ofW (cc := cX3_comes) (maxL := 5) (ret := (some .boolean)) (by decide) rfl ?_
  intro p e s m args below meth c s₁ B hml hv
  obtain ⟨rfl, hsz, hP, hK, hD0, hE⟩ := hv
  have hx := B.exec
  have hb := B.bytes
  have hr := B.returns
  have hts := atoms_spec (ws := wsX3_comes) B.pre
  have hown : s.vm.findClass RX3 = some m.cls := findClass_of_methodNamed B.named
  have hlocks := B.notSynchronized
  subst hsz
  have hD := hD0.self (sz := s.heap.size)
  generalize hAe : va_A [(a_this, .inr (3, rf_o3 a_this_s a_this_image a_this_read a_this_mind a_this_letters a_this_row a_this_refused a_this_numbers a_this_cost g_this)), (a_this_s, .inl (cA, 22, .inl f_this_s)), (a_this_numbers, .inl (cA, 2, .inl f_this_numbers))] s.heap.size = A at hD hE ⊢
  have hA : ∀ q : Nat, s.heap.size ≤ q → A q := fun q h => by rw [← hAe]; exact Or.inr h
  have hS : va_S A s.heap s.heap [] := va_S.rf
  have hP : va_P D vwCl [(a_this, .inr (3, rf_o3 a_this_s a_this_image a_this_read a_this_mind a_this_letters a_this_row a_this_refused a_this_numbers a_this_cost g_this)), (a_this_s, .inl (cA, 22, .inl f_this_s)), (a_this_numbers, .inl (cA, 2, .inl f_this_numbers))] s.heap := hP
  have hl := lv_entry ([.ref a_this, .int p1]) (n := 5) (Nat.le_of_ble_eq_true rfl)
  rw [lg_entry_eq]
  generalize (lg_sl ([.ref a_this, .int p1]) ++ List.replicate (5 - (lg_sl ([.ref a_this, .int p1])).length) Slot.unset).toArray = ls at hl ⊢
  have hl : lv_has ls 5 [(0, .ref a_this), (1, .int p1)] := hl
  rw [f_X3_comes] at hf
  refine lv_aload_n hx hb dX3_comes_0 rfl (lv_at hl 0 rfl) ?_
  refine va_get (D := D) (ci := 3) (v := .ref a_this_numbers) (C := RX3) (T := TX3) (N := 16) hx hb hts jX3_comes_X3 hown hK hP 0 rfl rfl 11 (by decide) (hts _ kX3_comes_0) (fun _ h9 => h9) rfl dX3_comes_1 ?_
  refine lv_iconst (v := 0) hx hb dX3_comes_4 (by decide) ?_
  refine rf_ialoadk hx hb hK hP 2 0 rfl rfl (k := 0) (by decide) (by decide) (by decide) dX3_comes_5 ?_
  refine lv_topi (fun v1 ev1 => ?_)
  have hf := rf_bindv hf ev1
  clear ev1
  refine lv_istore_n (lv' := [(2, .int v1), (0, .ref a_this), (1, .int p1)]) hx hb dX3_comes_6 rfl hl (by decide) rfl (fun ls hl => ?_)
  refine lv_aload_n hx hb dX3_comes_7 rfl (lv_at hl 1 rfl) ?_
  refine va_get (D := D) (ci := 3) (v := .ref a_this_numbers) (C := RX3) (T := TX3) (N := 16) hx hb hts jX3_comes_X3 hown hK hP 0 rfl rfl 11 (by decide) (hts _ kX3_comes_0) (fun _ h9 => h9) rfl dX3_comes_8 ?_
  refine lv_iconst (v := 1) hx hb dX3_comes_11 (by decide) ?_
  refine rf_ialoadk hx hb hK hP 2 0 rfl rfl (k := 1) (by decide) (by decide) (by decide) dX3_comes_12 ?_
  refine lv_topi (fun v2 ev2 => ?_)
  have hf := rf_bindv hf ev2
  clear ev2
  refine lv_istore_n (lv' := [(3, .int v2), (2, .int v1), (0, .ref a_this), (1, .int p1)]) hx hb dX3_comes_13 rfl hl (by decide) rfl (fun ls hl => ?_)
  refine lv_iload_n hx hb dX3_comes_14 rfl (lv_at hl 3 rfl) ?_
  by_cases c3 : p1 = 99
  · have hf := rf_ifp hf c3
    refine rf_tabC (off := 218) (tgt := 233) hx hb dX3_comes_15 c3 (by decide) (by decide) (by decide) (by decide) ?_
    refine lv_aload_n hx hb dX3_comes_233 rfl (lv_at hl 2 rfl) ?_
    refine va_get (D := D) (ci := 3) (v := .ref a_this_s) (C := RX3) (T := TX3) (N := 16) hx hb hts jX3_comes_X3 hown hK hP 0 rfl rfl 0 (by decide) (hts _ kX3_comes_1) (fun _ h9 => h9) rfl dX3_comes_234 ?_
    refine lv_iconst (v := 5) hx hb dX3_comes_237 (by decide) ?_
    refine lv_iload_n hx hb dX3_comes_238 rfl (lv_at hl 1 rfl) ?_
    refine rf_iastorek hx hb hK hP hD hS 1 0 rfl rfl (k := 5) (by decide) (by decide) (by decide) dX3_comes_239 (fun H locs hP hD hS => ?_)
    have hP : va_P D vwCl [(a_this, .inr (3, rf_o3 a_this_s a_this_image a_this_read a_this_mind a_this_letters a_this_row a_this_refused a_this_numbers a_this_cost g_this)), (a_this_s, .inl (cA, 22, .inl (upd f_this_s 5 v1))), (a_this_numbers, .inl (cA, 2, .inl f_this_numbers))] H := hP
    have hD : va_D A [(a_this, .inr (3, rf_o3 a_this_s a_this_image a_this_read a_this_mind a_this_letters a_this_row a_this_refused a_this_numbers a_this_cost g_this)), (a_this_s, .inl (cA, 22, .inl (upd f_this_s 5 v1))), (a_this_numbers, .inl (cA, 2, .inl f_this_numbers))] := hD
    refine lv_iload_n hx hb dX3_comes_240 rfl (lv_at hl 1 rfl) ?_
    refine lv_bipush (v := 20) hx hb dX3_comes_241 (by decide) ?_
    refine lv_icmp_gt (tgt := 250) hx hb dX3_comes_243 (by decide) (fun c4 => ?_) (fun c4 => ?_)
    · have hf := rf_ifp hf c4
      refine lv_iconst (v := 0) hx hb dX3_comes_250 (by decide) ?_
      obtain rfl := Option.some.inj hf
      exact W.zret (v := 0) hx hb hr rfl (fun t ht hW => ⟨⟨0, (), rfl, rfl, rf_mk ht hP hD⟩, hS.F ht⟩) hS.2.2 dX3_comes_251
    · have hf := rf_ifn hf c4
      refine lv_iconst (v := 1) hx hb dX3_comes_246 (by decide) ?_
      refine lv_goto (tgt := 251) hx hb dX3_comes_247 (by decide) ?_
      obtain rfl := Option.some.inj hf
      exact W.zret (v := 1) hx hb hr rfl (fun t ht hW => ⟨⟨1, (), rfl, rfl, rf_mk ht hP hD⟩, hS.F ht⟩) hS.2.2 dX3_comes_251
  · have hf := rf_ifn hf c3
    by_cases c5 : p1 = 104
    · have hf := rf_ifp hf c5
      refine rf_tabC (off := 237) (tgt := 252) hx hb dX3_comes_15 c5 (by decide) (by decide) (by decide) (by decide) ?_
      refine lv_aload_n hx hb dX3_comes_252 rfl (lv_at hl 2 rfl) ?_
      refine va_get (D := D) (ci := 3) (v := .ref a_this_s) (C := RX3) (T := TX3) (N := 16) hx hb hts jX3_comes_X3 hown hK hP 0 rfl rfl 0 (by decide) (hts _ kX3_comes_1) (fun _ h9 => h9) rfl dX3_comes_253 ?_
      refine lv_bipush (v := 7) hx hb dX3_comes_256 (by decide) ?_
      refine lv_iload_n hx hb dX3_comes_258 rfl (lv_at hl 1 rfl) ?_
      refine rf_iastorek hx hb hK hP hD hS 1 0 rfl rfl (k := 7) (by decide) (by decide) (by decide) dX3_comes_259 (fun H locs hP hD hS => ?_)
      have hP : va_P D vwCl [(a_this, .inr (3, rf_o3 a_this_s a_this_image a_this_read a_this_mind a_this_letters a_this_row a_this_refused a_this_numbers a_this_cost g_this)), (a_this_s, .inl (cA, 22, .inl (upd f_this_s 7 v1))), (a_this_numbers, .inl (cA, 2, .inl f_this_numbers))] H := hP
      have hD : va_D A [(a_this, .inr (3, rf_o3 a_this_s a_this_image a_this_read a_this_mind a_this_letters a_this_row a_this_refused a_this_numbers a_this_cost g_this)), (a_this_s, .inl (cA, 22, .inl (upd f_this_s 7 v1))), (a_this_numbers, .inl (cA, 2, .inl f_this_numbers))] := hD
      refine lv_iconst (v := 1) hx hb dX3_comes_260 (by decide) ?_
      obtain rfl := Option.some.inj hf
      exact W.zret (v := 1) hx hb hr rfl (fun t ht hW => ⟨⟨1, (), rfl, rfl, rf_mk ht hP hD⟩, hS.F ht⟩) hS.2.2 dX3_comes_261
    · have hf := rf_ifn hf c5
      by_cases c6 : p1 = 112
      · have hf := rf_ifp hf c6
        refine rf_tabC (off := 85) (tgt := 100) hx hb dX3_comes_15 c6 (by decide) (by decide) (by decide) (by decide) ?_
        refine lv_iload_n hx hb dX3_comes_100 rfl (lv_at hl 1 rfl) ?_
        refine lv_sipush (v := 240) hx hb dX3_comes_101 (by decide) ?_
        refine lv_icmp_gt (tgt := 134) hx hb dX3_comes_104 (by decide) (fun c7 => ?_) (fun c7 => ?_)
        · have hf := rf_ifp hf c7
          refine lv_iconst (v := 0) hx hb dX3_comes_134 (by decide) ?_
          obtain rfl := Option.some.inj hf
          exact W.zret (v := 0) hx hb hr rfl (fun t ht hW => ⟨⟨0, (), rfl, rfl, rf_mk ht hP hD⟩, hS.F ht⟩) hS.2.2 dX3_comes_135
        · have hf := rf_ifn hf c7
          refine lv_aload_n hx hb dX3_comes_107 rfl (lv_at hl 2 rfl) ?_
          refine va_get (D := D) (ci := 3) (v := .ref a_this_s) (C := RX3) (T := TX3) (N := 16) hx hb hts jX3_comes_X3 hown hK hP 0 rfl rfl 0 (by decide) (hts _ kX3_comes_1) (fun _ h9 => h9) rfl dX3_comes_108 ?_
          refine lv_iconst (v := 0) hx hb dX3_comes_111 (by decide) ?_
          refine rf_ialoadk hx hb hK hP 1 0 rfl rfl (k := 0) (by decide) (by decide) (by decide) dX3_comes_112 ?_
          refine lv_bipush (v := 6) hx hb dX3_comes_113 (by decide) ?_
          refine lv_icmp_eq (tgt := 134) hx hb dX3_comes_115 (by decide) (fun c8 => ?_) (fun c8 => ?_)
          · have hf := rf_ifp hf c8
            refine lv_iconst (v := 0) hx hb dX3_comes_134 (by decide) ?_
            obtain rfl := Option.some.inj hf
            exact W.zret (v := 0) hx hb hr rfl (fun t ht hW => ⟨⟨0, (), rfl, rfl, rf_mk ht hP hD⟩, hS.F ht⟩) hS.2.2 dX3_comes_135
          · have hf := rf_ifn hf c8
            refine lv_aload_n hx hb dX3_comes_118 rfl (lv_at hl 2 rfl) ?_
            refine va_get (D := D) (ci := 3) (v := .ref a_this_s) (C := RX3) (T := TX3) (N := 16) hx hb hts jX3_comes_X3 hown hK hP 0 rfl rfl 0 (by decide) (hts _ kX3_comes_1) (fun _ h9 => h9) rfl dX3_comes_119 ?_
            refine lv_iconst (v := 0) hx hb dX3_comes_122 (by decide) ?_
            refine rf_ialoadk hx hb hK hP 1 0 rfl rfl (k := 0) (by decide) (by decide) (by decide) dX3_comes_123 ?_
            refine lv_if_le (tgt := 136) hx hb dX3_comes_124 (by decide) (fun c9 => ?_) (fun c9 => ?_)
            · have hf := rf_ifp hf c9
              refine lv_aload_n hx hb dX3_comes_136 rfl (lv_at hl 2 rfl) ?_
              refine va_get (D := D) (ci := 3) (v := .ref a_this_s) (C := RX3) (T := TX3) (N := 16) hx hb hts jX3_comes_X3 hown hK hP 0 rfl rfl 0 (by decide) (hts _ kX3_comes_1) (fun _ h9 => h9) rfl dX3_comes_137 ?_
              refine lv_bipush (v := 10) hx hb dX3_comes_140 (by decide) ?_
              refine lv_aload_n hx hb dX3_comes_142 rfl (lv_at hl 2 rfl) ?_
              refine va_get (D := D) (ci := 3) (v := .ref a_this_s) (C := RX3) (T := TX3) (N := 16) hx hb hts jX3_comes_X3 hown hK hP 0 rfl rfl 0 (by decide) (hts _ kX3_comes_1) (fun _ h9 => h9) rfl dX3_comes_143 ?_
              refine lv_iconst (v := 0) hx hb dX3_comes_146 (by decide) ?_
              refine rf_ialoadk hx hb hK hP 1 0 rfl rfl (k := 0) (by decide) (by decide) (by decide) dX3_comes_147 ?_
              refine lv_iadd hx hb dX3_comes_148 ?_
              refine lv_iload_n hx hb dX3_comes_149 rfl (lv_at hl 0 rfl) ?_
              obtain ⟨c10, hf⟩ := rf_chk hf
              refine va_iast hx hb hK hP hD hS 1 0 rfl rfl c10 dX3_comes_150 (fun H locs hP hD hS => ?_)
              have hP : va_P D vwCl [(a_this, .inr (3, rf_o3 a_this_s a_this_image a_this_read a_this_mind a_this_letters a_this_row a_this_refused a_this_numbers a_this_cost g_this)), (a_this_s, .inl (cA, 22, .inl (upd f_this_s ((10 + (f_this_s 0)).toNatClampNeg) v2))), (a_this_numbers, .inl (cA, 2, .inl f_this_numbers))] H := hP
              have hD : va_D A [(a_this, .inr (3, rf_o3 a_this_s a_this_image a_this_read a_this_mind a_this_letters a_this_row a_this_refused a_this_numbers a_this_cost g_this)), (a_this_s, .inl (cA, 22, .inl (upd f_this_s ((10 + (f_this_s 0)).toNatClampNeg) v2))), (a_this_numbers, .inl (cA, 2, .inl f_this_numbers))] := hD
              refine lv_aload_n hx hb dX3_comes_151 rfl (lv_at hl 2 rfl) ?_
              refine va_get (D := D) (ci := 3) (v := .ref a_this_s) (C := RX3) (T := TX3) (N := 16) hx hb hts jX3_comes_X3 hown hK hP 0 rfl rfl 0 (by decide) (hts _ kX3_comes_1) (fun _ h9 => h9) rfl dX3_comes_152 ?_
              refine lv_bipush (v := 16) hx hb dX3_comes_155 (by decide) ?_
              refine lv_aload_n hx hb dX3_comes_157 rfl (lv_at hl 2 rfl) ?_
              refine va_get (D := D) (ci := 3) (v := .ref a_this_s) (C := RX3) (T := TX3) (N := 16) hx hb hts jX3_comes_X3 hown hK hP 0 rfl rfl 0 (by decide) (hts _ kX3_comes_1) (fun _ h9 => h9) rfl dX3_comes_158 ?_
              refine lv_iconst (v := 0) hx hb dX3_comes_161 (by decide) ?_
              refine rf_ialoadk hx hb hK hP 1 0 rfl rfl (k := 0) (by decide) (by decide) (by decide) dX3_comes_162 ?_
              refine lv_iadd hx hb dX3_comes_163 ?_
              refine lv_iload_n hx hb dX3_comes_164 rfl (lv_at hl 1 rfl) ?_
              obtain ⟨c11, hf⟩ := rf_chk hf
              refine va_iast hx hb hK hP hD hS 1 0 rfl rfl c11 dX3_comes_165 (fun H locs hP hD hS => ?_)
              have hP : va_P D vwCl [(a_this, .inr (3, rf_o3 a_this_s a_this_image a_this_read a_this_mind a_this_letters a_this_row a_this_refused a_this_numbers a_this_cost g_this)), (a_this_s, .inl (cA, 22, .inl (upd (upd f_this_s ((10 + (f_this_s 0)).toNatClampNeg) v2) ((16 + ((upd f_this_s ((10 + (f_this_s 0)).toNatClampNeg) v2) 0)).toNatClampNeg) v1))), (a_this_numbers, .inl (cA, 2, .inl f_this_numbers))] H := hP
              have hD : va_D A [(a_this, .inr (3, rf_o3 a_this_s a_this_image a_this_read a_this_mind a_this_letters a_this_row a_this_refused a_this_numbers a_this_cost g_this)), (a_this_s, .inl (cA, 22, .inl (upd (upd f_this_s ((10 + (f_this_s 0)).toNatClampNeg) v2) ((16 + ((upd f_this_s ((10 + (f_this_s 0)).toNatClampNeg) v2) 0)).toNatClampNeg) v1))), (a_this_numbers, .inl (cA, 2, .inl f_this_numbers))] := hD
              refine lv_aload_n hx hb dX3_comes_166 rfl (lv_at hl 2 rfl) ?_
              refine va_get (D := D) (ci := 3) (v := .ref a_this_s) (C := RX3) (T := TX3) (N := 16) hx hb hts jX3_comes_X3 hown hK hP 0 rfl rfl 0 (by decide) (hts _ kX3_comes_1) (fun _ h9 => h9) rfl dX3_comes_167 ?_
              refine lv_iconst (v := 0) hx hb dX3_comes_170 (by decide) ?_
              refine lv_dup2_11 hx hb dX3_comes_171 rfl rfl ?_
              refine rf_ialoadk hx hb hK hP 1 0 rfl rfl (k := 0) (by decide) (by decide) (by decide) dX3_comes_172 ?_
              refine lv_iconst (v := 1) hx hb dX3_comes_173 (by decide) ?_
              refine lv_iadd hx hb dX3_comes_174 ?_
              refine lv_topi (fun v12 ev12 => ?_)
              have hf := rf_bindv hf ev12
              clear ev12
              refine rf_iastorek hx hb hK hP hD hS 1 0 rfl rfl (k := 0) (by decide) (by decide) (by decide) dX3_comes_175 (fun H locs hP hD hS => ?_)
              have hP : va_P D vwCl [(a_this, .inr (3, rf_o3 a_this_s a_this_image a_this_read a_this_mind a_this_letters a_this_row a_this_refused a_this_numbers a_this_cost g_this)), (a_this_s, .inl (cA, 22, .inl (upd (upd (upd f_this_s ((10 + (f_this_s 0)).toNatClampNeg) v2) ((16 + ((upd f_this_s ((10 + (f_this_s 0)).toNatClampNeg) v2) 0)).toNatClampNeg) v1) 0 v12))), (a_this_numbers, .inl (cA, 2, .inl f_this_numbers))] H := hP
              have hD : va_D A [(a_this, .inr (3, rf_o3 a_this_s a_this_image a_this_read a_this_mind a_this_letters a_this_row a_this_refused a_this_numbers a_this_cost g_this)), (a_this_s, .inl (cA, 22, .inl (upd (upd (upd f_this_s ((10 + (f_this_s 0)).toNatClampNeg) v2) ((16 + ((upd f_this_s ((10 + (f_this_s 0)).toNatClampNeg) v2) 0)).toNatClampNeg) v1) 0 v12))), (a_this_numbers, .inl (cA, 2, .inl f_this_numbers))] := hD
              refine lv_iconst (v := 1) hx hb dX3_comes_176 (by decide) ?_
              obtain rfl := Option.some.inj hf
              exact W.zret (v := 1) hx hb hr rfl (fun t ht hW => ⟨⟨1, (), rfl, rfl, rf_mk ht hP hD⟩, hS.F ht⟩) hS.2.2 dX3_comes_177
            · have hf := rf_ifn hf c9
              refine lv_aload_n hx hb dX3_comes_127 rfl (lv_at hl 2 rfl) ?_
              obtain ⟨q13, hq13, hf⟩ := rf_bindq hf
              refine rf_Vi (As := []) (rest := []) (wr := [(a_this_numbers, .inl (cA, 2, .inl f_this_numbers))]) (wn := [(a_this, .inr (3, rf_o3 a_this_s a_this_image a_this_read a_this_mind a_this_letters a_this_row a_this_refused a_this_numbers a_this_cost g_this)), (a_this_s, .inl (cA, 22, .inl f_this_s)), (a_this_numbers, .inl (cA, 2, .inl f_this_numbers))]) ⟨hx, hb, hml, hown, hts⟩ hK hP hD hS hA hE (c_X3_isOff l D cA ad a_this a_this_s a_this_image a_this_read a_this_mind a_this_letters a_this_row a_this_refused a_this_numbers a_this_cost s.heap.size g_this f_this_s q13 hq13) (cwV 0 hts gX3_comes_X3_isOff rfl rfl rfl hv_X3_isOff ⟨Nat.le_of_ble_eq_true rfl, Nat.le_of_ble_eq_true rfl⟩) [0, 1] [2] [1, 2, 0] rfl rfl rfl rfl (by decide) rfl rfl 3 0 rfl rfl rfl rfl rfl hl.1 (Nat.le_of_ble_eq_true rfl) dX3_comes_128 ⟨Nat.zero_le _, Nat.zero_le _⟩ (fun H locs hP hD hS => ?_)
              refine lv_if_eq (tgt := 136) hx hb dX3_comes_131 (by decide) (fun c14 => ?_) (fun c14 => ?_)
              · have hf := rf_ifp hf c14
                refine lv_aload_n hx hb dX3_comes_136 rfl (lv_at hl 2 rfl) ?_
                refine va_get (D := D) (ci := 3) (v := .ref a_this_s) (C := RX3) (T := TX3) (N := 16) hx hb hts jX3_comes_X3 hown hK hP 0 rfl rfl 0 (by decide) (hts _ kX3_comes_1) (fun _ h9 => h9) rfl dX3_comes_137 ?_
                refine lv_bipush (v := 10) hx hb dX3_comes_140 (by decide) ?_
                refine lv_aload_n hx hb dX3_comes_142 rfl (lv_at hl 2 rfl) ?_
                refine va_get (D := D) (ci := 3) (v := .ref a_this_s) (C := RX3) (T := TX3) (N := 16) hx hb hts jX3_comes_X3 hown hK hP 0 rfl rfl 0 (by decide) (hts _ kX3_comes_1) (fun _ h9 => h9) rfl dX3_comes_143 ?_
                refine lv_iconst (v := 0) hx hb dX3_comes_146 (by decide) ?_
                refine rf_ialoadk hx hb hK hP 1 0 rfl rfl (k := 0) (by decide) (by decide) (by decide) dX3_comes_147 ?_
                refine lv_iadd hx hb dX3_comes_148 ?_
                refine lv_iload_n hx hb dX3_comes_149 rfl (lv_at hl 0 rfl) ?_
                obtain ⟨c15, hf⟩ := rf_chk hf
                refine va_iast hx hb hK hP hD hS 1 0 rfl rfl c15 dX3_comes_150 (fun H locs hP hD hS => ?_)
                have hP : va_P D vwCl [(a_this, .inr (3, rf_o3 a_this_s a_this_image a_this_read a_this_mind a_this_letters a_this_row a_this_refused a_this_numbers a_this_cost g_this)), (a_this_s, .inl (cA, 22, .inl (upd f_this_s ((10 + (f_this_s 0)).toNatClampNeg) v2))), (a_this_numbers, .inl (cA, 2, .inl f_this_numbers))] H := hP
                have hD : va_D A [(a_this, .inr (3, rf_o3 a_this_s a_this_image a_this_read a_this_mind a_this_letters a_this_row a_this_refused a_this_numbers a_this_cost g_this)), (a_this_s, .inl (cA, 22, .inl (upd f_this_s ((10 + (f_this_s 0)).toNatClampNeg) v2))), (a_this_numbers, .inl (cA, 2, .inl f_this_numbers))] := hD
                refine lv_aload_n hx hb dX3_comes_151 rfl (lv_at hl 2 rfl) ?_
                refine va_get (D := D) (ci := 3) (v := .ref a_this_s) (C := RX3) (T := TX3) (N := 16) hx hb hts jX3_comes_X3 hown hK hP 0 rfl rfl 0 (by decide) (hts _ kX3_comes_1) (fun _ h9 => h9) rfl dX3_comes_152 ?_
                refine lv_bipush (v := 16) hx hb dX3_comes_155 (by decide) ?_
                refine lv_aload_n hx hb dX3_comes_157 rfl (lv_at hl 2 rfl) ?_
                refine va_get (D := D) (ci := 3) (v := .ref a_this_s) (C := RX3) (T := TX3) (N := 16) hx hb hts jX3_comes_X3 hown hK hP 0 rfl rfl 0 (by decide) (hts _ kX3_comes_1) (fun _ h9 => h9) rfl dX3_comes_158 ?_
                refine lv_iconst (v := 0) hx hb dX3_comes_161 (by decide) ?_
                refine rf_ialoadk hx hb hK hP 1 0 rfl rfl (k := 0) (by decide) (by decide) (by decide) dX3_comes_162 ?_
                refine lv_iadd hx hb dX3_comes_163 ?_
                refine lv_iload_n hx hb dX3_comes_164 rfl (lv_at hl 1 rfl) ?_
                obtain ⟨c16, hf⟩ := rf_chk hf
                refine va_iast hx hb hK hP hD hS 1 0 rfl rfl c16 dX3_comes_165 (fun H locs hP hD hS => ?_)
                have hP : va_P D vwCl [(a_this, .inr (3, rf_o3 a_this_s a_this_image a_this_read a_this_mind a_this_letters a_this_row a_this_refused a_this_numbers a_this_cost g_this)), (a_this_s, .inl (cA, 22, .inl (upd (upd f_this_s ((10 + (f_this_s 0)).toNatClampNeg) v2) ((16 + ((upd f_this_s ((10 + (f_this_s 0)).toNatClampNeg) v2) 0)).toNatClampNeg) v1))), (a_this_numbers, .inl (cA, 2, .inl f_this_numbers))] H := hP
                have hD : va_D A [(a_this, .inr (3, rf_o3 a_this_s a_this_image a_this_read a_this_mind a_this_letters a_this_row a_this_refused a_this_numbers a_this_cost g_this)), (a_this_s, .inl (cA, 22, .inl (upd (upd f_this_s ((10 + (f_this_s 0)).toNatClampNeg) v2) ((16 + ((upd f_this_s ((10 + (f_this_s 0)).toNatClampNeg) v2) 0)).toNatClampNeg) v1))), (a_this_numbers, .inl (cA, 2, .inl f_this_numbers))] := hD
                refine lv_aload_n hx hb dX3_comes_166 rfl (lv_at hl 2 rfl) ?_
                refine va_get (D := D) (ci := 3) (v := .ref a_this_s) (C := RX3) (T := TX3) (N := 16) hx hb hts jX3_comes_X3 hown hK hP 0 rfl rfl 0 (by decide) (hts _ kX3_comes_1) (fun _ h9 => h9) rfl dX3_comes_167 ?_
                refine lv_iconst (v := 0) hx hb dX3_comes_170 (by decide) ?_
                refine lv_dup2_11 hx hb dX3_comes_171 rfl rfl ?_
                refine rf_ialoadk hx hb hK hP 1 0 rfl rfl (k := 0) (by decide) (by decide) (by decide) dX3_comes_172 ?_
                refine lv_iconst (v := 1) hx hb dX3_comes_173 (by decide) ?_
                refine lv_iadd hx hb dX3_comes_174 ?_
                refine lv_topi (fun v17 ev17 => ?_)
                have hf := rf_bindv hf ev17
                clear ev17
                refine rf_iastorek hx hb hK hP hD hS 1 0 rfl rfl (k := 0) (by decide) (by decide) (by decide) dX3_comes_175 (fun H locs hP hD hS => ?_)
                have hP : va_P D vwCl [(a_this, .inr (3, rf_o3 a_this_s a_this_image a_this_read a_this_mind a_this_letters a_this_row a_this_refused a_this_numbers a_this_cost g_this)), (a_this_s, .inl (cA, 22, .inl (upd (upd (upd f_this_s ((10 + (f_this_s 0)).toNatClampNeg) v2) ((16 + ((upd f_this_s ((10 + (f_this_s 0)).toNatClampNeg) v2) 0)).toNatClampNeg) v1) 0 v17))), (a_this_numbers, .inl (cA, 2, .inl f_this_numbers))] H := hP
                have hD : va_D A [(a_this, .inr (3, rf_o3 a_this_s a_this_image a_this_read a_this_mind a_this_letters a_this_row a_this_refused a_this_numbers a_this_cost g_this)), (a_this_s, .inl (cA, 22, .inl (upd (upd (upd f_this_s ((10 + (f_this_s 0)).toNatClampNeg) v2) ((16 + ((upd f_this_s ((10 + (f_this_s 0)).toNatClampNeg) v2) 0)).toNatClampNeg) v1) 0 v17))), (a_this_numbers, .inl (cA, 2, .inl f_this_numbers))] := hD
                refine lv_iconst (v := 1) hx hb dX3_comes_176 (by decide) ?_
                obtain rfl := Option.some.inj hf
                exact W.zret (v := 1) hx hb hr rfl (fun t ht hW => ⟨⟨1, (), rfl, rfl, rf_mk ht hP hD⟩, hS.F ht⟩) hS.2.2 dX3_comes_177
              · have hf := rf_ifn hf c14
                refine lv_iconst (v := 0) hx hb dX3_comes_134 (by decide) ?_
                obtain rfl := Option.some.inj hf
                exact W.zret (v := 0) hx hb hr rfl (fun t ht hW => ⟨⟨0, (), rfl, rfl, rf_mk ht hP hD⟩, hS.F ht⟩) hS.2.2 dX3_comes_135
      · have hf := rf_ifn hf c6
        by_cases c18 : p1 = 114
        · have hf := rf_ifp hf c18
          refine rf_tabC (off := 163) (tgt := 178) hx hb dX3_comes_15 c18 (by decide) (by decide) (by decide) (by decide) ?_
          refine lv_aload_n hx hb dX3_comes_178 rfl (lv_at hl 2 rfl) ?_
          refine va_get (D := D) (ci := 3) (v := .ref a_this_s) (C := RX3) (T := TX3) (N := 16) hx hb hts jX3_comes_X3 hown hK hP 0 rfl rfl 0 (by decide) (hts _ kX3_comes_1) (fun _ h9 => h9) rfl dX3_comes_179 ?_
          refine lv_iconst (v := 1) hx hb dX3_comes_182 (by decide) ?_
          refine lv_iload_n hx hb dX3_comes_183 rfl (lv_at hl 1 rfl) ?_
          refine rf_iastorek hx hb hK hP hD hS 1 0 rfl rfl (k := 1) (by decide) (by decide) (by decide) dX3_comes_184 (fun H locs hP hD hS => ?_)
          have hP : va_P D vwCl [(a_this, .inr (3, rf_o3 a_this_s a_this_image a_this_read a_this_mind a_this_letters a_this_row a_this_refused a_this_numbers a_this_cost g_this)), (a_this_s, .inl (cA, 22, .inl (upd f_this_s 1 v1))), (a_this_numbers, .inl (cA, 2, .inl f_this_numbers))] H := hP
          have hD : va_D A [(a_this, .inr (3, rf_o3 a_this_s a_this_image a_this_read a_this_mind a_this_letters a_this_row a_this_refused a_this_numbers a_this_cost g_this)), (a_this_s, .inl (cA, 22, .inl (upd f_this_s 1 v1))), (a_this_numbers, .inl (cA, 2, .inl f_this_numbers))] := hD
          refine lv_aload_n hx hb dX3_comes_185 rfl (lv_at hl 2 rfl) ?_
          refine va_get (D := D) (ci := 3) (v := .ref a_this_s) (C := RX3) (T := TX3) (N := 16) hx hb hts jX3_comes_X3 hown hK hP 0 rfl rfl 0 (by decide) (hts _ kX3_comes_1) (fun _ h9 => h9) rfl dX3_comes_186 ?_
          refine lv_iconst (v := 2) hx hb dX3_comes_189 (by decide) ?_
          refine lv_iload_n hx hb dX3_comes_190 rfl (lv_at hl 0 rfl) ?_
          refine rf_iastorek hx hb hK hP hD hS 1 0 rfl rfl (k := 2) (by decide) (by decide) (by decide) dX3_comes_191 (fun H locs hP hD hS => ?_)
          have hP : va_P D vwCl [(a_this, .inr (3, rf_o3 a_this_s a_this_image a_this_read a_this_mind a_this_letters a_this_row a_this_refused a_this_numbers a_this_cost g_this)), (a_this_s, .inl (cA, 22, .inl (upd (upd f_this_s 1 v1) 2 v2))), (a_this_numbers, .inl (cA, 2, .inl f_this_numbers))] H := hP
          have hD : va_D A [(a_this, .inr (3, rf_o3 a_this_s a_this_image a_this_read a_this_mind a_this_letters a_this_row a_this_refused a_this_numbers a_this_cost g_this)), (a_this_s, .inl (cA, 22, .inl (upd (upd f_this_s 1 v1) 2 v2))), (a_this_numbers, .inl (cA, 2, .inl f_this_numbers))] := hD
          refine lv_iload_n hx hb dX3_comes_192 rfl (lv_at hl 1 rfl) ?_
          refine lv_bipush (v := 100) hx hb dX3_comes_193 (by decide) ?_
          refine lv_sipush (v := 250) hx hb dX3_comes_195 (by decide) ?_
          obtain ⟨q19, hq19, hf⟩ := rf_bindq hf
          refine rf_Si (As := [.int v1, .int 100, .int 250]) (rest := []) (wr := [(a_this, .inr (3, rf_o3 a_this_s a_this_image a_this_read a_this_mind a_this_letters a_this_row a_this_refused a_this_numbers a_this_cost g_this)), (a_this_s, .inl (cA, 22, .inl (upd (upd f_this_s 1 v1) 2 v2))), (a_this_numbers, .inl (cA, 2, .inl f_this_numbers))]) (wn := [(a_this, .inr (3, rf_o3 a_this_s a_this_image a_this_read a_this_mind a_this_letters a_this_row a_this_refused a_this_numbers a_this_cost g_this)), (a_this_s, .inl (cA, 22, .inl (upd (upd f_this_s 1 v1) 2 v2))), (a_this_numbers, .inl (cA, 2, .inl f_this_numbers))]) ⟨hx, hb, hml, hown, hts⟩ hK hP hD hS hA hE (c_X3_isIn l D cA ad H.size v1 100 250 q19 hq19) (va_cwS 3 hts gX3_comes_X3_isIn rfl rfl rfl hs_X3_isIn ⟨Nat.le_of_ble_eq_true rfl, Nat.le_of_ble_eq_true rfl⟩) [] [0, 1, 2] [0, 1, 2] rfl rfl rfl rfl (by decide) rfl rfl rfl rfl hl.1 (Nat.le_of_ble_eq_true rfl) dX3_comes_198 ⟨Nat.zero_le _, Nat.zero_le _⟩ (fun H locs hP hD hS => ?_)
          refine lv_if_eq (tgt := 212) hx hb dX3_comes_201 (by decide) (fun c20 => ?_) (fun c20 => ?_)
          · have hf := rf_ifp hf c20
            refine lv_iconst (v := 0) hx hb dX3_comes_212 (by decide) ?_
            obtain rfl := Option.some.inj hf
            exact W.zret (v := 0) hx hb hr rfl (fun t ht hW => ⟨⟨0, (), rfl, rfl, rf_mk ht hP hD⟩, hS.F ht⟩) hS.2.2 dX3_comes_213
          · have hf := rf_ifn hf c20
            refine lv_iload_n hx hb dX3_comes_204 rfl (lv_at hl 0 rfl) ?_
            refine lv_if_le (tgt := 212) hx hb dX3_comes_205 (by decide) (fun c21 => ?_) (fun c21 => ?_)
            · have hf := rf_ifp hf c21
              refine lv_iconst (v := 0) hx hb dX3_comes_212 (by decide) ?_
              obtain rfl := Option.some.inj hf
              exact W.zret (v := 0) hx hb hr rfl (fun t ht hW => ⟨⟨0, (), rfl, rfl, rf_mk ht hP hD⟩, hS.F ht⟩) hS.2.2 dX3_comes_213
            · have hf := rf_ifn hf c21
              refine lv_iconst (v := 1) hx hb dX3_comes_208 (by decide) ?_
              refine lv_goto (tgt := 213) hx hb dX3_comes_209 (by decide) ?_
              obtain rfl := Option.some.inj hf
              exact W.zret (v := 1) hx hb hr rfl (fun t ht hW => ⟨⟨1, (), rfl, rfl, rf_mk ht hP hD⟩, hS.F ht⟩) hS.2.2 dX3_comes_213
        · have hf := rf_ifn hf c18
          by_cases c22 : p1 = 115
          · have hf := rf_ifp hf c22
            refine rf_tabC (off := 199) (tgt := 214) hx hb dX3_comes_15 c22 (by decide) (by decide) (by decide) (by decide) ?_
            refine lv_aload_n hx hb dX3_comes_214 rfl (lv_at hl 2 rfl) ?_
            refine va_get (D := D) (ci := 3) (v := .ref a_this_s) (C := RX3) (T := TX3) (N := 16) hx hb hts jX3_comes_X3 hown hK hP 0 rfl rfl 0 (by decide) (hts _ kX3_comes_1) (fun _ h9 => h9) rfl dX3_comes_215 ?_
            refine lv_iconst (v := 4) hx hb dX3_comes_218 (by decide) ?_
            refine lv_iload_n hx hb dX3_comes_219 rfl (lv_at hl 1 rfl) ?_
            refine rf_iastorek hx hb hK hP hD hS 1 0 rfl rfl (k := 4) (by decide) (by decide) (by decide) dX3_comes_220 (fun H locs hP hD hS => ?_)
            have hP : va_P D vwCl [(a_this, .inr (3, rf_o3 a_this_s a_this_image a_this_read a_this_mind a_this_letters a_this_row a_this_refused a_this_numbers a_this_cost g_this)), (a_this_s, .inl (cA, 22, .inl (upd f_this_s 4 v1))), (a_this_numbers, .inl (cA, 2, .inl f_this_numbers))] H := hP
            have hD : va_D A [(a_this, .inr (3, rf_o3 a_this_s a_this_image a_this_read a_this_mind a_this_letters a_this_row a_this_refused a_this_numbers a_this_cost g_this)), (a_this_s, .inl (cA, 22, .inl (upd f_this_s 4 v1))), (a_this_numbers, .inl (cA, 2, .inl f_this_numbers))] := hD
            refine lv_iload_n hx hb dX3_comes_221 rfl (lv_at hl 1 rfl) ?_
            refine lv_bipush (v := 30) hx hb dX3_comes_222 (by decide) ?_
            refine lv_icmp_gt (tgt := 231) hx hb dX3_comes_224 (by decide) (fun c23 => ?_) (fun c23 => ?_)
            · have hf := rf_ifp hf c23
              refine lv_iconst (v := 0) hx hb dX3_comes_231 (by decide) ?_
              obtain rfl := Option.some.inj hf
              exact W.zret (v := 0) hx hb hr rfl (fun t ht hW => ⟨⟨0, (), rfl, rfl, rf_mk ht hP hD⟩, hS.F ht⟩) hS.2.2 dX3_comes_232
            · have hf := rf_ifn hf c23
              refine lv_iconst (v := 1) hx hb dX3_comes_227 (by decide) ?_
              refine lv_goto (tgt := 232) hx hb dX3_comes_228 (by decide) ?_
              obtain rfl := Option.some.inj hf
              exact W.zret (v := 1) hx hb hr rfl (fun t ht hW => ⟨⟨1, (), rfl, rfl, rf_mk ht hP hD⟩, hS.F ht⟩) hS.2.2 dX3_comes_232
          · have hf := rf_ifn hf c22
            by_cases c24 : p1 = 116
            · have hf := rf_ifp hf c24
              refine rf_tabC (off := 247) (tgt := 262) hx hb dX3_comes_15 c24 (by decide) (by decide) (by decide) (by decide) ?_
              refine lv_iload_n hx hb dX3_comes_262 rfl (lv_at hl 1 rfl) ?_
              refine lv_bipush (v := 7) hx hb dX3_comes_263 (by decide) ?_
              refine lv_icmp_ge (tgt := 293) hx hb dX3_comes_265 (by decide) (fun c25 => ?_) (fun c25 => ?_)
              · have hf := rf_ifp hf c25
                refine lv_iconst (v := 0) hx hb dX3_comes_293 (by decide) ?_
                obtain rfl := Option.some.inj hf
                exact W.zret (v := 0) hx hb hr rfl (fun t ht hW => ⟨⟨0, (), rfl, rfl, rf_mk ht hP hD⟩, hS.F ht⟩) hS.2.2 dX3_comes_294
              · have hf := rf_ifn hf c25
                refine lv_aload_n hx hb dX3_comes_268 rfl (lv_at hl 2 rfl) ?_
                obtain ⟨q26, hq26, hf⟩ := rf_bindq hf
                refine rf_Vi (As := []) (rest := []) (wr := [(a_this_numbers, .inl (cA, 2, .inl f_this_numbers))]) (wn := [(a_this, .inr (3, rf_o3 a_this_s a_this_image a_this_read a_this_mind a_this_letters a_this_row a_this_refused a_this_numbers a_this_cost g_this)), (a_this_s, .inl (cA, 22, .inl f_this_s)), (a_this_numbers, .inl (cA, 2, .inl f_this_numbers))]) ⟨hx, hb, hml, hown, hts⟩ hK hP hD hS hA hE (c_X3_isOff l D cA ad a_this a_this_s a_this_image a_this_read a_this_mind a_this_letters a_this_row a_this_refused a_this_numbers a_this_cost s.heap.size g_this f_this_s q26 hq26) (cwV 0 hts gX3_comes_X3_isOff rfl rfl rfl hv_X3_isOff ⟨Nat.le_of_ble_eq_true rfl, Nat.le_of_ble_eq_true rfl⟩) [0, 1] [2] [1, 2, 0] rfl rfl rfl rfl (by decide) rfl rfl 3 0 rfl rfl rfl rfl rfl hl.1 (Nat.le_of_ble_eq_true rfl) dX3_comes_269 ⟨Nat.zero_le _, Nat.zero_le _⟩ (fun H locs hP hD hS => ?_)
                refine lv_if_ne (tgt := 293) hx hb dX3_comes_272 (by decide) (fun c27 => ?_) (fun c27 => ?_)
                · have hf := rf_ifn hf c27
                  refine lv_iconst (v := 0) hx hb dX3_comes_293 (by decide) ?_
                  obtain rfl := Option.some.inj hf
                  exact W.zret (v := 0) hx hb hr rfl (fun t ht hW => ⟨⟨0, (), rfl, rfl, rf_mk ht hP hD⟩, hS.F ht⟩) hS.2.2 dX3_comes_294
                · have hf := rf_ifp hf c27
                  refine lv_aload_n hx hb dX3_comes_275 rfl (lv_at hl 2 rfl) ?_
                  refine va_get (D := D) (ci := 3) (v := .ref a_this_s) (C := RX3) (T := TX3) (N := 16) hx hb hts jX3_comes_X3 hown hK hP 0 rfl rfl 0 (by decide) (hts _ kX3_comes_1) (fun _ h9 => h9) rfl dX3_comes_276 ?_
                  refine lv_bipush (v := 8) hx hb dX3_comes_279 (by decide) ?_
                  refine rf_ialoadk hx hb hK hP 1 0 rfl rfl (k := 8) (by decide) (by decide) (by decide) dX3_comes_281 ?_
                  refine lv_iload_n hx hb dX3_comes_282 rfl (lv_at hl 1 rfl) ?_
                  obtain ⟨q28, hq28, hf⟩ := rf_bindq hf
                  refine rf_Si (As := [.int v1]) (rest := [.int (f_this_s 8)]) (wr := [(a_this, .inr (3, rf_o3 a_this_s a_this_image a_this_read a_this_mind a_this_letters a_this_row a_this_refused a_this_numbers a_this_cost g_this)), (a_this_s, .inl (cA, 22, .inl f_this_s)), (a_this_numbers, .inl (cA, 2, .inl f_this_numbers))]) (wn := [(a_this, .inr (3, rf_o3 a_this_s a_this_image a_this_read a_this_mind a_this_letters a_this_row a_this_refused a_this_numbers a_this_cost g_this)), (a_this_s, .inl (cA, 22, .inl f_this_s)), (a_this_numbers, .inl (cA, 2, .inl f_this_numbers))]) ⟨hx, hb, hml, hown, hts⟩ hK hP hD hS hA hE (c_X3_minutesOf l D cA ad H.size v1 q28 hq28) (va_cwS 1 hts gX3_comes_X3_minutesOf rfl rfl rfl hs_X3_minutesOf ⟨Nat.le_of_ble_eq_true rfl, Nat.le_of_ble_eq_true rfl⟩) [] [0, 1, 2] [0, 1, 2] rfl rfl rfl rfl (by decide) rfl rfl rfl rfl hl.1 (Nat.le_of_ble_eq_true rfl) dX3_comes_283 ⟨Nat.zero_le _, Nat.zero_le _⟩ (fun H locs hP hD hS => ?_)
                  refine lv_iadd hx hb dX3_comes_286 ?_
                  refine lv_sipush (v := 999) hx hb dX3_comes_287 (by decide) ?_
                  refine lv_icmp_le (tgt := 295) hx hb dX3_comes_290 (by decide) (fun c29 => ?_) (fun c29 => ?_)
                  · have hf := rf_ifp hf c29
                    refine lv_aload_n hx hb dX3_comes_295 rfl (lv_at hl 2 rfl) ?_
                    refine lv_iload_n hx hb dX3_comes_296 rfl (lv_at hl 1 rfl) ?_
                    obtain ⟨q30, hq30, hf⟩ := rf_bindq hf
                    refine rf_Vi (As := [.int v1]) (rest := []) (wr := [(a_this_numbers, .inl (cA, 2, .inl f_this_numbers))]) (wn := [(a_this, .inr (3, rf_o3 a_this_s a_this_image a_this_read a_this_mind a_this_letters a_this_row a_this_refused a_this_numbers a_this_cost g_this)), (a_this_s, .inl (cA, 22, .inl q30.2)), (a_this_numbers, .inl (cA, 2, .inl f_this_numbers))]) ⟨hx, hb, hml, hown, hts⟩ hK hP hD hS hA hE (c_X3_tried l D cA ad a_this a_this_s a_this_image a_this_read a_this_mind a_this_letters a_this_row a_this_refused a_this_numbers a_this_cost H.size g_this f_this_s v1 q30 hq30) (cwV 1 hts gX3_comes_X3_tried rfl rfl rfl hv_X3_tried ⟨Nat.le_of_ble_eq_true rfl, Nat.le_of_ble_eq_true rfl⟩) [0, 1] [2] [1, 2, 0] rfl rfl rfl rfl (by decide) rfl rfl 3 0 rfl rfl rfl rfl rfl hl.1 (Nat.le_of_ble_eq_true rfl) dX3_comes_297 ⟨Nat.zero_le _, Nat.zero_le _⟩ (fun H locs hP hD hS => ?_)
                    refine lv_istore (lv' := [(4, .int q30.1), (3, .int v2), (2, .int v1), (0, .ref a_this), (1, .int p1)]) hx hb dX3_comes_300 hl (by decide) rfl (fun ls hl => ?_)
                    refine lv_iconst (v := 1) hx hb dX3_comes_302 (by decide) ?_
                    obtain rfl := Option.some.inj hf
                    exact W.zret (v := 1) hx hb hr rfl (fun t ht hW => ⟨⟨1, (), rfl, rfl, rf_mk ht hP hD⟩, hS.F ht⟩) hS.2.2 dX3_comes_303
                  · have hf := rf_ifn hf c29
                    refine lv_iconst (v := 0) hx hb dX3_comes_293 (by decide) ?_
                    obtain rfl := Option.some.inj hf
                    exact W.zret (v := 0) hx hb hr rfl (fun t ht hW => ⟨⟨0, (), rfl, rfl, rf_mk ht hP hD⟩, hS.F ht⟩) hS.2.2 dX3_comes_294
            · have hf := rf_ifn hf c24
              refine rf_tabD (tgt := 304) (ks := [99, 104, 112, 114, 115, 116]) hx hb dX3_comes_15 (by intro z hz; simp only [List.mem_cons, List.not_mem_nil, or_false] at hz; rcases hz with rfl | rfl | rfl | rfl | rfl | rfl <;> assumption) (by decide) (by decide) ?_
              refine lv_iload_n hx hb dX3_comes_304 rfl (lv_at hl 1 rfl) ?_
              refine lv_iconst (v := 1) hx hb dX3_comes_305 (by decide) ?_
              refine lv_bipush (v := 60) hx hb dX3_comes_306 (by decide) ?_
              obtain ⟨q31, hq31, hf⟩ := rf_bindq hf
              refine rf_Si (As := [.int v1, .int 1, .int 60]) (rest := []) (wr := [(a_this, .inr (3, rf_o3 a_this_s a_this_image a_this_read a_this_mind a_this_letters a_this_row a_this_refused a_this_numbers a_this_cost g_this)), (a_this_s, .inl (cA, 22, .inl f_this_s)), (a_this_numbers, .inl (cA, 2, .inl f_this_numbers))]) (wn := [(a_this, .inr (3, rf_o3 a_this_s a_this_image a_this_read a_this_mind a_this_letters a_this_row a_this_refused a_this_numbers a_this_cost g_this)), (a_this_s, .inl (cA, 22, .inl f_this_s)), (a_this_numbers, .inl (cA, 2, .inl f_this_numbers))]) ⟨hx, hb, hml, hown, hts⟩ hK hP hD hS hA hE (c_X3_isIn l D cA ad s.heap.size v1 1 60 q31 hq31) (va_cwS 3 hts gX3_comes_X3_isIn rfl rfl rfl hs_X3_isIn ⟨Nat.le_of_ble_eq_true rfl, Nat.le_of_ble_eq_true rfl⟩) [] [0, 1, 2] [0, 1, 2] rfl rfl rfl rfl (by decide) rfl rfl rfl rfl hl.1 (Nat.le_of_ble_eq_true rfl) dX3_comes_308 ⟨Nat.zero_le _, Nat.zero_le _⟩ (fun H locs hP hD hS => ?_)
              refine lv_if_eq (tgt := 329) hx hb dX3_comes_311 (by decide) (fun c32 => ?_) (fun c32 => ?_)
              · have hf := rf_ifp hf c32
                refine lv_iconst (v := 0) hx hb dX3_comes_329 (by decide) ?_
                obtain rfl := Option.some.inj hf
                exact W.zret (v := 0) hx hb hr rfl (fun t ht hW => ⟨⟨0, (), rfl, rfl, rf_mk ht hP hD⟩, hS.F ht⟩) hS.2.2 dX3_comes_330
              · have hf := rf_ifn hf c32
                refine lv_aload_n hx hb dX3_comes_314 rfl (lv_at hl 2 rfl) ?_
                refine va_get (D := D) (ci := 3) (v := .ref a_this_s) (C := RX3) (T := TX3) (N := 16) hx hb hts jX3_comes_X3 hown hK hP 0 rfl rfl 0 (by decide) (hts _ kX3_comes_1) (fun _ h9 => h9) rfl dX3_comes_315 ?_
                refine lv_bipush (v := 8) hx hb dX3_comes_318 (by decide) ?_
                refine rf_ialoadk hx hb hK hP 1 0 rfl rfl (k := 8) (by decide) (by decide) (by decide) dX3_comes_320 ?_
                refine lv_iload_n hx hb dX3_comes_321 rfl (lv_at hl 1 rfl) ?_
                refine lv_iadd hx hb dX3_comes_322 ?_
                refine lv_sipush (v := 999) hx hb dX3_comes_323 (by decide) ?_
                refine lv_icmp_le (tgt := 331) hx hb dX3_comes_326 (by decide) (fun c33 => ?_) (fun c33 => ?_)
                · have hf := rf_ifp hf c33
                  refine lv_aload_n hx hb dX3_comes_331 rfl (lv_at hl 2 rfl) ?_
                  refine lv_iload_n hx hb dX3_comes_332 rfl (lv_at hl 1 rfl) ?_
                  obtain ⟨q34, hq34, hf⟩ := rf_bindq hf
                  refine rf_Vv (As := [.int v1]) (rest := []) (wr := [(a_this_numbers, .inl (cA, 2, .inl f_this_numbers))]) (wn := [(a_this, .inr (3, rf_o3 a_this_s a_this_image a_this_read a_this_mind a_this_letters a_this_row a_this_refused a_this_numbers a_this_cost g_this)), (a_this_s, .inl (cA, 22, .inl q34)), (a_this_numbers, .inl (cA, 2, .inl f_this_numbers))]) ⟨hx, hb, hml, hown, hts⟩ hK hP hD hS hA hE (c_X3_waits l D cA ad a_this a_this_s a_this_image a_this_read a_this_mind a_this_letters a_this_row a_this_refused a_this_numbers a_this_cost H.size g_this f_this_s v1 q34 hq34) (cwV 1 hts gX3_comes_X3_waits rfl rfl rfl hv_X3_waits ⟨Nat.le_of_ble_eq_true rfl, Nat.le_of_ble_eq_true rfl⟩) [0, 1] [2] [1, 2, 0] rfl rfl rfl rfl (by decide) rfl rfl 3 0 rfl rfl rfl rfl rfl hl.1 (Nat.le_of_ble_eq_true rfl) dX3_comes_333 ⟨Nat.zero_le _, Nat.zero_le _⟩ (fun H locs hP hD hS => ?_)
                  refine lv_iconst (v := 1) hx hb dX3_comes_336 (by decide) ?_
                  obtain rfl := Option.some.inj hf
                  exact W.zret (v := 1) hx hb hr rfl (fun t ht hW => ⟨⟨1, (), rfl, rfl, rf_mk ht hP hD⟩, hS.F ht⟩) hS.2.2 dX3_comes_337
                · have hf := rf_ifn hf c33
                  refine lv_iconst (v := 0) hx hb dX3_comes_329 (by decide) ?_
                  obtain rfl := Option.some.inj hf
                  exact W.zret (v := 0) hx hb hr rfl (fun t ht hW => ⟨⟨0, (), rfl, rfl, rf_mk ht hP hD⟩, hS.F ht⟩) hS.2.2 dX3_comes_330
theorem kX3_hand_0 : (.fieldLink RX3 92 "RingAndFingerModel" "at" "I" : Cond) ∈ wsX3_hand := by decide +kernel
theorem kX3_hand_1 : (.fieldLink RX3 88 "RingAndFingerModel" "letterMany" "I" : Cond) ∈ wsX3_hand := by decide +kernel
theorem kX3_hand_2 : (.fieldLink RX3 16 "RingAndFingerModel" "read" "[I" : Cond) ∈ wsX3_hand := by decide +kernel
theorem kX3_hand_3 : (.fieldLink RX3 9 "RingAndFingerModel" "s" "[I" : Cond) ∈ wsX3_hand := by decide +kernel
theorem jX3_hand_X3 : ∀ w ∈ u_ws RX3 TX3 16, w ∈ wsX3_hand := by decide +kernel
set_option maxHeartbeats 8000000 in
set_option maxRecDepth 100000 in
theorem c_X3_hand (l : Launch) (D : va_G) (cA : ClassId) (ad : Nat → Nat) (a_this a_this_s a_this_image a_this_read a_this_mind a_this_letters a_this_row a_this_refused a_this_numbers a_this_cost : Nat) (sz : Nat) (g_this f_this_s f_this_read f_this_letters f_this_numbers : Nat → Int32) (q : Int32 × (Nat → Int32) × (Nat → Int32) × (Nat → Int32) × (Nat → Int32)) (hf : f_X3_hand g_this f_this_s f_this_read f_this_letters f_this_numbers = some q) : Met l yX3_hand wsX3_hand ({ frames := 7, cells := 0, slots := 0, locals := 162 } : Room) (va_Pc [.ref a_this] (rf_Pre D cA ad [(a_this, .inr (3, rf_o3 a_this_s a_this_image a_this_read a_this_mind a_this_letters a_this_row a_this_refused a_this_numbers a_this_cost g_this)), (a_this_s, .inl (cA, 22, .inl f_this_s)), (a_this_read, .inl (cA, 22, .inl f_this_read)), (a_this_letters, .inl (cA, 96, .inl f_this_letters)), (a_this_numbers, .inl (cA, 2, .inl f_this_numbers))] sz)) (va_Qi (fun (r : Int32) (_ : Unit) => r = q.1) (fun _ t => rf_Post D (va_A [(a_this, .inr (3, rf_o3 a_this_s a_this_image a_this_read a_this_mind a_this_letters a_this_row a_this_refused a_this_numbers a_this_cost g_this)), (a_this_s, .inl (cA, 22, .inl f_this_s)), (a_this_read, .inl (cA, 22, .inl f_this_read)), (a_this_letters, .inl (cA, 96, .inl f_this_letters)), (a_this_numbers, .inl (cA, 2, .inl f_this_numbers))] sz) [(a_this, .inr (3, rf_o3 a_this_s a_this_image a_this_read a_this_mind a_this_letters a_this_row a_this_refused a_this_numbers a_this_cost q.2.1)), (a_this_s, .inl (cA, 22, .inl q.2.2.1)), (a_this_read, .inl (cA, 22, .inl q.2.2.2.1)), (a_this_letters, .inl (cA, 96, .inl f_this_letters)), (a_this_numbers, .inl (cA, 2, .inl q.2.2.2.2))] t) (va_A [(a_this, .inr (3, rf_o3 a_this_s a_this_image a_this_read a_this_mind a_this_letters a_this_row a_this_refused a_this_numbers a_this_cost g_this)), (a_this_s, .inl (cA, 22, .inl f_this_s)), (a_this_read, .inl (cA, 22, .inl f_this_read)), (a_this_letters, .inl (cA, 96, .inl f_this_letters)), (a_this_numbers, .inl (cA, 2, .inl f_this_numbers))] sz)) 0 0 (va_A [(a_this, .inr (3, rf_o3 a_this_s a_this_image a_this_read a_this_mind a_this_letters a_this_row a_this_refused a_this_numbers a_this_cost g_this)), (a_this_s, .inl (cA, 22, .inl f_this_s)), (a_this_read, .inl (cA, 22, .inl f_this_read)), (a_this_letters, .inl (cA, 96, .inl f_this_letters)), (a_this_numbers, .inl (cA, 2, .inl f_this_numbers))] sz) := by
  refine Met.ofW (cc := cX3_hand) (maxL := 6) (ret := (some .int)) (by decide) rfl ?_
  intro p e s m args below meth c s₁ B hml hv
  obtain ⟨rfl, hsz, hP, hK, hD0, hE⟩ := hv
  have hx := B.exec
  have hb := B.bytes
  have hr := B.returns
  have hts := atoms_spec (ws := wsX3_hand) B.pre
  have hown : s.vm.findClass RX3 = some m.cls := findClass_of_methodNamed B.named
  have hlocks := B.notSynchronized
  subst hsz
  have hD := hD0.self (sz := s.heap.size)
  generalize hAe : va_A [(a_this, .inr (3, rf_o3 a_this_s a_this_image a_this_read a_this_mind a_this_letters a_this_row a_this_refused a_this_numbers a_this_cost g_this)), (a_this_s, .inl (cA, 22, .inl f_this_s)), (a_this_read, .inl (cA, 22, .inl f_this_read)), (a_this_letters, .inl (cA, 96, .inl f_this_letters)), (a_this_numbers, .inl (cA, 2, .inl f_this_numbers))] s.heap.size = A at hD hE ⊢
  have hA : ∀ q : Nat, s.heap.size ≤ q → A q := fun q h => by rw [← hAe]; exact Or.inr h
  have hS : va_S A s.heap s.heap [] := va_S.rf
  have hP : va_P D vwCl [(a_this, .inr (3, rf_o3 a_this_s a_this_image a_this_read a_this_mind a_this_letters a_this_row a_this_refused a_this_numbers a_this_cost g_this)), (a_this_s, .inl (cA, 22, .inl f_this_s)), (a_this_read, .inl (cA, 22, .inl f_this_read)), (a_this_letters, .inl (cA, 96, .inl f_this_letters)), (a_this_numbers, .inl (cA, 2, .inl f_this_numbers))] s.heap := hP
  have hl := lv_entry ([.ref a_this]) (n := 6) (Nat.le_of_ble_eq_true rfl)
  rw [lg_entry_eq]
  generalize (lg_sl ([.ref a_this]) ++ List.replicate (6 - (lg_sl ([.ref a_this])).length) Slot.unset).toArray = ls at hl ⊢
  have hl : lv_has ls 6 [(0, .ref a_this)] := hl
  have key_10 : ∀ (yf_this_s yf_this_read : Nat → Int32) (n : Nat) (x1 x2 : Int32) (yg_this yf_this_numbers : Nat → Int32) (ql : Int32 × Int32 × (Nat → Int32) × (Nat → Int32)), f_X3_hand_L10 f_this_letters yf_this_s yf_this_read n x1 x2 yg_this yf_this_numbers = some ql → ∀ (H : Heap) (locs : List Loc) (ls : Array Slot), va_P D vwCl [(a_this, .inr (3, rf_o3 a_this_s a_this_image a_this_read a_this_mind a_this_letters a_this_row a_this_refused a_this_numbers a_this_cost yg_this)), (a_this_s, .inl (cA, 22, .inl yf_this_s)), (a_this_read, .inl (cA, 22, .inl yf_this_read)), (a_this_letters, .inl (cA, 96, .inl f_this_letters)), (a_this_numbers, .inl (cA, 2, .inl yf_this_numbers))] H → va_D A [(a_this, .inr (3, rf_o3 a_this_s a_this_image a_this_read a_this_mind a_this_letters a_this_row a_this_refused a_this_numbers a_this_cost yg_this)), (a_this_s, .inl (cA, 22, .inl yf_this_s)), (a_this_read, .inl (cA, 22, .inl yf_this_read)), (a_this_letters, .inl (cA, 96, .inl f_this_letters)), (a_this_numbers, .inl (cA, 2, .inl yf_this_numbers))] → va_S A s.heap H locs → lv_has ls 6 [(0, .ref a_this), (1, .int x1), (2, .int x2)] → (∀ (H : Heap) (locs : List Loc) (ls : Array Slot), va_P D vwCl [(a_this, .inr (3, rf_o3 a_this_s a_this_image a_this_read a_this_mind a_this_letters a_this_row a_this_refused a_this_numbers a_this_cost ql.2.2.1)), (a_this_s, .inl (cA, 22, .inl yf_this_s)), (a_this_read, .inl (cA, 22, .inl yf_this_read)), (a_this_letters, .inl (cA, 96, .inl f_this_letters)), (a_this_numbers, .inl (cA, 2, .inl ql.2.2.2))] H → va_D A [(a_this, .inr (3, rf_o3 a_this_s a_this_image a_this_read a_this_mind a_this_letters a_this_row a_this_refused a_this_numbers a_this_cost ql.2.2.1)), (a_this_s, .inl (cA, 22, .inl yf_this_s)), (a_this_read, .inl (cA, 22, .inl yf_this_read)), (a_this_letters, .inl (cA, 96, .inl f_this_letters)), (a_this_numbers, .inl (cA, 2, .inl ql.2.2.2))] → va_S A s.heap H locs → lv_has ls 6 [(0, .ref a_this), (1, .int ql.1), (2, .int ql.2.1)] → W p l e (headSpec wsX3_hand ({ frames := 7, cells := 0, slots := 0, locals := 162 } : Room)).room s m ([.ref a_this] : List Value).toArray below meth c H locs 0 0 (MQ below (va_Qi (fun (r : Int32) (_ : Unit) => r = q.1) (fun _ t => rf_Post D A [(a_this, .inr (3, rf_o3 a_this_s a_this_image a_this_read a_this_mind a_this_letters a_this_row a_this_refused a_this_numbers a_this_cost q.2.1)), (a_this_s, .inl (cA, 22, .inl q.2.2.1)), (a_this_read, .inl (cA, 22, .inl q.2.2.2.1)), (a_this_letters, .inl (cA, 96, .inl f_this_letters)), (a_this_numbers, .inl (cA, 2, .inl q.2.2.2.2))] t) A) ([.ref a_this] : List Value).toArray s 0 0 A) (F0 m 46 ls [])) → W p l e (headSpec wsX3_hand ({ frames := 7, cells := 0, slots := 0, locals := 162 } : Room)).room s m ([.ref a_this] : List Value).toArray below meth c H locs 0 0 (MQ below (va_Qi (fun (r : Int32) (_ : Unit) => r = q.1) (fun _ t => rf_Post D A [(a_this, .inr (3, rf_o3 a_this_s a_this_image a_this_read a_this_mind a_this_letters a_this_row a_this_refused a_this_numbers a_this_cost q.2.1)), (a_this_s, .inl (cA, 22, .inl q.2.2.1)), (a_this_read, .inl (cA, 22, .inl q.2.2.2.1)), (a_this_letters, .inl (cA, 96, .inl f_this_letters)), (a_this_numbers, .inl (cA, 2, .inl q.2.2.2.2))] t) A) ([.ref a_this] : List Value).toArray s 0 0 A) (F0 m 10 ls []) := by
    intro yf_this_s yf_this_read n
    induction n with
    | zero =>
      intro x1 x2 yg_this yf_this_numbers ql hf H locs ls hP hD hS hl kx
      exact absurd (show (none : Option (Int32 × Int32 × (Nat → Int32) × (Nat → Int32))) = some ql from hf) (fun h9 => by cases h9)
    | succ n ih =>
      intro x1 x2 yg_this yf_this_numbers ql hf H locs ls hP hD hS hl kx
      rw [f_X3_hand_L10] at hf
      refine lv_aload_n hx hb dX3_hand_10 rfl (lv_at hl 0 rfl) ?_
      obtain ⟨q1, hq1, hf⟩ := rf_bindq hf
      refine rf_Vi (As := []) (rest := []) (wr := [(a_this_s, .inl (cA, 22, .inl yf_this_s)), (a_this_read, .inl (cA, 22, .inl yf_this_read))]) (wn := [(a_this, .inr (3, rf_o3 a_this_s a_this_image a_this_read a_this_mind a_this_letters a_this_row a_this_refused a_this_numbers a_this_cost q1.2.1)), (a_this_s, .inl (cA, 22, .inl yf_this_s)), (a_this_read, .inl (cA, 22, .inl yf_this_read)), (a_this_letters, .inl (cA, 96, .inl f_this_letters)), (a_this_numbers, .inl (cA, 2, .inl q1.2.2))]) ⟨hx, hb, hml, hown, hts⟩ hK hP hD hS hA hE (c_X3_readsStatement l D cA ad a_this a_this_s a_this_image a_this_read a_this_mind a_this_letters a_this_row a_this_refused a_this_numbers a_this_cost H.size yg_this f_this_letters yf_this_numbers q1 hq1) (cwV 0 hts gX3_hand_X3_readsStatement rfl rfl rfl hv_X3_readsStatement ⟨Nat.le_of_ble_eq_true rfl, Nat.le_of_ble_eq_true rfl⟩) [0, 3, 4] [1, 2] [2, 0, 1, 3, 4] rfl rfl rfl rfl (by decide) rfl rfl 3 0 rfl rfl rfl rfl rfl hl.1 (Nat.le_of_ble_eq_true rfl) dX3_hand_11 ⟨Nat.zero_le _, Nat.zero_le _⟩ (fun H locs hP hD hS => ?_)
      refine lv_if_ne (tgt := 26) hx hb dX3_hand_14 (by decide) (fun c2 => ?_) (fun c2 => ?_)
      · have hf := rf_ifn hf c2
        obtain ⟨v3, ev3⟩ : ∃ y : Int32, y = x1 + 1 := ⟨_, rfl⟩
        have hf := rf_bindv hf ev3
        refine lv_iinc (v := v3) (lv' := [(1, .int v3), (0, .ref a_this), (2, .int x2)]) hx hb dX3_hand_26 hl (k := 1) rfl (by rw [ev3]; rfl) (by decide) rfl (fun ls hl => ?_)
        clear ev3
        refine lv_iload_n hx hb dX3_hand_29 rfl (lv_at hl 2 rfl) ?_
        refine lv_bipush (v := (-9)) hx hb dX3_hand_30 (by decide) ?_
        refine lv_icmp_ne (tgt := 46) hx hb dX3_hand_32 (by decide) (fun c4 => ?_) (fun c4 => ?_)
        · have hf := rf_ifn hf c4
          obtain rfl := Option.some.inj hf
          exact kx _ _ _ hP hD hS (lv_sub hl [1, 0, 2] rfl)
        · have hf := rf_ifp hf c4
          refine lv_aload_n hx hb dX3_hand_35 rfl (lv_at hl 1 rfl) ?_
          refine va_get (D := D) (ci := 3) (v := .int (q1.2.1 3)) (C := RX3) (T := TX3) (N := 16) hx hb hts jX3_hand_X3 hown hK hP 0 rfl rfl 10 (by decide) (hts _ kX3_hand_0) (fun _ h9 => h9) rfl dX3_hand_36 ?_
          refine lv_aload_n hx hb dX3_hand_39 rfl (lv_at hl 1 rfl) ?_
          refine va_get (D := D) (ci := 3) (v := .int (q1.2.1 1)) (C := RX3) (T := TX3) (N := 16) hx hb hts jX3_hand_X3 hown hK hP 0 rfl rfl 8 (by decide) (hts _ kX3_hand_1) (fun _ h9 => h9) rfl dX3_hand_40 ?_
          refine lv_icmp_lt (tgt := 10) hx hb dX3_hand_43 (by decide) (fun c5 => ?_) (fun c5 => ?_)
          · have hf := rf_ifp hf c5
            exact ih v3 x2 q1.2.1 q1.2.2 ql hf _ _ _ hP hD hS (lv_sub hl [1, 0, 2] rfl) kx
          · have hf := rf_ifn hf c5
            obtain rfl := Option.some.inj hf
            exact kx _ _ _ hP hD hS (lv_sub hl [1, 0, 2] rfl)
      · have hf := rf_ifp hf c2
        refine lv_sipush (v := (-1000)) hx hb dX3_hand_17 (by decide) ?_
        refine lv_aload_n hx hb dX3_hand_20 rfl (lv_at hl 0 rfl) ?_
        refine va_get (D := D) (ci := 3) (v := .int (q1.2.1 3)) (C := RX3) (T := TX3) (N := 16) hx hb hts jX3_hand_X3 hown hK hP 0 rfl rfl 10 (by decide) (hts _ kX3_hand_0) (fun _ h9 => h9) rfl dX3_hand_21 ?_
        refine lv_isub hx hb dX3_hand_24 ?_
        refine lv_topi (fun v6 ev6 => ?_)
        have hf := rf_bindv hf ev6
        clear ev6
        refine lv_istore_n (lv' := [(2, .int v6), (0, .ref a_this), (1, .int x1)]) hx hb dX3_hand_25 rfl hl (by decide) rfl (fun ls hl => ?_)
        obtain ⟨v7, ev7⟩ : ∃ y : Int32, y = x1 + 1 := ⟨_, rfl⟩
        have hf := rf_bindv hf ev7
        refine lv_iinc (v := v7) (lv' := [(1, .int v7), (2, .int v6), (0, .ref a_this)]) hx hb dX3_hand_26 hl (k := 2) rfl (by rw [ev7]; rfl) (by decide) rfl (fun ls hl => ?_)
        clear ev7
        refine lv_iload_n hx hb dX3_hand_29 rfl (lv_at hl 1 rfl) ?_
        refine lv_bipush (v := (-9)) hx hb dX3_hand_30 (by decide) ?_
        refine lv_icmp_ne (tgt := 46) hx hb dX3_hand_32 (by decide) (fun c8 => ?_) (fun c8 => ?_)
        · have hf := rf_ifn hf c8
          obtain rfl := Option.some.inj hf
          exact kx _ _ _ hP hD hS (lv_sub hl [2, 0, 1] rfl)
        · have hf := rf_ifp hf c8
          refine lv_aload_n hx hb dX3_hand_35 rfl (lv_at hl 2 rfl) ?_
          refine va_get (D := D) (ci := 3) (v := .int (q1.2.1 3)) (C := RX3) (T := TX3) (N := 16) hx hb hts jX3_hand_X3 hown hK hP 0 rfl rfl 10 (by decide) (hts _ kX3_hand_0) (fun _ h9 => h9) rfl dX3_hand_36 ?_
          refine lv_aload_n hx hb dX3_hand_39 rfl (lv_at hl 2 rfl) ?_
          refine va_get (D := D) (ci := 3) (v := .int (q1.2.1 1)) (C := RX3) (T := TX3) (N := 16) hx hb hts jX3_hand_X3 hown hK hP 0 rfl rfl 8 (by decide) (hts _ kX3_hand_1) (fun _ h9 => h9) rfl dX3_hand_40 ?_
          refine lv_icmp_lt (tgt := 10) hx hb dX3_hand_43 (by decide) (fun c9 => ?_) (fun c9 => ?_)
          · have hf := rf_ifp hf c9
            exact ih v7 v6 q1.2.1 q1.2.2 ql hf _ _ _ hP hD hS (lv_sub hl [2, 0, 1] rfl) kx
          · have hf := rf_ifn hf c9
            obtain rfl := Option.some.inj hf
            exact kx _ _ _ hP hD hS (lv_sub hl [2, 0, 1] rfl)
  have key_62 : ∀ (x1 : Int32) (yf_this_read : Nat → Int32) (n : Nat) (x2 : Int32) (yg_this yf_this_s yf_this_numbers : Nat → Int32) (ql : Int32 × (Nat → Int32) × (Nat → Int32) × (Nat → Int32)), f_X3_hand_L62 f_this_letters x1 yf_this_read n x2 yg_this yf_this_s yf_this_numbers = some ql → ∀ (H : Heap) (locs : List Loc) (ls : Array Slot), va_P D vwCl [(a_this, .inr (3, rf_o3 a_this_s a_this_image a_this_read a_this_mind a_this_letters a_this_row a_this_refused a_this_numbers a_this_cost yg_this)), (a_this_s, .inl (cA, 22, .inl yf_this_s)), (a_this_read, .inl (cA, 22, .inl yf_this_read)), (a_this_letters, .inl (cA, 96, .inl f_this_letters)), (a_this_numbers, .inl (cA, 2, .inl yf_this_numbers))] H → va_D A [(a_this, .inr (3, rf_o3 a_this_s a_this_image a_this_read a_this_mind a_this_letters a_this_row a_this_refused a_this_numbers a_this_cost yg_this)), (a_this_s, .inl (cA, 22, .inl yf_this_s)), (a_this_read, .inl (cA, 22, .inl yf_this_read)), (a_this_letters, .inl (cA, 96, .inl f_this_letters)), (a_this_numbers, .inl (cA, 2, .inl yf_this_numbers))] → va_S A s.heap H locs → lv_has ls 6 [(0, .ref a_this), (1, .int x1), (2, .int x2)] → (∀ (H : Heap) (locs : List Loc) (ls : Array Slot), va_P D vwCl [(a_this, .inr (3, rf_o3 a_this_s a_this_image a_this_read a_this_mind a_this_letters a_this_row a_this_refused a_this_numbers a_this_cost ql.2.1)), (a_this_s, .inl (cA, 22, .inl ql.2.2.1)), (a_this_read, .inl (cA, 22, .inl yf_this_read)), (a_this_letters, .inl (cA, 96, .inl f_this_letters)), (a_this_numbers, .inl (cA, 2, .inl ql.2.2.2))] H → va_D A [(a_this, .inr (3, rf_o3 a_this_s a_this_image a_this_read a_this_mind a_this_letters a_this_row a_this_refused a_this_numbers a_this_cost ql.2.1)), (a_this_s, .inl (cA, 22, .inl ql.2.2.1)), (a_this_read, .inl (cA, 22, .inl yf_this_read)), (a_this_letters, .inl (cA, 96, .inl f_this_letters)), (a_this_numbers, .inl (cA, 2, .inl ql.2.2.2))] → va_S A s.heap H locs → lv_has ls 6 [(0, .ref a_this), (1, .int x1), (2, .int ql.1)] → W p l e (headSpec wsX3_hand ({ frames := 7, cells := 0, slots := 0, locals := 162 } : Room)).room s m ([.ref a_this] : List Value).toArray below meth c H locs 0 0 (MQ below (va_Qi (fun (r : Int32) (_ : Unit) => r = q.1) (fun _ t => rf_Post D A [(a_this, .inr (3, rf_o3 a_this_s a_this_image a_this_read a_this_mind a_this_letters a_this_row a_this_refused a_this_numbers a_this_cost q.2.1)), (a_this_s, .inl (cA, 22, .inl q.2.2.1)), (a_this_read, .inl (cA, 22, .inl q.2.2.2.1)), (a_this_letters, .inl (cA, 96, .inl f_this_letters)), (a_this_numbers, .inl (cA, 2, .inl q.2.2.2.2))] t) A) ([.ref a_this] : List Value).toArray s 0 0 A) (F0 m 128 ls [])) → W p l e (headSpec wsX3_hand ({ frames := 7, cells := 0, slots := 0, locals := 162 } : Room)).room s m ([.ref a_this] : List Value).toArray below meth c H locs 0 0 (MQ below (va_Qi (fun (r : Int32) (_ : Unit) => r = q.1) (fun _ t => rf_Post D A [(a_this, .inr (3, rf_o3 a_this_s a_this_image a_this_read a_this_mind a_this_letters a_this_row a_this_refused a_this_numbers a_this_cost q.2.1)), (a_this_s, .inl (cA, 22, .inl q.2.2.1)), (a_this_read, .inl (cA, 22, .inl q.2.2.2.1)), (a_this_letters, .inl (cA, 96, .inl f_this_letters)), (a_this_numbers, .inl (cA, 2, .inl q.2.2.2.2))] t) A) ([.ref a_this] : List Value).toArray s 0 0 A) (F0 m 62 ls []) := by
    intro x1 yf_this_read n
    induction n with
    | zero =>
      intro x2 yg_this yf_this_s yf_this_numbers ql hf H locs ls hP hD hS hl kx
      exact absurd (show (none : Option (Int32 × (Nat → Int32) × (Nat → Int32) × (Nat → Int32))) = some ql from hf) (fun h9 => by cases h9)
    | succ n ih =>
      intro x2 yg_this yf_this_s yf_this_numbers ql hf H locs ls hP hD hS hl kx
      rw [f_X3_hand_L62] at hf
      refine lv_iload_n hx hb dX3_hand_62 rfl (lv_at hl 2 rfl) ?_
      refine lv_bipush (v := (-9)) hx hb dX3_hand_63 (by decide) ?_
      refine lv_icmp_ne (tgt := 128) hx hb dX3_hand_65 (by decide) (fun c10 => ?_) (fun c10 => ?_)
      · have hf := rf_ifn hf c10
        obtain rfl := Option.some.inj hf
        exact kx _ _ _ hP hD hS (lv_sub hl [0, 1, 2] rfl)
      · have hf := rf_ifp hf c10
        refine lv_aload_n hx hb dX3_hand_68 rfl (lv_at hl 0 rfl) ?_
        refine va_get (D := D) (ci := 3) (v := .int (yg_this 3)) (C := RX3) (T := TX3) (N := 16) hx hb hts jX3_hand_X3 hown hK hP 0 rfl rfl 10 (by decide) (hts _ kX3_hand_0) (fun _ h9 => h9) rfl dX3_hand_69 ?_
        refine lv_aload_n hx hb dX3_hand_72 rfl (lv_at hl 0 rfl) ?_
        refine va_get (D := D) (ci := 3) (v := .int (yg_this 1)) (C := RX3) (T := TX3) (N := 16) hx hb hts jX3_hand_X3 hown hK hP 0 rfl rfl 8 (by decide) (hts _ kX3_hand_1) (fun _ h9 => h9) rfl dX3_hand_73 ?_
        refine lv_icmp_ge (tgt := 128) hx hb dX3_hand_76 (by decide) (fun c11 => ?_) (fun c11 => ?_)
        · have hf := rf_ifp hf c11
          obtain rfl := Option.some.inj hf
          exact kx _ _ _ hP hD hS (lv_sub hl [0, 1, 2] rfl)
        · have hf := rf_ifn hf c11
          refine lv_aload_n hx hb dX3_hand_79 rfl (lv_at hl 0 rfl) ?_
          refine va_get (D := D) (ci := 3) (v := .int (yg_this 3)) (C := RX3) (T := TX3) (N := 16) hx hb hts jX3_hand_X3 hown hK hP 0 rfl rfl 10 (by decide) (hts _ kX3_hand_0) (fun _ h9 => h9) rfl dX3_hand_80 ?_
          refine lv_topi (fun v12 ev12 => ?_)
          have hf := rf_bindv hf ev12
          clear ev12
          refine lv_istore_n (lv' := [(3, .int v12), (0, .ref a_this), (1, .int x1), (2, .int x2)]) hx hb dX3_hand_83 rfl hl (by decide) rfl (fun ls hl => ?_)
          refine lv_aload_n hx hb dX3_hand_84 rfl (lv_at hl 1 rfl) ?_
          obtain ⟨q13, hq13, hf⟩ := rf_bindq hf
          refine rf_Vi (As := []) (rest := []) (wr := [(a_this_s, .inl (cA, 22, .inl yf_this_s)), (a_this_read, .inl (cA, 22, .inl yf_this_read)), (a_this_numbers, .inl (cA, 2, .inl yf_this_numbers))]) (wn := [(a_this, .inr (3, rf_o3 a_this_s a_this_image a_this_read a_this_mind a_this_letters a_this_row a_this_refused a_this_numbers a_this_cost yg_this)), (a_this_s, .inl (cA, 22, .inl yf_this_s)), (a_this_read, .inl (cA, 22, .inl yf_this_read)), (a_this_letters, .inl (cA, 96, .inl f_this_letters)), (a_this_numbers, .inl (cA, 2, .inl yf_this_numbers))]) ⟨hx, hb, hml, hown, hts⟩ hK hP hD hS hA hE (c_X3_here l D cA ad a_this a_this_s a_this_image a_this_read a_this_mind a_this_letters a_this_row a_this_refused a_this_numbers a_this_cost H.size yg_this f_this_letters q13 hq13) (cwV 0 hts gX3_hand_X3_here rfl rfl rfl hv_X3_here ⟨Nat.le_of_ble_eq_true rfl, Nat.le_of_ble_eq_true rfl⟩) [0, 3] [1, 2, 4] [3, 0, 1, 4, 2] rfl rfl rfl rfl (by decide) rfl rfl 3 0 rfl rfl rfl rfl rfl hl.1 (Nat.le_of_ble_eq_true rfl) dX3_hand_85 ⟨Nat.zero_le _, Nat.zero_le _⟩ (fun H locs hP hD hS => ?_)
          refine lv_istore (lv' := [(4, .int q13), (3, .int v12), (0, .ref a_this), (1, .int x1), (2, .int x2)]) hx hb dX3_hand_88 hl (by decide) rfl (fun ls hl => ?_)
          refine lv_aload_n hx hb dX3_hand_90 rfl (lv_at hl 2 rfl) ?_
          obtain ⟨q14, hq14, hf⟩ := rf_bindq hf
          refine rf_Vi (As := []) (rest := []) (wr := [(a_this_s, .inl (cA, 22, .inl yf_this_s)), (a_this_read, .inl (cA, 22, .inl yf_this_read))]) (wn := [(a_this, .inr (3, rf_o3 a_this_s a_this_image a_this_read a_this_mind a_this_letters a_this_row a_this_refused a_this_numbers a_this_cost q14.2.1)), (a_this_s, .inl (cA, 22, .inl yf_this_s)), (a_this_read, .inl (cA, 22, .inl yf_this_read)), (a_this_letters, .inl (cA, 96, .inl f_this_letters)), (a_this_numbers, .inl (cA, 2, .inl q14.2.2))]) ⟨hx, hb, hml, hown, hts⟩ hK hP hD hS hA hE (c_X3_readsStatement l D cA ad a_this a_this_s a_this_image a_this_read a_this_mind a_this_letters a_this_row a_this_refused a_this_numbers a_this_cost H.size yg_this f_this_letters yf_this_numbers q14 hq14) (cwV 0 hts gX3_hand_X3_readsStatement rfl rfl rfl hv_X3_readsStatement ⟨Nat.le_of_ble_eq_true rfl, Nat.le_of_ble_eq_true rfl⟩) [0, 3, 4] [1, 2] [2, 0, 1, 3, 4] rfl rfl rfl rfl (by decide) rfl rfl 3 0 rfl rfl rfl rfl rfl hl.1 (Nat.le_of_ble_eq_true rfl) dX3_hand_91 ⟨Nat.zero_le _, Nat.zero_le _⟩ (fun H locs hP hD hS => ?_)
          refine lv_istore (lv' := [(5, .int q14.1), (4, .int q13), (3, .int v12), (0, .ref a_this), (1, .int x1), (2, .int x2)]) hx hb dX3_hand_94 hl (by decide) rfl (fun ls hl => ?_)
          refine lv_aload_n hx hb dX3_hand_96 rfl (lv_at hl 3 rfl) ?_
          refine lv_iload hx hb dX3_hand_97 (lv_at hl 1 rfl) ?_
          obtain ⟨q15, hq15, hf⟩ := rf_bindq hf
          refine rf_Vi (As := [.int q13]) (rest := []) (wr := [(a_this_read, .inl (cA, 22, .inl yf_this_read)), (a_this_letters, .inl (cA, 96, .inl f_this_letters))]) (wn := [(a_this, .inr (3, rf_o3 a_this_s a_this_image a_this_read a_this_mind a_this_letters a_this_row a_this_refused a_this_numbers a_this_cost q14.2.1)), (a_this_s, .inl (cA, 22, .inl q15.2)), (a_this_read, .inl (cA, 22, .inl yf_this_read)), (a_this_letters, .inl (cA, 96, .inl f_this_letters)), (a_this_numbers, .inl (cA, 2, .inl q14.2.2))]) ⟨hx, hb, hml, hown, hts⟩ hK hP hD hS hA hE (c_X3_comes l D cA ad a_this a_this_s a_this_image a_this_read a_this_mind a_this_letters a_this_row a_this_refused a_this_numbers a_this_cost H.size q14.2.1 yf_this_s q14.2.2 q13 q15 hq15) (cwV 1 hts gX3_hand_X3_comes rfl rfl rfl hv_X3_comes ⟨Nat.le_of_ble_eq_true rfl, Nat.le_of_ble_eq_true rfl⟩) [0, 1, 4] [2, 3] [2, 3, 0, 1, 4] rfl rfl rfl rfl (by decide) rfl rfl 3 0 rfl rfl rfl rfl rfl hl.1 (Nat.le_of_ble_eq_true rfl) dX3_hand_99 ⟨Nat.zero_le _, Nat.zero_le _⟩ (fun H locs hP hD hS => ?_)
          refine lv_if_eq (tgt := 108) hx hb dX3_hand_102 (by decide) (fun c16 => ?_) (fun c16 => ?_)
          · have hf := rf_ifp hf c16
            refine lv_sipush (v := (-2000)) hx hb dX3_hand_108 (by decide) ?_
            refine lv_iload_n hx hb dX3_hand_111 rfl (lv_at hl 2 rfl) ?_
            refine lv_isub hx hb dX3_hand_112 ?_
            refine lv_topi (fun v17 ev17 => ?_)
            have hf := rf_bindv hf ev17
            clear ev17
            refine lv_istore_n (lv' := [(2, .int v17), (5, .int q14.1), (4, .int q13), (3, .int v12), (0, .ref a_this), (1, .int x1)]) hx hb dX3_hand_113 rfl hl (by decide) rfl (fun ls hl => ?_)
            refine lv_aload_n hx hb dX3_hand_114 rfl (lv_at hl 4 rfl) ?_
            refine va_get (D := D) (ci := 3) (v := .ref a_this_read) (C := RX3) (T := TX3) (N := 16) hx hb hts jX3_hand_X3 hown hK hP 0 rfl rfl 2 (by decide) (hts _ kX3_hand_2) (fun _ h9 => h9) rfl dX3_hand_115 ?_
            refine lv_aload_n hx hb dX3_hand_118 rfl (lv_at hl 4 rfl) ?_
            refine va_get (D := D) (ci := 3) (v := .ref a_this_s) (C := RX3) (T := TX3) (N := 16) hx hb hts jX3_hand_X3 hown hK hP 0 rfl rfl 0 (by decide) (hts _ kX3_hand_3) (fun _ h9 => h9) rfl dX3_hand_119 ?_
            obtain ⟨q18, hq18, hf⟩ := rf_bindq hf
            refine rf_Sv (As := [.ref a_this_read, .ref a_this_s]) (rest := []) (wr := [(a_this, .inr (3, rf_o3 a_this_s a_this_image a_this_read a_this_mind a_this_letters a_this_row a_this_refused a_this_numbers a_this_cost q14.2.1)), (a_this_letters, .inl (cA, 96, .inl f_this_letters)), (a_this_numbers, .inl (cA, 2, .inl q14.2.2))]) (wn := [(a_this, .inr (3, rf_o3 a_this_s a_this_image a_this_read a_this_mind a_this_letters a_this_row a_this_refused a_this_numbers a_this_cost q14.2.1)), (a_this_s, .inl (cA, 22, .inl q18)), (a_this_read, .inl (cA, 22, .inl yf_this_read)), (a_this_letters, .inl (cA, 96, .inl f_this_letters)), (a_this_numbers, .inl (cA, 2, .inl q14.2.2))]) ⟨hx, hb, hml, hown, hts⟩ hK hP hD hS hA hE (c_X3_lays l D cA ad a_this_read a_this_s H.size 22 22 yf_this_read q15.2 q18 hq18) (va_cwS 2 hts gX3_hand_X3_lays rfl rfl rfl hs_X3_lays ⟨Nat.le_of_ble_eq_true rfl, Nat.le_of_ble_eq_true rfl⟩) [2, 1] [0, 3, 4] [0, 4, 3, 1, 2] rfl rfl rfl rfl (by decide) rfl rfl rfl rfl hl.1 (Nat.le_of_ble_eq_true rfl) dX3_hand_122 ⟨Nat.zero_le _, Nat.zero_le _⟩ (fun H locs hP hD hS => ?_)
            refine lv_goto (tgt := 62) hx hb dX3_hand_125 (by decide) ?_
            exact ih v17 q14.2.1 q18 q14.2.2 ql hf _ _ _ hP hD hS (lv_sub hl [4, 5, 0] rfl) kx
          · have hf := rf_ifn hf c16
            refine lv_goto (tgt := 62) hx hb dX3_hand_105 (by decide) ?_
            exact ih x2 q14.2.1 q15.2 q14.2.2 ql hf _ _ _ hP hD hS (lv_sub hl [3, 4, 5] rfl) kx
  rw [f_X3_hand] at hf
  refine lv_aload_n hx hb dX3_hand_0 rfl (lv_at hl 0 rfl) ?_
  refine lv_iconst (v := 0) hx hb dX3_hand_1 (by decide) ?_
  refine va_put (D := D) (ci := 3) (v := .int 0) (ty := .int) (C := RX3) (T := TX3) (N := 16) hx hb hts jX3_hand_X3 tyX3 tyX3_ok nmX3 hown hK hP hD hS 0 rfl rfl 10 (by decide) (hts _ kX3_hand_0) (fun _ h9 => h9) rfl (by decide +kernel) rfl rfl (Nat.le_of_ble_eq_true rfl) dX3_hand_2 (fun H locs hP hD hS => ?_)
  have hP : va_P D vwCl [(a_this, .inr (3, rf_o3 a_this_s a_this_image a_this_read a_this_mind a_this_letters a_this_row a_this_refused a_this_numbers a_this_cost (upd g_this 3 0))), (a_this_s, .inl (cA, 22, .inl f_this_s)), (a_this_read, .inl (cA, 22, .inl f_this_read)), (a_this_letters, .inl (cA, 96, .inl f_this_letters)), (a_this_numbers, .inl (cA, 2, .inl f_this_numbers))] H := hP
  have hD : va_D A [(a_this, .inr (3, rf_o3 a_this_s a_this_image a_this_read a_this_mind a_this_letters a_this_row a_this_refused a_this_numbers a_this_cost (upd g_this 3 0))), (a_this_s, .inl (cA, 22, .inl f_this_s)), (a_this_read, .inl (cA, 22, .inl f_this_read)), (a_this_letters, .inl (cA, 96, .inl f_this_letters)), (a_this_numbers, .inl (cA, 2, .inl f_this_numbers))] := hD
  refine lv_iconst (v := 0) hx hb dX3_hand_5 (by decide) ?_
  refine lv_istore_n (lv' := [(1, .int 0), (0, .ref a_this)]) hx hb dX3_hand_6 rfl hl (by decide) rfl (fun ls hl => ?_)
  refine lv_bipush (v := (-9)) hx hb dX3_hand_7 (by decide) ?_
  refine lv_istore_n (lv' := [(2, .int (-9)), (1, .int 0), (0, .ref a_this)]) hx hb dX3_hand_9 rfl hl (by decide) rfl (fun ls hl => ?_)
  obtain ⟨q19, hq19, hf⟩ := rf_bindq hf
  refine key_10 f_this_s f_this_read rf_fu 0 (-9) (upd g_this 3 0) f_this_numbers q19 hq19 _ _ _ hP hD hS (lv_sub hl [2, 1, 0] rfl) (fun H locs ls hP hD hS hl => ?_)
  refine lv_aload_n hx hb dX3_hand_46 rfl (lv_at hl 0 rfl) ?_
  refine va_get (D := D) (ci := 3) (v := .ref a_this_s) (C := RX3) (T := TX3) (N := 16) hx hb hts jX3_hand_X3 hown hK hP 0 rfl rfl 0 (by decide) (hts _ kX3_hand_3) (fun _ h9 => h9) rfl dX3_hand_47 ?_
  refine lv_aload_n hx hb dX3_hand_50 rfl (lv_at hl 0 rfl) ?_
  refine va_get (D := D) (ci := 3) (v := .ref a_this_read) (C := RX3) (T := TX3) (N := 16) hx hb hts jX3_hand_X3 hown hK hP 0 rfl rfl 2 (by decide) (hts _ kX3_hand_2) (fun _ h9 => h9) rfl dX3_hand_51 ?_
  obtain ⟨q20, hq20, hf⟩ := rf_bindq hf
  refine rf_Sv (As := [.ref a_this_s, .ref a_this_read]) (rest := []) (wr := [(a_this, .inr (3, rf_o3 a_this_s a_this_image a_this_read a_this_mind a_this_letters a_this_row a_this_refused a_this_numbers a_this_cost q19.2.2.1)), (a_this_letters, .inl (cA, 96, .inl f_this_letters)), (a_this_numbers, .inl (cA, 2, .inl q19.2.2.2))]) (wn := [(a_this, .inr (3, rf_o3 a_this_s a_this_image a_this_read a_this_mind a_this_letters a_this_row a_this_refused a_this_numbers a_this_cost q19.2.2.1)), (a_this_s, .inl (cA, 22, .inl f_this_s)), (a_this_read, .inl (cA, 22, .inl q20)), (a_this_letters, .inl (cA, 96, .inl f_this_letters)), (a_this_numbers, .inl (cA, 2, .inl q19.2.2.2))]) ⟨hx, hb, hml, hown, hts⟩ hK hP hD hS hA hE (c_X3_lays l D cA ad a_this_s a_this_read H.size 22 22 f_this_s f_this_read q20 hq20) (va_cwS 2 hts gX3_hand_X3_lays rfl rfl rfl hs_X3_lays ⟨Nat.le_of_ble_eq_true rfl, Nat.le_of_ble_eq_true rfl⟩) [1, 2] [0, 3, 4] [0, 3, 4, 1, 2] rfl rfl rfl rfl (by decide) rfl rfl rfl rfl hl.1 (Nat.le_of_ble_eq_true rfl) dX3_hand_54 ⟨Nat.zero_le _, Nat.zero_le _⟩ (fun H locs hP hD hS => ?_)
  refine lv_aload_n hx hb dX3_hand_57 rfl (lv_at hl 0 rfl) ?_
  refine lv_iconst (v := 0) hx hb dX3_hand_58 (by decide) ?_
  refine va_put (D := D) (ci := 3) (v := .int 0) (ty := .int) (C := RX3) (T := TX3) (N := 16) hx hb hts jX3_hand_X3 tyX3 tyX3_ok nmX3 hown hK hP hD hS 0 rfl rfl 10 (by decide) (hts _ kX3_hand_0) (fun _ h9 => h9) rfl (by decide +kernel) rfl rfl (Nat.le_of_ble_eq_true rfl) dX3_hand_59 (fun H locs hP hD hS => ?_)
  have hP : va_P D vwCl [(a_this, .inr (3, rf_o3 a_this_s a_this_image a_this_read a_this_mind a_this_letters a_this_row a_this_refused a_this_numbers a_this_cost (upd q19.2.2.1 3 0))), (a_this_s, .inl (cA, 22, .inl f_this_s)), (a_this_read, .inl (cA, 22, .inl q20)), (a_this_letters, .inl (cA, 96, .inl f_this_letters)), (a_this_numbers, .inl (cA, 2, .inl q19.2.2.2))] H := hP
  have hD : va_D A [(a_this, .inr (3, rf_o3 a_this_s a_this_image a_this_read a_this_mind a_this_letters a_this_row a_this_refused a_this_numbers a_this_cost (upd q19.2.2.1 3 0))), (a_this_s, .inl (cA, 22, .inl f_this_s)), (a_this_read, .inl (cA, 22, .inl q20)), (a_this_letters, .inl (cA, 96, .inl f_this_letters)), (a_this_numbers, .inl (cA, 2, .inl q19.2.2.2))] := hD
  obtain ⟨q21, hq21, hf⟩ := rf_bindq hf
  refine key_62 q19.1 q20 rf_fu q19.2.1 (upd q19.2.2.1 3 0) f_this_s q19.2.2.2 q21 hq21 _ _ _ hP hD hS (lv_sub hl [0, 1, 2] rfl) (fun H locs ls hP hD hS hl => ?_)
  refine lv_aload_n hx hb dX3_hand_128 rfl (lv_at hl 0 rfl) ?_
  refine lv_iconst (v := 0) hx hb dX3_hand_129 (by decide) ?_
  refine va_put (D := D) (ci := 3) (v := .int 0) (ty := .int) (C := RX3) (T := TX3) (N := 16) hx hb hts jX3_hand_X3 tyX3 tyX3_ok nmX3 hown hK hP hD hS 0 rfl rfl 8 (by decide) (hts _ kX3_hand_1) (fun _ h9 => h9) rfl (by decide +kernel) rfl rfl (Nat.le_of_ble_eq_true rfl) dX3_hand_130 (fun H locs hP hD hS => ?_)
  have hP : va_P D vwCl [(a_this, .inr (3, rf_o3 a_this_s a_this_image a_this_read a_this_mind a_this_letters a_this_row a_this_refused a_this_numbers a_this_cost (upd q21.2.1 1 0))), (a_this_s, .inl (cA, 22, .inl q21.2.2.1)), (a_this_read, .inl (cA, 22, .inl q20)), (a_this_letters, .inl (cA, 96, .inl f_this_letters)), (a_this_numbers, .inl (cA, 2, .inl q21.2.2.2))] H := hP
  have hD : va_D A [(a_this, .inr (3, rf_o3 a_this_s a_this_image a_this_read a_this_mind a_this_letters a_this_row a_this_refused a_this_numbers a_this_cost (upd q21.2.1 1 0))), (a_this_s, .inl (cA, 22, .inl q21.2.2.1)), (a_this_read, .inl (cA, 22, .inl q20)), (a_this_letters, .inl (cA, 96, .inl f_this_letters)), (a_this_numbers, .inl (cA, 2, .inl q21.2.2.2))] := hD
  refine lv_iload_n hx hb dX3_hand_133 rfl (lv_at hl 2 rfl) ?_
  refine lv_bipush (v := (-9)) hx hb dX3_hand_134 (by decide) ?_
  refine lv_icmp_ne (tgt := 143) hx hb dX3_hand_136 (by decide) (fun c22 => ?_) (fun c22 => ?_)
  · have hf := rf_ifn hf c22
    refine lv_iload_n hx hb dX3_hand_143 rfl (lv_at hl 2 rfl) ?_
    obtain rfl := Option.some.inj hf
    exact W.iret (v := q21.1) hx hb hr (fun t ht hW => ⟨⟨q21.1, (), rfl, rfl, rf_mk ht hP hD⟩, hS.F ht⟩) hS.2.2 dX3_hand_144
  · have hf := rf_ifp hf c22
    refine lv_iload_n hx hb dX3_hand_139 rfl (lv_at hl 1 rfl) ?_
    refine lv_goto (tgt := 144) hx hb dX3_hand_140 (by decide) ?_
    obtain rfl := Option.some.inj hf
    exact W.iret (v := q19.1) hx hb hr (fun t ht hW => ⟨⟨q19.1, (), rfl, rfl, rf_mk ht hP hD⟩, hS.F ht⟩) hS.2.2 dX3_hand_144
theorem kX3_part_0 : (.fieldLink RX3 9 "RingAndFingerModel" "s" "[I" : Cond) ∈ wsX3_part := by decide +kernel
theorem jX3_part_X3 : ∀ w ∈ u_ws RX3 TX3 16, w ∈ wsX3_part := by decide +kernel
set_option maxHeartbeats 8000000 in
set_option maxRecDepth 100000 in
theorem c_X3_part (l : Launch) (D : va_G) (cA : ClassId) (ad : Nat → Nat) (a_this a_this_s a_this_image a_this_read a_this_mind a_this_letters a_this_row a_this_refused a_this_numbers a_this_cost : Nat) (sz : Nat) (g_this f_this_s f_this_refused : Nat → Int32) (p1 p2 : Int32) (q : Int32 × (Nat → Int32)) (hf : f_X3_part g_this f_this_s f_this_refused p1 p2 = some q) : Met l yX3_part wsX3_part ({ frames := 4, cells := 0, slots := 0, locals := 92 } : Room) (va_Pc [.ref a_this, .int p1, .int p2] (rf_Pre D cA ad [(a_this, .inr (3, rf_o3 a_this_s a_this_image a_this_read a_this_mind a_this_letters a_this_row a_this_refused a_this_numbers a_this_cost g_this)), (a_this_s, .inl (cA, 22, .inl f_this_s)), (a_this_refused, .inl (cA, 7, .inl f_this_refused))] sz)) (va_Qi (fun (r : Int32) (_ : Unit) => r = q.1) (fun _ t => rf_Post D (va_A [(a_this, .inr (3, rf_o3 a_this_s a_this_image a_this_read a_this_mind a_this_letters a_this_row a_this_refused a_this_numbers a_this_cost g_this)), (a_this_s, .inl (cA, 22, .inl f_this_s)), (a_this_refused, .inl (cA, 7, .inl f_this_refused))] sz) [(a_this, .inr (3, rf_o3 a_this_s a_this_image a_this_read a_this_mind a_this_letters a_this_row a_this_refused a_this_numbers a_this_cost g_this)), (a_this_s, .inl (cA, 22, .inl f_this_s)), (a_this_refused, .inl (cA, 7, .inl q.2))] t) (va_A [(a_this, .inr (3, rf_o3 a_this_s a_this_image a_this_read a_this_mind a_this_letters a_this_row a_this_refused a_this_numbers a_this_cost g_this)), (a_this_s, .inl (cA, 22, .inl f_this_s)), (a_this_refused, .inl (cA, 7, .inl f_this_refused))] sz)) 0 0 (va_A [(a_this, .inr (3, rf_o3 a_this_s a_this_image a_this_read a_this_mind a_this_letters a_this_row a_this_refused a_this_numbers a_this_cost g_this)), (a_this_s, .inl (cA, 22, .inl f_this_s)), (a_this_refused, .inl (cA, 7, .inl f_this_refused))] sz) := by
  refine Met.ofW (cc := cX3_part) (maxL := 3) (ret := (some .int)) (by decide) rfl ?_
  intro p e s m args below meth c s₁ B hml hv
  obtain ⟨rfl, hsz, hP, hK, hD0, hE⟩ := hv
  have hx := B.exec
  have hb := B.bytes
  have hr := B.returns
  have hts := atoms_spec (ws := wsX3_part) B.pre
  have hown : s.vm.findClass RX3 = some m.cls := findClass_of_methodNamed B.named
  have hlocks := B.notSynchronized
  subst hsz
  have hD := hD0.self (sz := s.heap.size)
  generalize hAe : va_A [(a_this, .inr (3, rf_o3 a_this_s a_this_image a_this_read a_this_mind a_this_letters a_this_row a_this_refused a_this_numbers a_this_cost g_this)), (a_this_s, .inl (cA, 22, .inl f_this_s)), (a_this_refused, .inl (cA, 7, .inl f_this_refused))] s.heap.size = A at hD hE ⊢
  have hA : ∀ q : Nat, s.heap.size ≤ q → A q := fun q h => by rw [← hAe]; exact Or.inr h
  have hS : va_S A s.heap s.heap [] := va_S.rf
  have hP : va_P D vwCl [(a_this, .inr (3, rf_o3 a_this_s a_this_image a_this_read a_this_mind a_this_letters a_this_row a_this_refused a_this_numbers a_this_cost g_this)), (a_this_s, .inl (cA, 22, .inl f_this_s)), (a_this_refused, .inl (cA, 7, .inl f_this_refused))] s.heap := hP
  have hl := lv_entry ([.ref a_this, .int p1, .int p2]) (n := 3) (Nat.le_of_ble_eq_true rfl)
  rw [lg_entry_eq]
  generalize (lg_sl ([.ref a_this, .int p1, .int p2]) ++ List.replicate (3 - (lg_sl ([.ref a_this, .int p1, .int p2])).length) Slot.unset).toArray = ls at hl ⊢
  have hl : lv_has ls 3 [(0, .ref a_this), (1, .int p1), (2, .int p2)] := hl
  rw [f_X3_part] at hf
  refine lv_iload_n hx hb dX3_part_0 rfl (lv_at hl 1 rfl) ?_
  refine lv_iconst (v := 0) hx hb dX3_part_1 (by decide) ?_
  refine lv_aload_n hx hb dX3_part_2 rfl (lv_at hl 0 rfl) ?_
  refine va_get (D := D) (ci := 3) (v := .ref a_this_s) (C := RX3) (T := TX3) (N := 16) hx hb hts jX3_part_X3 hown hK hP 0 rfl rfl 0 (by decide) (hts _ kX3_part_0) (fun _ h9 => h9) rfl dX3_part_3 ?_
  refine lv_iconst (v := 0) hx hb dX3_part_6 (by decide) ?_
  refine rf_ialoadk hx hb hK hP 1 0 rfl rfl (k := 0) (by decide) (by decide) (by decide) dX3_part_7 ?_
  refine lv_iconst (v := 1) hx hb dX3_part_8 (by decide) ?_
  refine lv_isub hx hb dX3_part_9 ?_
  obtain ⟨q1, hq1, hf⟩ := rf_bindq hf
  refine rf_Si (As := [.int p1, .int 0, .int ((f_this_s 0) - 1)]) (rest := []) (wr := [(a_this, .inr (3, rf_o3 a_this_s a_this_image a_this_read a_this_mind a_this_letters a_this_row a_this_refused a_this_numbers a_this_cost g_this)), (a_this_s, .inl (cA, 22, .inl f_this_s)), (a_this_refused, .inl (cA, 7, .inl f_this_refused))]) (wn := [(a_this, .inr (3, rf_o3 a_this_s a_this_image a_this_read a_this_mind a_this_letters a_this_row a_this_refused a_this_numbers a_this_cost g_this)), (a_this_s, .inl (cA, 22, .inl f_this_s)), (a_this_refused, .inl (cA, 7, .inl f_this_refused))]) ⟨hx, hb, hml, hown, hts⟩ hK hP hD hS hA hE (c_X3_isIn l D cA ad s.heap.size p1 0 ((f_this_s 0) - 1) q1 hq1) (va_cwS 3 hts gX3_part_X3_isIn rfl rfl rfl hs_X3_isIn ⟨Nat.le_of_ble_eq_true rfl, Nat.le_of_ble_eq_true rfl⟩) [] [0, 1, 2] [0, 1, 2] rfl rfl rfl rfl (by decide) rfl rfl rfl rfl hl.1 (Nat.le_of_ble_eq_true rfl) dX3_part_10 ⟨Nat.zero_le _, Nat.zero_le _⟩ (fun H locs hP hD hS => ?_)
  refine lv_if_ne (tgt := 22) hx hb dX3_part_13 (by decide) (fun c2 => ?_) (fun c2 => ?_)
  · have hf := rf_ifn hf c2
    refine lv_iload_n hx hb dX3_part_22 rfl (lv_at hl 2 rfl) ?_
    refine lv_if_ne (tgt := 38) hx hb dX3_part_23 (by decide) (fun c3 => ?_) (fun c3 => ?_)
    · have hf := rf_ifn hf c3
      refine lv_iload_n hx hb dX3_part_38 rfl (lv_at hl 2 rfl) ?_
      refine lv_iconst (v := 1) hx hb dX3_part_39 (by decide) ?_
      refine lv_icmp_ne (tgt := 55) hx hb dX3_part_40 (by decide) (fun c4 => ?_) (fun c4 => ?_)
      · have hf := rf_ifn hf c4
        refine lv_iload_n hx hb dX3_part_55 rfl (lv_at hl 2 rfl) ?_
        refine lv_iconst (v := 2) hx hb dX3_part_56 (by decide) ?_
        refine lv_icmp_ne (tgt := 68) hx hb dX3_part_57 (by decide) (fun c5 => ?_) (fun c5 => ?_)
        · have hf := rf_ifn hf c5
          refine lv_aload_n hx hb dX3_part_68 rfl (lv_at hl 0 rfl) ?_
          refine lv_bipush (v := (-2)) hx hb dX3_part_69 (by decide) ?_
          obtain ⟨q6, hq6, hf⟩ := rf_bindq hf
          refine rf_Vi (As := [.int (-2)]) (rest := []) (wr := [(a_this_s, .inl (cA, 22, .inl f_this_s))]) (wn := [(a_this, .inr (3, rf_o3 a_this_s a_this_image a_this_read a_this_mind a_this_letters a_this_row a_this_refused a_this_numbers a_this_cost g_this)), (a_this_s, .inl (cA, 22, .inl f_this_s)), (a_this_refused, .inl (cA, 7, .inl q6.2))]) ⟨hx, hb, hml, hown, hts⟩ hK hP hD hS hA hE (c_X3_no l D cA ad a_this a_this_s a_this_image a_this_read a_this_mind a_this_letters a_this_row a_this_refused a_this_numbers a_this_cost H.size g_this f_this_refused (-2) q6 hq6) (cwV 1 hts gX3_part_X3_no rfl rfl rfl hv_X3_no ⟨Nat.le_of_ble_eq_true rfl, Nat.le_of_ble_eq_true rfl⟩) [0, 2] [1] [1, 0, 2] rfl rfl rfl rfl (by decide) rfl rfl 3 0 rfl rfl rfl rfl rfl hl.1 (Nat.le_of_ble_eq_true rfl) dX3_part_71 ⟨Nat.zero_le _, Nat.zero_le _⟩ (fun H locs hP hD hS => ?_)
          obtain rfl := Option.some.inj hf
          exact W.iret (v := q6.1) hx hb hr (fun t ht hW => ⟨⟨q6.1, (), rfl, rfl, rf_mk ht hP hD⟩, hS.F ht⟩) hS.2.2 dX3_part_74
        · have hf := rf_ifp hf c5
          refine lv_aload_n hx hb dX3_part_60 rfl (lv_at hl 0 rfl) ?_
          refine lv_iload_n hx hb dX3_part_61 rfl (lv_at hl 1 rfl) ?_
          obtain ⟨q7, hq7, hf⟩ := rf_bindq hf
          refine rf_Vi (As := [.int p1]) (rest := []) (wr := [(a_this_refused, .inl (cA, 7, .inl f_this_refused))]) (wn := [(a_this, .inr (3, rf_o3 a_this_s a_this_image a_this_read a_this_mind a_this_letters a_this_row a_this_refused a_this_numbers a_this_cost g_this)), (a_this_s, .inl (cA, 22, .inl f_this_s)), (a_this_refused, .inl (cA, 7, .inl f_this_refused))]) ⟨hx, hb, hml, hown, hts⟩ hK hP hD hS hA hE (c_X3_nowOf l D cA ad a_this a_this_s a_this_image a_this_read a_this_mind a_this_letters a_this_row a_this_refused a_this_numbers a_this_cost H.size g_this f_this_s p1 q7 hq7) (cwV 1 hts gX3_part_X3_nowOf rfl rfl rfl hv_X3_nowOf ⟨Nat.le_of_ble_eq_true rfl, Nat.le_of_ble_eq_true rfl⟩) [0, 1] [2] [1, 2, 0] rfl rfl rfl rfl (by decide) rfl rfl 3 0 rfl rfl rfl rfl rfl hl.1 (Nat.le_of_ble_eq_true rfl) dX3_part_62 ⟨Nat.zero_le _, Nat.zero_le _⟩ (fun H locs hP hD hS => ?_)
          refine lv_goto (tgt := 74) hx hb dX3_part_65 (by decide) ?_
          obtain rfl := Option.some.inj hf
          exact W.iret (v := q7) hx hb hr (fun t ht hW => ⟨⟨q7, (), rfl, rfl, rf_mk ht hP hD⟩, hS.F ht⟩) hS.2.2 dX3_part_74
      · have hf := rf_ifp hf c4
        refine lv_aload_n hx hb dX3_part_43 rfl (lv_at hl 0 rfl) ?_
        refine va_get (D := D) (ci := 3) (v := .ref a_this_s) (C := RX3) (T := TX3) (N := 16) hx hb hts jX3_part_X3 hown hK hP 0 rfl rfl 0 (by decide) (hts _ kX3_part_0) (fun _ h9 => h9) rfl dX3_part_44 ?_
        refine lv_bipush (v := 16) hx hb dX3_part_47 (by decide) ?_
        refine lv_iload_n hx hb dX3_part_49 rfl (lv_at hl 1 rfl) ?_
        refine lv_iadd hx hb dX3_part_50 ?_
        obtain ⟨c8, hf⟩ := rf_chk hf
        refine va_iald hx hb hK hP 1 0 rfl rfl c8 dX3_part_51 ?_
        refine lv_goto (tgt := 74) hx hb dX3_part_52 (by decide) ?_
        obtain rfl := Option.some.inj hf
        exact W.iret (v := (f_this_s ((16 + p1).toNatClampNeg))) hx hb hr (fun t ht hW => ⟨⟨(f_this_s ((16 + p1).toNatClampNeg)), (), rfl, rfl, rf_mk ht hP hD⟩, hS.F ht⟩) hS.2.2 dX3_part_74
    · have hf := rf_ifp hf c3
      refine lv_aload_n hx hb dX3_part_26 rfl (lv_at hl 0 rfl) ?_
      refine va_get (D := D) (ci := 3) (v := .ref a_this_s) (C := RX3) (T := TX3) (N := 16) hx hb hts jX3_part_X3 hown hK hP 0 rfl rfl 0 (by decide) (hts _ kX3_part_0) (fun _ h9 => h9) rfl dX3_part_27 ?_
      refine lv_bipush (v := 10) hx hb dX3_part_30 (by decide) ?_
      refine lv_iload_n hx hb dX3_part_32 rfl (lv_at hl 1 rfl) ?_
      refine lv_iadd hx hb dX3_part_33 ?_
      obtain ⟨c9, hf⟩ := rf_chk hf
      refine va_iald hx hb hK hP 1 0 rfl rfl c9 dX3_part_34 ?_
      refine lv_goto (tgt := 74) hx hb dX3_part_35 (by decide) ?_
      obtain rfl := Option.some.inj hf
      exact W.iret (v := (f_this_s ((10 + p1).toNatClampNeg))) hx hb hr (fun t ht hW => ⟨⟨(f_this_s ((10 + p1).toNatClampNeg)), (), rfl, rfl, rf_mk ht hP hD⟩, hS.F ht⟩) hS.2.2 dX3_part_74
  · have hf := rf_ifp hf c2
    refine lv_aload_n hx hb dX3_part_16 rfl (lv_at hl 0 rfl) ?_
    refine lv_iconst (v := (-1)) hx hb dX3_part_17 (by decide) ?_
    obtain ⟨q10, hq10, hf⟩ := rf_bindq hf
    refine rf_Vi (As := [.int (-1)]) (rest := []) (wr := [(a_this_s, .inl (cA, 22, .inl f_this_s))]) (wn := [(a_this, .inr (3, rf_o3 a_this_s a_this_image a_this_read a_this_mind a_this_letters a_this_row a_this_refused a_this_numbers a_this_cost g_this)), (a_this_s, .inl (cA, 22, .inl f_this_s)), (a_this_refused, .inl (cA, 7, .inl q10.2))]) ⟨hx, hb, hml, hown, hts⟩ hK hP hD hS hA hE (c_X3_no l D cA ad a_this a_this_s a_this_image a_this_read a_this_mind a_this_letters a_this_row a_this_refused a_this_numbers a_this_cost H.size g_this f_this_refused (-1) q10 hq10) (cwV 1 hts gX3_part_X3_no rfl rfl rfl hv_X3_no ⟨Nat.le_of_ble_eq_true rfl, Nat.le_of_ble_eq_true rfl⟩) [0, 2] [1] [1, 0, 2] rfl rfl rfl rfl (by decide) rfl rfl 3 0 rfl rfl rfl rfl rfl hl.1 (Nat.le_of_ble_eq_true rfl) dX3_part_18 ⟨Nat.zero_le _, Nat.zero_le _⟩ (fun H locs hP hD hS => ?_)
    obtain rfl := Option.some.inj hf
    exact W.iret (v := q10.1) hx hb hr (fun t ht hW => ⟨⟨q10.1, (), rfl, rfl, rf_mk ht hP hD⟩, hS.F ht⟩) hS.2.2 dX3_part_21

set_option maxHeartbeats 8000000 in
set_option maxRecDepth 100000 in
theorem c_X3_placeOf (l : Launch) (D : va_G) (cA : ClassId) (ad : Nat → Nat) (sz : Nat) (p0 : Int32) (q : Int32) (hf : f_X3_placeOf p0 = some q) : Met l yX3_placeOf wsX3_placeOf ({ frames := 0, cells := 0, slots := 0, locals := 0 } : Room) (va_Pc [.int p0] (rf_Pre D cA ad [] sz)) (va_Qi (fun (r : Int32) (_ : Unit) => r = q) (fun _ t => rf_Post D (va_A [] sz) [] t) (va_A [] sz)) 0 0 (va_A [] sz) := by
  refine Met.ofW (cc := cX3_placeOf) (maxL := 1) (ret := (some .int)) (by decide) rfl ?_
  intro p e s m args below meth c s₁ B hml hv
  obtain ⟨rfl, hsz, hP, hK, hD0, hE⟩ := hv
  have hx := B.exec
  have hb := B.bytes
  have hr := B.returns
  have hts := atoms_spec (ws := wsX3_placeOf) B.pre
  have hown : s.vm.findClass RX3 = some m.cls := findClass_of_methodNamed B.named
  have hlocks := B.notSynchronized
  subst hsz
  have hD := hD0.self (sz := s.heap.size)
  generalize hAe : va_A [] s.heap.size = A at hD hE ⊢
  have hA : ∀ q : Nat, s.heap.size ≤ q → A q := fun q h => by rw [← hAe]; exact Or.inr h
  have hS : va_S A s.heap s.heap [] := va_S.rf
  have hP : va_P D vwCl [] s.heap := hP
  have hl := lv_entry ([.int p0]) (n := 1) (Nat.le_of_ble_eq_true rfl)
  rw [lg_entry_eq]
  generalize (lg_sl ([.int p0]) ++ List.replicate (1 - (lg_sl ([.int p0])).length) Slot.unset).toArray = ls at hl ⊢
  have hl : lv_has ls 1 [(0, .int p0)] := hl
  rw [f_X3_placeOf] at hf
  refine lv_iload_n hx hb dX3_placeOf_0 rfl (lv_at hl 0 rfl) ?_
  refine lv_if_ne (tgt := 8) hx hb dX3_placeOf_1 (by decide) (fun c1 => ?_) (fun c1 => ?_)
  · have hf := rf_ifn hf c1
    refine lv_iload_n hx hb dX3_placeOf_8 rfl (lv_at hl 0 rfl) ?_
    refine lv_iconst (v := 1) hx hb dX3_placeOf_9 (by decide) ?_
    refine lv_icmp_ne (tgt := 17) hx hb dX3_placeOf_10 (by decide) (fun c2 => ?_) (fun c2 => ?_)
    · have hf := rf_ifn hf c2
      refine lv_iload_n hx hb dX3_placeOf_17 rfl (lv_at hl 0 rfl) ?_
      refine lv_iconst (v := 2) hx hb dX3_placeOf_18 (by decide) ?_
      refine lv_icmp_ne (tgt := 26) hx hb dX3_placeOf_19 (by decide) (fun c3 => ?_) (fun c3 => ?_)
      · have hf := rf_ifn hf c3
        refine lv_iload_n hx hb dX3_placeOf_26 rfl (lv_at hl 0 rfl) ?_
        refine lv_iconst (v := 3) hx hb dX3_placeOf_27 (by decide) ?_
        refine lv_icmp_ne (tgt := 35) hx hb dX3_placeOf_28 (by decide) (fun c4 => ?_) (fun c4 => ?_)
        · have hf := rf_ifn hf c4
          refine lv_bipush (v := 7) hx hb dX3_placeOf_35 (by decide) ?_
          obtain rfl := Option.some.inj hf
          exact W.iret (v := 7) hx hb hr (fun t ht hW => ⟨⟨7, (), rfl, rfl, rf_mk ht hP hD⟩, hS.F ht⟩) hS.2.2 dX3_placeOf_37
        · have hf := rf_ifp hf c4
          refine lv_iconst (v := 5) hx hb dX3_placeOf_31 (by decide) ?_
          refine lv_goto (tgt := 37) hx hb dX3_placeOf_32 (by decide) ?_
          obtain rfl := Option.some.inj hf
          exact W.iret (v := 5) hx hb hr (fun t ht hW => ⟨⟨5, (), rfl, rfl, rf_mk ht hP hD⟩, hS.F ht⟩) hS.2.2 dX3_placeOf_37
      · have hf := rf_ifp hf c3
        refine lv_iconst (v := 4) hx hb dX3_placeOf_22 (by decide) ?_
        refine lv_goto (tgt := 37) hx hb dX3_placeOf_23 (by decide) ?_
        obtain rfl := Option.some.inj hf
        exact W.iret (v := 4) hx hb hr (fun t ht hW => ⟨⟨4, (), rfl, rfl, rf_mk ht hP hD⟩, hS.F ht⟩) hS.2.2 dX3_placeOf_37
    · have hf := rf_ifp hf c2
      refine lv_iconst (v := 2) hx hb dX3_placeOf_13 (by decide) ?_
      refine lv_goto (tgt := 37) hx hb dX3_placeOf_14 (by decide) ?_
      obtain rfl := Option.some.inj hf
      exact W.iret (v := 2) hx hb hr (fun t ht hW => ⟨⟨2, (), rfl, rfl, rf_mk ht hP hD⟩, hS.F ht⟩) hS.2.2 dX3_placeOf_37
  · have hf := rf_ifp hf c1
    refine lv_iconst (v := 1) hx hb dX3_placeOf_4 (by decide) ?_
    refine lv_goto (tgt := 37) hx hb dX3_placeOf_5 (by decide) ?_
    obtain rfl := Option.some.inj hf
    exact W.iret (v := 1) hx hb hr (fun t ht hW => ⟨⟨1, (), rfl, rfl, rf_mk ht hP hD⟩, hS.F ht⟩) hS.2.2 dX3_placeOf_37
