theorem hv_X3_areTold : yX3_areTold.cls = RX3 ∧ yX3_areTold.cls ≠ "java/lang/invoke/MethodHandle" ∧ yX3_areTold.cls ≠ "java/lang/invoke/VarHandle" ∧ (parseMethodDescriptor yX3_areTold.desc).map (fun d => d.parameters.length) = some 0 := by decide +kernel
theorem hv_X3_drawn : yX3_drawn.cls = RX3 ∧ yX3_drawn.cls ≠ "java/lang/invoke/MethodHandle" ∧ yX3_drawn.cls ≠ "java/lang/invoke/VarHandle" ∧ (parseMethodDescriptor yX3_drawn.desc).map (fun d => d.parameters.length) = some 1 := by decide +kernel
theorem hv_X3_isSo : yX3_isSo.cls = RX3 ∧ yX3_isSo.cls ≠ "java/lang/invoke/MethodHandle" ∧ yX3_isSo.cls ≠ "java/lang/invoke/VarHandle" ∧ (parseMethodDescriptor yX3_isSo.desc).map (fun d => d.parameters.length) = some 1 := by decide +kernel
theorem kX3_isSo_0 : (.fieldLink RX3 161 "RingAndFingerModel" "rowMany" "I" : Cond) ∈ wsX3_isSo := by decide +kernel
theorem kX3_isSo_1 : (.fieldLink RX3 25 "RingAndFingerModel" "row" "[I" : Cond) ∈ wsX3_isSo := by decide +kernel
theorem kX3_isSo_2 : (.fieldLink RX3 9 "RingAndFingerModel" "s" "[I" : Cond) ∈ wsX3_isSo := by decide +kernel
theorem jX3_isSo_X3 : ∀ w ∈ u_ws RX3 TX3 16, w ∈ wsX3_isSo := by decide +kernel
set_option maxHeartbeats 8000000 in
set_option maxRecDepth 100000 in
theorem c_X3_isSo (l : Launch) (D : va_G) (cA : ClassId) (ad : Nat → Nat) (a_this a_this_s a_this_image a_this_read a_this_mind a_this_letters a_this_row a_this_refused a_this_numbers a_this_cost : Nat) (sz : Nat) (g_this f_this_s f_this_row : Nat → Int32) (p1 : Int32) (q : Int32) (hf : f_X3_isSo g_this f_this_s f_this_row p1 = some q) : Met l yX3_isSo wsX3_isSo ({ frames := 2, cells := 0, slots := 0, locals := 47 } : Room) (va_Pc [.ref a_this, .int p1] (rf_Pre D cA ad [(a_this, .inr (3, rf_o3 a_this_s a_this_image a_this_read a_this_mind a_this_letters a_this_row a_this_refused a_this_numbers a_this_cost g_this)), (a_this_s, .inl (cA, 22, .inl f_this_s)), (a_this_row, .inl (cA, 12, .inl f_this_row))] sz)) (va_Qi (fun (r : Int32) (_ : Unit) => r = q) (fun _ t => rf_Post D (va_A [(a_this, .inr (3, rf_o3 a_this_s a_this_image a_this_read a_this_mind a_this_letters a_this_row a_this_refused a_this_numbers a_this_cost g_this)), (a_this_s, .inl (cA, 22, .inl f_this_s)), (a_this_row, .inl (cA, 12, .inl f_this_row))] sz) [(a_this, .inr (3, rf_o3 a_this_s a_this_image a_this_read a_this_mind a_this_letters a_this_row a_this_refused a_this_numbers a_this_cost g_this)), (a_this_s, .inl (cA, 22, .inl f_this_s)), (a_this_row, .inl (cA, 12, .inl f_this_row))] t) (va_A [(a_this, .inr (3, rf_o3 a_this_s a_this_image a_this_read a_this_mind a_this_letters a_this_row a_this_refused a_this_numbers a_this_cost g_this)), (a_this_s, .inl (cA, 22, .inl f_this_s)), (a_this_row, .inl (cA, 12, .inl f_this_row))] sz)) 0 0 (va_A [(a_this, .inr (3, rf_o3 a_this_s a_this_image a_this_read a_this_mind a_this_letters a_this_row a_this_refused a_this_numbers a_this_cost g_this)), (a_this_s, .inl (cA, 22, .inl f_this_s)), (a_this_row, .inl (cA, 12, .inl f_this_row))] sz) := by
  refine Met.ofW (cc := cX3_isSo) (maxL := 7) (ret := (some .boolean)) (by decide) rfl ?_
  intro p e s m args below meth c s₁ B hml hv
  obtain ⟨rfl, hsz, hP, hK, hD0, hE⟩ := hv
  have hx := B.exec
  have hb := B.bytes
  have hr := B.returns
  have hts := atoms_spec (ws := wsX3_isSo) B.pre
  have hown : s.vm.findClass RX3 = some m.cls := findClass_of_methodNamed B.named
  have hlocks := B.notSynchronized
  subst hsz
  have hD := hD0.self (sz := s.heap.size)
  generalize hAe : va_A [(a_this, .inr (3, rf_o3 a_this_s a_this_image a_this_read a_this_mind a_this_letters a_this_row a_this_refused a_this_numbers a_this_cost g_this)), (a_this_s, .inl (cA, 22, .inl f_this_s)), (a_this_row, .inl (cA, 12, .inl f_this_row))] s.heap.size = A at hD hE ⊢
  have hA : ∀ q : Nat, s.heap.size ≤ q → A q := fun q h => by rw [← hAe]; exact Or.inr h
  have hS : va_S A s.heap s.heap [] := va_S.rf
  have hP : va_P D vwCl [(a_this, .inr (3, rf_o3 a_this_s a_this_image a_this_read a_this_mind a_this_letters a_this_row a_this_refused a_this_numbers a_this_cost g_this)), (a_this_s, .inl (cA, 22, .inl f_this_s)), (a_this_row, .inl (cA, 12, .inl f_this_row))] s.heap := hP
  have hl := lv_entry ([.ref a_this, .int p1]) (n := 7) (Nat.le_of_ble_eq_true rfl)
  rw [lg_entry_eq]
  generalize (lg_sl ([.ref a_this, .int p1]) ++ List.replicate (7 - (lg_sl ([.ref a_this, .int p1])).length) Slot.unset).toArray = ls at hl ⊢
  have hl : lv_has ls 7 [(0, .ref a_this), (1, .int p1)] := hl
  have key_17 : ∀ (n : Nat) (x2 x3 x4 : Int32) (ql : (Int32) ⊕ (Int32 × Int32 × Int32)), f_X3_isSo_L17 g_this f_this_s f_this_row p1 n x2 x3 x4 = some ql → ∀ (H : Heap) (locs : List Loc) (ls : Array Slot), va_P D vwCl [(a_this, .inr (3, rf_o3 a_this_s a_this_image a_this_read a_this_mind a_this_letters a_this_row a_this_refused a_this_numbers a_this_cost g_this)), (a_this_s, .inl (cA, 22, .inl f_this_s)), (a_this_row, .inl (cA, 12, .inl f_this_row))] H → va_D A [(a_this, .inr (3, rf_o3 a_this_s a_this_image a_this_read a_this_mind a_this_letters a_this_row a_this_refused a_this_numbers a_this_cost g_this)), (a_this_s, .inl (cA, 22, .inl f_this_s)), (a_this_row, .inl (cA, 12, .inl f_this_row))] → va_S A s.heap H locs → lv_has ls 7 [(0, .ref a_this), (1, .int p1), (2, .int x2), (3, .int x3), (4, .int x4)] → (∀ r : Int32, ql = .inl r → r = q) → (∀ (x : Int32 × Int32 × Int32), ql = .inr x → ∀ (H : Heap) (locs : List Loc) (ls : Array Slot), va_P D vwCl [(a_this, .inr (3, rf_o3 a_this_s a_this_image a_this_read a_this_mind a_this_letters a_this_row a_this_refused a_this_numbers a_this_cost g_this)), (a_this_s, .inl (cA, 22, .inl f_this_s)), (a_this_row, .inl (cA, 12, .inl f_this_row))] H → va_D A [(a_this, .inr (3, rf_o3 a_this_s a_this_image a_this_read a_this_mind a_this_letters a_this_row a_this_refused a_this_numbers a_this_cost g_this)), (a_this_s, .inl (cA, 22, .inl f_this_s)), (a_this_row, .inl (cA, 12, .inl f_this_row))] → va_S A s.heap H locs → lv_has ls 7 [(0, .ref a_this), (1, .int p1), (2, .int x.1), (3, .int x.2.1), (4, .int x.2.2)] → W p l e (headSpec wsX3_isSo ({ frames := 2, cells := 0, slots := 0, locals := 47 } : Room)).room s m ([.ref a_this, .int p1] : List Value).toArray below meth c H locs 0 0 (MQ below (va_Qi (fun (r : Int32) (_ : Unit) => r = q) (fun _ t => rf_Post D A [(a_this, .inr (3, rf_o3 a_this_s a_this_image a_this_read a_this_mind a_this_letters a_this_row a_this_refused a_this_numbers a_this_cost g_this)), (a_this_s, .inl (cA, 22, .inl f_this_s)), (a_this_row, .inl (cA, 12, .inl f_this_row))] t) A) ([.ref a_this, .int p1] : List Value).toArray s 0 0 A) (F0 m 136 ls [])) → W p l e (headSpec wsX3_isSo ({ frames := 2, cells := 0, slots := 0, locals := 47 } : Room)).room s m ([.ref a_this, .int p1] : List Value).toArray below meth c H locs 0 0 (MQ below (va_Qi (fun (r : Int32) (_ : Unit) => r = q) (fun _ t => rf_Post D A [(a_this, .inr (3, rf_o3 a_this_s a_this_image a_this_read a_this_mind a_this_letters a_this_row a_this_refused a_this_numbers a_this_cost g_this)), (a_this_s, .inl (cA, 22, .inl f_this_s)), (a_this_row, .inl (cA, 12, .inl f_this_row))] t) A) ([.ref a_this, .int p1] : List Value).toArray s 0 0 A) (F0 m 17 ls []) := by
    intro n
    induction n with
    | zero =>
      intro x2 x3 x4 ql hf H locs ls hP hD hS hl hret kx
      exact absurd (show (none : Option ((Int32) ⊕ (Int32 × Int32 × Int32))) = some ql from hf) (fun h9 => by cases h9)
    | succ n ih =>
      intro x2 x3 x4 ql hf H locs ls hP hD hS hl hret kx
      rw [f_X3_isSo_L17] at hf
      refine lv_iload hx hb dX3_isSo_17 (lv_at hl 4 rfl) ?_
      refine lv_aload_n hx hb dX3_isSo_19 rfl (lv_at hl 0 rfl) ?_
      refine va_get (D := D) (ci := 3) (v := .int (g_this 2)) (C := RX3) (T := TX3) (N := 16) hx hb hts jX3_isSo_X3 hown hK hP 0 rfl rfl 9 (by decide) (hts _ kX3_isSo_0) (fun _ h9 => h9) rfl dX3_isSo_20 ?_
      refine lv_icmp_ge (tgt := 136) hx hb dX3_isSo_23 (by decide) (fun c1 => ?_) (fun c1 => ?_)
      · have hf := rf_ifp hf c1
        exact kx _ (Option.some.inj hf).symm _ _ _ hP hD hS (lv_sub hl [0, 1, 2, 3, 4] rfl)
      · have hf := rf_ifn hf c1
        refine lv_aload_n hx hb dX3_isSo_26 rfl (lv_at hl 0 rfl) ?_
        refine va_get (D := D) (ci := 3) (v := .ref a_this_row) (C := RX3) (T := TX3) (N := 16) hx hb hts jX3_isSo_X3 hown hK hP 0 rfl rfl 6 (by decide) (hts _ kX3_isSo_1) (fun _ h9 => h9) rfl dX3_isSo_27 ?_
        refine lv_iload hx hb dX3_isSo_30 (lv_at hl 4 rfl) ?_
        obtain ⟨c2, hf⟩ := rf_chk hf
        refine va_iald hx hb hK hP 2 0 rfl rfl c2 dX3_isSo_32 ?_
        refine lv_topi (fun v3 ev3 => ?_)
        have hf := rf_bindv hf ev3
        clear ev3
        refine lv_istore (lv' := [(5, .int v3), (0, .ref a_this), (1, .int p1), (2, .int x2), (3, .int x3), (4, .int x4)]) hx hb dX3_isSo_33 hl (by decide) rfl (fun ls hl => ?_)
        refine lv_iload hx hb dX3_isSo_35 (lv_at hl 0 rfl) ?_
        refine lv_iload_n hx hb dX3_isSo_37 rfl (lv_at hl 4 rfl) ?_
        obtain ⟨q4, hq4, hf⟩ := rf_bindq hf
        refine rf_Si (As := [.int v3, .int x3]) (rest := []) (wr := [(a_this, .inr (3, rf_o3 a_this_s a_this_image a_this_read a_this_mind a_this_letters a_this_row a_this_refused a_this_numbers a_this_cost g_this)), (a_this_s, .inl (cA, 22, .inl f_this_s)), (a_this_row, .inl (cA, 12, .inl f_this_row))]) (wn := [(a_this, .inr (3, rf_o3 a_this_s a_this_image a_this_read a_this_mind a_this_letters a_this_row a_this_refused a_this_numbers a_this_cost g_this)), (a_this_s, .inl (cA, 22, .inl f_this_s)), (a_this_row, .inl (cA, 12, .inl f_this_row))]) ⟨hx, hb, hml, hown, hts⟩ hK hP hD hS hA hE (c_X3_coldBy l D cA ad H.size v3 x3 q4 hq4) (va_cwS 2 hts gX3_isSo_X3_coldBy rfl rfl rfl hs_X3_coldBy ⟨Nat.le_of_ble_eq_true rfl, Nat.le_of_ble_eq_true rfl⟩) [] [0, 1, 2] [0, 1, 2] rfl rfl rfl rfl (by decide) rfl rfl rfl rfl hl.1 (Nat.le_of_ble_eq_true rfl) dX3_isSo_38 ⟨Nat.zero_le _, Nat.zero_le _⟩ (fun H locs hP hD hS => ?_)
        refine lv_istore_n (lv' := [(3, .int q4), (5, .int v3), (0, .ref a_this), (1, .int p1), (2, .int x2), (4, .int x4)]) hx hb dX3_isSo_41 rfl hl (by decide) rfl (fun ls hl => ?_)
        refine lv_aload_n hx hb dX3_isSo_42 rfl (lv_at hl 2 rfl) ?_
        refine va_get (D := D) (ci := 3) (v := .ref a_this_s) (C := RX3) (T := TX3) (N := 16) hx hb hts jX3_isSo_X3 hown hK hP 0 rfl rfl 0 (by decide) (hts _ kX3_isSo_2) (fun _ h9 => h9) rfl dX3_isSo_43 ?_
        refine lv_bipush (v := 10) hx hb dX3_isSo_46 (by decide) ?_
        refine lv_aload_n hx hb dX3_isSo_48 rfl (lv_at hl 2 rfl) ?_
        refine va_get (D := D) (ci := 3) (v := .ref a_this_s) (C := RX3) (T := TX3) (N := 16) hx hb hts jX3_isSo_X3 hown hK hP 0 rfl rfl 0 (by decide) (hts _ kX3_isSo_2) (fun _ h9 => h9) rfl dX3_isSo_49 ?_
        refine lv_iconst (v := 3) hx hb dX3_isSo_52 (by decide) ?_
        refine rf_ialoadk hx hb hK hP 1 0 rfl rfl (k := 3) (by decide) (by decide) (by decide) dX3_isSo_53 ?_
        refine lv_iadd hx hb dX3_isSo_54 ?_
        obtain ⟨c5, hf⟩ := rf_chk hf
        refine va_iald hx hb hK hP 1 0 rfl rfl c5 dX3_isSo_55 ?_
        refine lv_iload_n hx hb dX3_isSo_56 rfl (lv_at hl 3 rfl) ?_
        refine lv_iload_n hx hb dX3_isSo_57 rfl (lv_at hl 4 rfl) ?_
        refine lv_iload_n hx hb dX3_isSo_58 rfl (lv_at hl 0 rfl) ?_
        refine lv_aload_n hx hb dX3_isSo_59 rfl (lv_at hl 2 rfl) ?_
        refine va_get (D := D) (ci := 3) (v := .ref a_this_s) (C := RX3) (T := TX3) (N := 16) hx hb hts jX3_isSo_X3 hown hK hP 0 rfl rfl 0 (by decide) (hts _ kX3_isSo_2) (fun _ h9 => h9) rfl dX3_isSo_60 ?_
        refine lv_bipush (v := 7) hx hb dX3_isSo_63 (by decide) ?_
        refine rf_ialoadk hx hb hK hP 1 0 rfl rfl (k := 7) (by decide) (by decide) (by decide) dX3_isSo_65 ?_
        obtain ⟨q6, hq6, hf⟩ := rf_bindq hf
        refine rf_Si (As := [.int (f_this_s ((10 + (f_this_s 3)).toNatClampNeg)), .int p1, .int x2, .int q4, .int (f_this_s 7)]) (rest := []) (wr := [(a_this, .inr (3, rf_o3 a_this_s a_this_image a_this_read a_this_mind a_this_letters a_this_row a_this_refused a_this_numbers a_this_cost g_this)), (a_this_s, .inl (cA, 22, .inl f_this_s)), (a_this_row, .inl (cA, 12, .inl f_this_row))]) (wn := [(a_this, .inr (3, rf_o3 a_this_s a_this_image a_this_read a_this_mind a_this_letters a_this_row a_this_refused a_this_numbers a_this_cost g_this)), (a_this_s, .inl (cA, 22, .inl f_this_s)), (a_this_row, .inl (cA, 12, .inl f_this_row))]) ⟨hx, hb, hml, hown, hts⟩ hK hP hD hS hA hE (c_X3_thickOf l D cA ad H.size (f_this_s ((10 + (f_this_s 3)).toNatClampNeg)) p1 x2 q4 (f_this_s 7) q6 hq6) (va_cwS 5 hts gX3_isSo_X3_thickOf rfl rfl rfl hs_X3_thickOf ⟨Nat.le_of_ble_eq_true rfl, Nat.le_of_ble_eq_true rfl⟩) [] [0, 1, 2] [0, 1, 2] rfl rfl rfl rfl (by decide) rfl rfl rfl rfl hl.1 (Nat.le_of_ble_eq_true rfl) dX3_isSo_66 ⟨Nat.zero_le _, Nat.zero_le _⟩ (fun H locs hP hD hS => ?_)
        refine lv_aload_n hx hb dX3_isSo_69 rfl (lv_at hl 2 rfl) ?_
        refine va_get (D := D) (ci := 3) (v := .ref a_this_s) (C := RX3) (T := TX3) (N := 16) hx hb hts jX3_isSo_X3 hown hK hP 0 rfl rfl 0 (by decide) (hts _ kX3_isSo_2) (fun _ h9 => h9) rfl dX3_isSo_70 ?_
        refine lv_iconst (v := 1) hx hb dX3_isSo_73 (by decide) ?_
        refine rf_ialoadk hx hb hK hP 1 0 rfl rfl (k := 1) (by decide) (by decide) (by decide) dX3_isSo_74 ?_
        refine lv_aload_n hx hb dX3_isSo_75 rfl (lv_at hl 2 rfl) ?_
        refine lv_iload hx hb dX3_isSo_76 (lv_at hl 1 rfl) ?_
        obtain ⟨q7, hq7, hf⟩ := rf_bindq hf
        refine rf_Vi (As := [.int v3]) (rest := [.int (f_this_s 1), .int q6]) (wr := [(a_this_row, .inl (cA, 12, .inl f_this_row))]) (wn := [(a_this, .inr (3, rf_o3 a_this_s a_this_image a_this_read a_this_mind a_this_letters a_this_row a_this_refused a_this_numbers a_this_cost g_this)), (a_this_s, .inl (cA, 22, .inl f_this_s)), (a_this_row, .inl (cA, 12, .inl f_this_row))]) ⟨hx, hb, hml, hown, hts⟩ hK hP hD hS hA hE (c_X3_allows l D cA ad a_this a_this_s a_this_image a_this_read a_this_mind a_this_letters a_this_row a_this_refused a_this_numbers a_this_cost H.size g_this f_this_s v3 q7 hq7) (cwV 1 hts gX3_isSo_X3_allows rfl rfl rfl hv_X3_allows ⟨Nat.le_of_ble_eq_true rfl, Nat.le_of_ble_eq_true rfl⟩) [0, 1] [2] [1, 2, 0] rfl rfl rfl rfl (by decide) rfl rfl 3 0 rfl rfl rfl rfl rfl hl.1 (Nat.le_of_ble_eq_true rfl) dX3_isSo_78 ⟨Nat.zero_le _, Nat.zero_le _⟩ (fun H locs hP hD hS => ?_)
        refine lv_iadd hx hb dX3_isSo_81 ?_
        refine lv_icmp_gt (tgt := 89) hx hb dX3_isSo_82 (by decide) (fun c8 => ?_) (fun c8 => ?_)
        · have hf := rf_ifp hf c8
          refine lv_iconst (v := 0) hx hb dX3_isSo_89 (by decide) ?_
          refine lv_istore (lv' := [(6, .int 0), (3, .int q4), (5, .int v3), (0, .ref a_this), (1, .int p1), (2, .int x2), (4, .int x4)]) hx hb dX3_isSo_90 hl (by decide) rfl (fun ls hl => ?_)
          refine lv_iload hx hb dX3_isSo_92 (lv_at hl 0 rfl) ?_
          refine lv_aload_n hx hb dX3_isSo_94 rfl (lv_at hl 3 rfl) ?_
          refine va_get (D := D) (ci := 3) (v := .ref a_this_row) (C := RX3) (T := TX3) (N := 16) hx hb hts jX3_isSo_X3 hown hK hP 0 rfl rfl 6 (by decide) (hts _ kX3_isSo_1) (fun _ h9 => h9) rfl dX3_isSo_95 ?_
          refine lv_iload hx hb dX3_isSo_98 (lv_at hl 6 rfl) ?_
          refine lv_iconst (v := 1) hx hb dX3_isSo_100 (by decide) ?_
          refine lv_iadd hx hb dX3_isSo_101 ?_
          obtain ⟨c9, hf⟩ := rf_chk hf
          refine va_iald hx hb hK hP 2 0 rfl rfl c9 dX3_isSo_102 ?_
          refine lv_iconst (v := 1) hx hb dX3_isSo_103 (by decide) ?_
          refine lv_icmp_ne (tgt := 111) hx hb dX3_isSo_104 (by decide) (fun c10 => ?_) (fun c10 => ?_)
          · have hf := rf_ifn hf c10
            refine lv_iconst (v := 0) hx hb dX3_isSo_111 (by decide) ?_
            refine lv_icmp_eq (tgt := 117) hx hb dX3_isSo_112 (by decide) (fun c11 => ?_) (fun c11 => ?_)
            · refine lv_bipush (v := 30) hx hb dX3_isSo_117 (by decide) ?_
              refine lv_iload_n hx hb dX3_isSo_119 rfl (lv_at hl 5 rfl) ?_
              refine lv_iload hx hb dX3_isSo_120 (lv_at hl 2 rfl) ?_
              obtain ⟨q12, hq12, hf⟩ := rf_bindq hf
              refine rf_Si (As := [.int v3]) (rest := [.int x2, .int 30]) (wr := [(a_this, .inr (3, rf_o3 a_this_s a_this_image a_this_read a_this_mind a_this_letters a_this_row a_this_refused a_this_numbers a_this_cost g_this)), (a_this_s, .inl (cA, 22, .inl f_this_s)), (a_this_row, .inl (cA, 12, .inl f_this_row))]) (wn := [(a_this, .inr (3, rf_o3 a_this_s a_this_image a_this_read a_this_mind a_this_letters a_this_row a_this_refused a_this_numbers a_this_cost g_this)), (a_this_s, .inl (cA, 22, .inl f_this_s)), (a_this_row, .inl (cA, 12, .inl f_this_row))]) ⟨hx, hb, hml, hown, hts⟩ hK hP hD hS hA hE (c_X3_swellsBy l D cA ad H.size v3 q12 hq12) (va_cwS 1 hts gX3_isSo_X3_swellsBy rfl rfl rfl hs_X3_swellsBy ⟨Nat.le_of_ble_eq_true rfl, Nat.le_of_ble_eq_true rfl⟩) [] [0, 1, 2] [0, 1, 2] rfl rfl rfl rfl (by decide) rfl rfl rfl rfl hl.1 (Nat.le_of_ble_eq_true rfl) dX3_isSo_122 ⟨Nat.zero_le _, Nat.zero_le _⟩ (fun H locs hP hD hS => ?_)
              refine lv_iadd hx hb dX3_isSo_125 ?_
              obtain ⟨q13, hq13, hf⟩ := rf_bindq hf
              refine rf_Si (As := [.int 30, .int (x2 + q12)]) (rest := []) (wr := [(a_this, .inr (3, rf_o3 a_this_s a_this_image a_this_read a_this_mind a_this_letters a_this_row a_this_refused a_this_numbers a_this_cost g_this)), (a_this_s, .inl (cA, 22, .inl f_this_s)), (a_this_row, .inl (cA, 12, .inl f_this_row))]) (wn := [(a_this, .inr (3, rf_o3 a_this_s a_this_image a_this_read a_this_mind a_this_letters a_this_row a_this_refused a_this_numbers a_this_cost g_this)), (a_this_s, .inl (cA, 22, .inl f_this_s)), (a_this_row, .inl (cA, 12, .inl f_this_row))]) ⟨hx, hb, hml, hown, hts⟩ hK hP hD hS hA hE (c_X3_least l D cA ad H.size 30 (x2 + q12) q13 hq13) (va_cwS 2 hts gX3_isSo_X3_least rfl rfl rfl hs_X3_least ⟨Nat.le_of_ble_eq_true rfl, Nat.le_of_ble_eq_true rfl⟩) [] [0, 1, 2] [0, 1, 2] rfl rfl rfl rfl (by decide) rfl rfl rfl rfl hl.1 (Nat.le_of_ble_eq_true rfl) dX3_isSo_126 ⟨Nat.zero_le _, Nat.zero_le _⟩ (fun H locs hP hD hS => ?_)
              refine lv_istore_n (lv' := [(2, .int q13), (6, .int 0), (3, .int q4), (5, .int v3), (0, .ref a_this), (1, .int p1), (4, .int x4)]) hx hb dX3_isSo_129 rfl hl (by decide) rfl (fun ls hl => ?_)
              obtain ⟨v14, ev14⟩ : ∃ y : Int32, y = x4 + 2 := ⟨_, rfl⟩
              have hf := rf_bindv hf ev14
              refine lv_iinc (v := v14) (lv' := [(4, .int v14), (2, .int q13), (6, .int 0), (3, .int q4), (5, .int v3), (0, .ref a_this), (1, .int p1)]) hx hb dX3_isSo_130 hl (k := 6) rfl (by rw [ev14]; rfl) (by decide) rfl (fun ls hl => ?_)
              clear ev14
              refine lv_goto (tgt := 17) hx hb dX3_isSo_133 (by decide) ?_
              exact ih q13 q4 v14 ql hf _ _ _ hP hD hS (lv_sub hl [5, 6, 1, 3, 0] rfl) hret kx
            · exact absurd c11 (by decide)
          · have hf := rf_ifp hf c10
            refine lv_iconst (v := 1) hx hb dX3_isSo_107 (by decide) ?_
            refine lv_goto (tgt := 112) hx hb dX3_isSo_108 (by decide) ?_
            refine lv_icmp_eq (tgt := 117) hx hb dX3_isSo_112 (by decide) (fun c15 => ?_) (fun c15 => ?_)
            · exact absurd c15 (by decide)
            · refine lv_iconst (v := 0) hx hb dX3_isSo_115 (by decide) ?_
              obtain rfl := hret _ (Option.some.inj hf).symm
              exact W.zret (v := 0) hx hb hr rfl (fun t ht hW => ⟨⟨0, (), rfl, rfl, rf_mk ht hP hD⟩, hS.F ht⟩) hS.2.2 dX3_isSo_116
        · have hf := rf_ifn hf c8
          refine lv_iconst (v := 1) hx hb dX3_isSo_85 (by decide) ?_
          refine lv_goto (tgt := 90) hx hb dX3_isSo_86 (by decide) ?_
          refine lv_istore (lv' := [(6, .int 1), (3, .int q4), (5, .int v3), (0, .ref a_this), (1, .int p1), (2, .int x2), (4, .int x4)]) hx hb dX3_isSo_90 hl (by decide) rfl (fun ls hl => ?_)
          refine lv_iload hx hb dX3_isSo_92 (lv_at hl 0 rfl) ?_
          refine lv_aload_n hx hb dX3_isSo_94 rfl (lv_at hl 3 rfl) ?_
          refine va_get (D := D) (ci := 3) (v := .ref a_this_row) (C := RX3) (T := TX3) (N := 16) hx hb hts jX3_isSo_X3 hown hK hP 0 rfl rfl 6 (by decide) (hts _ kX3_isSo_1) (fun _ h9 => h9) rfl dX3_isSo_95 ?_
          refine lv_iload hx hb dX3_isSo_98 (lv_at hl 6 rfl) ?_
          refine lv_iconst (v := 1) hx hb dX3_isSo_100 (by decide) ?_
          refine lv_iadd hx hb dX3_isSo_101 ?_
          obtain ⟨c16, hf⟩ := rf_chk hf
          refine va_iald hx hb hK hP 2 0 rfl rfl c16 dX3_isSo_102 ?_
          refine lv_iconst (v := 1) hx hb dX3_isSo_103 (by decide) ?_
          refine lv_icmp_ne (tgt := 111) hx hb dX3_isSo_104 (by decide) (fun c17 => ?_) (fun c17 => ?_)
          · have hf := rf_ifn hf c17
            refine lv_iconst (v := 0) hx hb dX3_isSo_111 (by decide) ?_
            refine lv_icmp_eq (tgt := 117) hx hb dX3_isSo_112 (by decide) (fun c18 => ?_) (fun c18 => ?_)
            · exact absurd c18 (by decide)
            · refine lv_iconst (v := 0) hx hb dX3_isSo_115 (by decide) ?_
              obtain rfl := hret _ (Option.some.inj hf).symm
              exact W.zret (v := 0) hx hb hr rfl (fun t ht hW => ⟨⟨0, (), rfl, rfl, rf_mk ht hP hD⟩, hS.F ht⟩) hS.2.2 dX3_isSo_116
          · have hf := rf_ifp hf c17
            refine lv_iconst (v := 1) hx hb dX3_isSo_107 (by decide) ?_
            refine lv_goto (tgt := 112) hx hb dX3_isSo_108 (by decide) ?_
            refine lv_icmp_eq (tgt := 117) hx hb dX3_isSo_112 (by decide) (fun c19 => ?_) (fun c19 => ?_)
            · refine lv_bipush (v := 30) hx hb dX3_isSo_117 (by decide) ?_
              refine lv_iload_n hx hb dX3_isSo_119 rfl (lv_at hl 5 rfl) ?_
              refine lv_iload hx hb dX3_isSo_120 (lv_at hl 2 rfl) ?_
              obtain ⟨q20, hq20, hf⟩ := rf_bindq hf
              refine rf_Si (As := [.int v3]) (rest := [.int x2, .int 30]) (wr := [(a_this, .inr (3, rf_o3 a_this_s a_this_image a_this_read a_this_mind a_this_letters a_this_row a_this_refused a_this_numbers a_this_cost g_this)), (a_this_s, .inl (cA, 22, .inl f_this_s)), (a_this_row, .inl (cA, 12, .inl f_this_row))]) (wn := [(a_this, .inr (3, rf_o3 a_this_s a_this_image a_this_read a_this_mind a_this_letters a_this_row a_this_refused a_this_numbers a_this_cost g_this)), (a_this_s, .inl (cA, 22, .inl f_this_s)), (a_this_row, .inl (cA, 12, .inl f_this_row))]) ⟨hx, hb, hml, hown, hts⟩ hK hP hD hS hA hE (c_X3_swellsBy l D cA ad H.size v3 q20 hq20) (va_cwS 1 hts gX3_isSo_X3_swellsBy rfl rfl rfl hs_X3_swellsBy ⟨Nat.le_of_ble_eq_true rfl, Nat.le_of_ble_eq_true rfl⟩) [] [0, 1, 2] [0, 1, 2] rfl rfl rfl rfl (by decide) rfl rfl rfl rfl hl.1 (Nat.le_of_ble_eq_true rfl) dX3_isSo_122 ⟨Nat.zero_le _, Nat.zero_le _⟩ (fun H locs hP hD hS => ?_)
              refine lv_iadd hx hb dX3_isSo_125 ?_
              obtain ⟨q21, hq21, hf⟩ := rf_bindq hf
              refine rf_Si (As := [.int 30, .int (x2 + q20)]) (rest := []) (wr := [(a_this, .inr (3, rf_o3 a_this_s a_this_image a_this_read a_this_mind a_this_letters a_this_row a_this_refused a_this_numbers a_this_cost g_this)), (a_this_s, .inl (cA, 22, .inl f_this_s)), (a_this_row, .inl (cA, 12, .inl f_this_row))]) (wn := [(a_this, .inr (3, rf_o3 a_this_s a_this_image a_this_read a_this_mind a_this_letters a_this_row a_this_refused a_this_numbers a_this_cost g_this)), (a_this_s, .inl (cA, 22, .inl f_this_s)), (a_this_row, .inl (cA, 12, .inl f_this_row))]) ⟨hx, hb, hml, hown, hts⟩ hK hP hD hS hA hE (c_X3_least l D cA ad H.size 30 (x2 + q20) q21 hq21) (va_cwS 2 hts gX3_isSo_X3_least rfl rfl rfl hs_X3_least ⟨Nat.le_of_ble_eq_true rfl, Nat.le_of_ble_eq_true rfl⟩) [] [0, 1, 2] [0, 1, 2] rfl rfl rfl rfl (by decide) rfl rfl rfl rfl hl.1 (Nat.le_of_ble_eq_true rfl) dX3_isSo_126 ⟨Nat.zero_le _, Nat.zero_le _⟩ (fun H locs hP hD hS => ?_)
              refine lv_istore_n (lv' := [(2, .int q21), (6, .int 1), (3, .int q4), (5, .int v3), (0, .ref a_this), (1, .int p1), (4, .int x4)]) hx hb dX3_isSo_129 rfl hl (by decide) rfl (fun ls hl => ?_)
              obtain ⟨v22, ev22⟩ : ∃ y : Int32, y = x4 + 2 := ⟨_, rfl⟩
              have hf := rf_bindv hf ev22
              refine lv_iinc (v := v22) (lv' := [(4, .int v22), (2, .int q21), (6, .int 1), (3, .int q4), (5, .int v3), (0, .ref a_this), (1, .int p1)]) hx hb dX3_isSo_130 hl (k := 6) rfl (by rw [ev22]; rfl) (by decide) rfl (fun ls hl => ?_)
              clear ev22
              refine lv_goto (tgt := 17) hx hb dX3_isSo_133 (by decide) ?_
              exact ih q21 q4 v22 ql hf _ _ _ hP hD hS (lv_sub hl [5, 6, 1, 3, 0] rfl) hret kx
            · exact absurd c19 (by decide)
  rw [f_X3_isSo] at hf
  refine lv_aload_n hx hb dX3_isSo_0 rfl (lv_at hl 0 rfl) ?_
  refine va_get (D := D) (ci := 3) (v := .ref a_this_s) (C := RX3) (T := TX3) (N := 16) hx hb hts jX3_isSo_X3 hown hK hP 0 rfl rfl 0 (by decide) (hts _ kX3_isSo_2) (fun _ h9 => h9) rfl dX3_isSo_1 ?_
  refine lv_iconst (v := 4) hx hb dX3_isSo_4 (by decide) ?_
  refine rf_ialoadk hx hb hK hP 1 0 rfl rfl (k := 4) (by decide) (by decide) (by decide) dX3_isSo_5 ?_
  refine lv_topi (fun v23 ev23 => ?_)
  have hf := rf_bindv hf ev23
  clear ev23
  refine lv_istore_n (lv' := [(2, .int v23), (0, .ref a_this), (1, .int p1)]) hx hb dX3_isSo_6 rfl hl (by decide) rfl (fun ls hl => ?_)
  refine lv_aload_n hx hb dX3_isSo_7 rfl (lv_at hl 1 rfl) ?_
  refine va_get (D := D) (ci := 3) (v := .ref a_this_s) (C := RX3) (T := TX3) (N := 16) hx hb hts jX3_isSo_X3 hown hK hP 0 rfl rfl 0 (by decide) (hts _ kX3_isSo_2) (fun _ h9 => h9) rfl dX3_isSo_8 ?_
  refine lv_iconst (v := 5) hx hb dX3_isSo_11 (by decide) ?_
  refine rf_ialoadk hx hb hK hP 1 0 rfl rfl (k := 5) (by decide) (by decide) (by decide) dX3_isSo_12 ?_
  refine lv_topi (fun v24 ev24 => ?_)
  have hf := rf_bindv hf ev24
  clear ev24
  refine lv_istore_n (lv' := [(3, .int v24), (2, .int v23), (0, .ref a_this), (1, .int p1)]) hx hb dX3_isSo_13 rfl hl (by decide) rfl (fun ls hl => ?_)
  refine lv_iconst (v := 0) hx hb dX3_isSo_14 (by decide) ?_
  refine lv_istore (lv' := [(4, .int 0), (3, .int v24), (2, .int v23), (0, .ref a_this), (1, .int p1)]) hx hb dX3_isSo_15 hl (by decide) rfl (fun ls hl => ?_)
  obtain ⟨q25, hq25, hf⟩ := rf_bindq hf
  refine key_17 rf_fu v23 v24 0 q25 hq25 _ _ _ hP hD hS (lv_sub hl [3, 4, 2, 1, 0] rfl) (fun r h9 => ?_) (fun x26 h9 H locs ls hP hD hS hl => ?_)
  · subst h9
    exact Option.some.inj hf
  · subst h9
    have hf := rf_sumr hf
    refine lv_iconst (v := 1) hx hb dX3_isSo_136 (by decide) ?_
    obtain rfl := Option.some.inj hf
    exact W.zret (v := 1) hx hb hr rfl (fun t ht hW => ⟨⟨1, (), rfl, rfl, rf_mk ht hP hD⟩, hS.F ht⟩) hS.2.2 dX3_isSo_137

set_option maxHeartbeats 8000000 in
set_option maxRecDepth 100000 in
theorem c_X3_feel (l : Launch) (D : va_G) (cA : ClassId) (ad : Nat → Nat) (a_this a_this_s a_this_image a_this_read a_this_mind a_this_letters a_this_row a_this_refused a_this_numbers a_this_cost : Nat) (sz : Nat) (g_this f_this_s f_this_row f_this_refused : Nat → Int32) (p1 : Int32) (q : Int32 × (Nat → Int32)) (hf : f_X3_feel g_this f_this_s f_this_row f_this_refused p1 = some q) : Met l yX3_feel wsX3_feel ({ frames := 3, cells := 0, slots := 0, locals := 73 } : Room) (va_Pc [.ref a_this, .int p1] (rf_Pre D cA ad [(a_this, .inr (3, rf_o3 a_this_s a_this_image a_this_read a_this_mind a_this_letters a_this_row a_this_refused a_this_numbers a_this_cost g_this)), (a_this_s, .inl (cA, 22, .inl f_this_s)), (a_this_row, .inl (cA, 12, .inl f_this_row)), (a_this_refused, .inl (cA, 7, .inl f_this_refused))] sz)) (va_Qi (fun (r : Int32) (_ : Unit) => r = q.1) (fun _ t => rf_Post D (va_A [(a_this, .inr (3, rf_o3 a_this_s a_this_image a_this_read a_this_mind a_this_letters a_this_row a_this_refused a_this_numbers a_this_cost g_this)), (a_this_s, .inl (cA, 22, .inl f_this_s)), (a_this_row, .inl (cA, 12, .inl f_this_row)), (a_this_refused, .inl (cA, 7, .inl f_this_refused))] sz) [(a_this, .inr (3, rf_o3 a_this_s a_this_image a_this_read a_this_mind a_this_letters a_this_row a_this_refused a_this_numbers a_this_cost g_this)), (a_this_s, .inl (cA, 22, .inl f_this_s)), (a_this_row, .inl (cA, 12, .inl f_this_row)), (a_this_refused, .inl (cA, 7, .inl q.2))] t) (va_A [(a_this, .inr (3, rf_o3 a_this_s a_this_image a_this_read a_this_mind a_this_letters a_this_row a_this_refused a_this_numbers a_this_cost g_this)), (a_this_s, .inl (cA, 22, .inl f_this_s)), (a_this_row, .inl (cA, 12, .inl f_this_row)), (a_this_refused, .inl (cA, 7, .inl f_this_refused))] sz)) 0 0 (va_A [(a_this, .inr (3, rf_o3 a_this_s a_this_image a_this_read a_this_mind a_this_letters a_this_row a_this_refused a_this_numbers a_this_cost g_this)), (a_this_s, .inl (cA, 22, .inl f_this_s)), (a_this_row, .inl (cA, 12, .inl f_this_row)), (a_this_refused, .inl (cA, 7, .inl f_this_refused))] sz) := by
  refine Met.ofW (cc := cX3_feel) (maxL := 4) (ret := (some .int)) (by decide) rfl ?_
  intro p e s m args below meth c s₁ B hml hv
  obtain ⟨rfl, hsz, hP, hK, hD0, hE⟩ := hv
  have hx := B.exec
  have hb := B.bytes
  have hr := B.returns
  have hts := atoms_spec (ws := wsX3_feel) B.pre
  have hown : s.vm.findClass RX3 = some m.cls := findClass_of_methodNamed B.named
  have hlocks := B.notSynchronized
  subst hsz
  have hD := hD0.self (sz := s.heap.size)
  generalize hAe : va_A [(a_this, .inr (3, rf_o3 a_this_s a_this_image a_this_read a_this_mind a_this_letters a_this_row a_this_refused a_this_numbers a_this_cost g_this)), (a_this_s, .inl (cA, 22, .inl f_this_s)), (a_this_row, .inl (cA, 12, .inl f_this_row)), (a_this_refused, .inl (cA, 7, .inl f_this_refused))] s.heap.size = A at hD hE ⊢
  have hA : ∀ q : Nat, s.heap.size ≤ q → A q := fun q h => by rw [← hAe]; exact Or.inr h
  have hS : va_S A s.heap s.heap [] := va_S.rf
  have hP : va_P D vwCl [(a_this, .inr (3, rf_o3 a_this_s a_this_image a_this_read a_this_mind a_this_letters a_this_row a_this_refused a_this_numbers a_this_cost g_this)), (a_this_s, .inl (cA, 22, .inl f_this_s)), (a_this_row, .inl (cA, 12, .inl f_this_row)), (a_this_refused, .inl (cA, 7, .inl f_this_refused))] s.heap := hP
  have hl := lv_entry ([.ref a_this, .int p1]) (n := 4) (Nat.le_of_ble_eq_true rfl)
  rw [lg_entry_eq]
  generalize (lg_sl ([.ref a_this, .int p1]) ++ List.replicate (4 - (lg_sl ([.ref a_this, .int p1])).length) Slot.unset).toArray = ls at hl ⊢
  have hl : lv_has ls 4 [(0, .ref a_this), (1, .int p1)] := hl
  have key_42 : ∀ (yf_this_refused : Nat → Int32) (n : Nat) (x2 x3 : Int32) (ql : Int32 × Int32), f_X3_feel_L42 g_this f_this_s f_this_row p1 yf_this_refused n x2 x3 = some ql → ∀ (H : Heap) (locs : List Loc) (ls : Array Slot), va_P D vwCl [(a_this, .inr (3, rf_o3 a_this_s a_this_image a_this_read a_this_mind a_this_letters a_this_row a_this_refused a_this_numbers a_this_cost g_this)), (a_this_s, .inl (cA, 22, .inl f_this_s)), (a_this_row, .inl (cA, 12, .inl f_this_row)), (a_this_refused, .inl (cA, 7, .inl yf_this_refused))] H → va_D A [(a_this, .inr (3, rf_o3 a_this_s a_this_image a_this_read a_this_mind a_this_letters a_this_row a_this_refused a_this_numbers a_this_cost g_this)), (a_this_s, .inl (cA, 22, .inl f_this_s)), (a_this_row, .inl (cA, 12, .inl f_this_row)), (a_this_refused, .inl (cA, 7, .inl yf_this_refused))] → va_S A s.heap H locs → lv_has ls 4 [(0, .ref a_this), (1, .int p1), (2, .int x2), (3, .int x3)] → (∀ (H : Heap) (locs : List Loc) (ls : Array Slot), va_P D vwCl [(a_this, .inr (3, rf_o3 a_this_s a_this_image a_this_read a_this_mind a_this_letters a_this_row a_this_refused a_this_numbers a_this_cost g_this)), (a_this_s, .inl (cA, 22, .inl f_this_s)), (a_this_row, .inl (cA, 12, .inl f_this_row)), (a_this_refused, .inl (cA, 7, .inl yf_this_refused))] H → va_D A [(a_this, .inr (3, rf_o3 a_this_s a_this_image a_this_read a_this_mind a_this_letters a_this_row a_this_refused a_this_numbers a_this_cost g_this)), (a_this_s, .inl (cA, 22, .inl f_this_s)), (a_this_row, .inl (cA, 12, .inl f_this_row)), (a_this_refused, .inl (cA, 7, .inl yf_this_refused))] → va_S A s.heap H locs → lv_has ls 4 [(0, .ref a_this), (1, .int p1), (2, .int ql.1), (3, .int ql.2)] → W p l e (headSpec wsX3_feel ({ frames := 3, cells := 0, slots := 0, locals := 73 } : Room)).room s m ([.ref a_this, .int p1] : List Value).toArray below meth c H locs 0 0 (MQ below (va_Qi (fun (r : Int32) (_ : Unit) => r = q.1) (fun _ t => rf_Post D A [(a_this, .inr (3, rf_o3 a_this_s a_this_image a_this_read a_this_mind a_this_letters a_this_row a_this_refused a_this_numbers a_this_cost g_this)), (a_this_s, .inl (cA, 22, .inl f_this_s)), (a_this_row, .inl (cA, 12, .inl f_this_row)), (a_this_refused, .inl (cA, 7, .inl q.2))] t) A) ([.ref a_this, .int p1] : List Value).toArray s 0 0 A) (F0 m 78 ls [])) → W p l e (headSpec wsX3_feel ({ frames := 3, cells := 0, slots := 0, locals := 73 } : Room)).room s m ([.ref a_this, .int p1] : List Value).toArray below meth c H locs 0 0 (MQ below (va_Qi (fun (r : Int32) (_ : Unit) => r = q.1) (fun _ t => rf_Post D A [(a_this, .inr (3, rf_o3 a_this_s a_this_image a_this_read a_this_mind a_this_letters a_this_row a_this_refused a_this_numbers a_this_cost g_this)), (a_this_s, .inl (cA, 22, .inl f_this_s)), (a_this_row, .inl (cA, 12, .inl f_this_row)), (a_this_refused, .inl (cA, 7, .inl q.2))] t) A) ([.ref a_this, .int p1] : List Value).toArray s 0 0 A) (F0 m 42 ls []) := by
    intro yf_this_refused n
    induction n with
    | zero =>
      intro x2 x3 ql hf H locs ls hP hD hS hl kx
      exact absurd (show (none : Option (Int32 × Int32)) = some ql from hf) (fun h9 => by cases h9)
    | succ n ih =>
      intro x2 x3 ql hf H locs ls hP hD hS hl kx
      rw [f_X3_feel_L42] at hf
      refine lv_iload_n hx hb dX3_feel_42 rfl (lv_at hl 3 rfl) ?_
      refine lv_sipush (v := 240) hx hb dX3_feel_43 (by decide) ?_
      refine lv_icmp_gt (tgt := 78) hx hb dX3_feel_46 (by decide) (fun c1 => ?_) (fun c1 => ?_)
      · have hf := rf_ifp hf c1
        obtain rfl := Option.some.inj hf
        exact kx _ _ _ hP hD hS (lv_sub hl [0, 1, 2, 3] rfl)
      · have hf := rf_ifn hf c1
        refine lv_iload_n hx hb dX3_feel_49 rfl (lv_at hl 1 rfl) ?_
        refine lv_iconst (v := 1) hx hb dX3_feel_50 (by decide) ?_
        refine lv_icmp_eq (tgt := 58) hx hb dX3_feel_51 (by decide) (fun c2 => ?_) (fun c2 => ?_)
        · have hf := rf_ifp hf c2
          refine lv_aload_n hx hb dX3_feel_58 rfl (lv_at hl 0 rfl) ?_
          refine lv_iload_n hx hb dX3_feel_59 rfl (lv_at hl 3 rfl) ?_
          obtain ⟨q3, hq3, hf⟩ := rf_bindq hf
          refine rf_Vi (As := [.int x3]) (rest := []) (wr := [(a_this_refused, .inl (cA, 7, .inl yf_this_refused))]) (wn := [(a_this, .inr (3, rf_o3 a_this_s a_this_image a_this_read a_this_mind a_this_letters a_this_row a_this_refused a_this_numbers a_this_cost g_this)), (a_this_s, .inl (cA, 22, .inl f_this_s)), (a_this_row, .inl (cA, 12, .inl f_this_row)), (a_this_refused, .inl (cA, 7, .inl yf_this_refused))]) ⟨hx, hb, hml, hown, hts⟩ hK hP hD hS hA hE (c_X3_isSo l D cA ad a_this a_this_s a_this_image a_this_read a_this_mind a_this_letters a_this_row a_this_refused a_this_numbers a_this_cost H.size g_this f_this_s f_this_row x3 q3 hq3) (cwV 1 hts gX3_feel_X3_isSo rfl rfl rfl hv_X3_isSo ⟨Nat.le_of_ble_eq_true rfl, Nat.le_of_ble_eq_true rfl⟩) [0, 1, 2] [3] [1, 2, 3, 0] rfl rfl rfl rfl (by decide) rfl rfl 3 0 rfl rfl rfl rfl rfl hl.1 (Nat.le_of_ble_eq_true rfl) dX3_feel_60 ⟨Nat.zero_le _, Nat.zero_le _⟩ (fun H locs hP hD hS => ?_)
          refine lv_if_eq (tgt := 70) hx hb dX3_feel_63 (by decide) (fun c4 => ?_) (fun c4 => ?_)
          · have hf := rf_ifp hf c4
            refine lv_iload_n hx hb dX3_feel_70 rfl (lv_at hl 2 rfl) ?_
            refine lv_istore_n (lv' := [(2, .int x2), (0, .ref a_this), (1, .int p1), (3, .int x3)]) hx hb dX3_feel_71 rfl hl (by decide) rfl (fun ls hl => ?_)
            obtain ⟨v5, ev5⟩ : ∃ y : Int32, y = x3 + 1 := ⟨_, rfl⟩
            have hf := rf_bindv hf ev5
            refine lv_iinc (v := v5) (lv' := [(3, .int v5), (2, .int x2), (0, .ref a_this), (1, .int p1)]) hx hb dX3_feel_72 hl (k := 3) rfl (by rw [ev5]; rfl) (by decide) rfl (fun ls hl => ?_)
            clear ev5
            refine lv_goto (tgt := 42) hx hb dX3_feel_75 (by decide) ?_
            exact ih x2 v5 ql hf _ _ _ hP hD hS (lv_sub hl [2, 3, 1, 0] rfl) kx
          · have hf := rf_ifn hf c4
            refine lv_iload_n hx hb dX3_feel_66 rfl (lv_at hl 3 rfl) ?_
            refine lv_goto (tgt := 71) hx hb dX3_feel_67 (by decide) ?_
            refine lv_istore_n (lv' := [(2, .int x3), (0, .ref a_this), (1, .int p1), (3, .int x3)]) hx hb dX3_feel_71 rfl hl (by decide) rfl (fun ls hl => ?_)
            obtain ⟨v6, ev6⟩ : ∃ y : Int32, y = x3 + 1 := ⟨_, rfl⟩
            have hf := rf_bindv hf ev6
            refine lv_iinc (v := v6) (lv' := [(3, .int v6), (2, .int x3), (0, .ref a_this), (1, .int p1)]) hx hb dX3_feel_72 hl (k := 3) rfl (by rw [ev6]; rfl) (by decide) rfl (fun ls hl => ?_)
            clear ev6
            refine lv_goto (tgt := 42) hx hb dX3_feel_75 (by decide) ?_
            exact ih x3 v6 ql hf _ _ _ hP hD hS (lv_sub hl [2, 3, 1, 0] rfl) kx
        · have hf := rf_ifn hf c2
          refine lv_iload_n hx hb dX3_feel_54 rfl (lv_at hl 2 rfl) ?_
          refine lv_if_ge (tgt := 78) hx hb dX3_feel_55 (by decide) (fun c7 => ?_) (fun c7 => ?_)
          · have hf := rf_ifp hf c7
            obtain rfl := Option.some.inj hf
            exact kx _ _ _ hP hD hS (lv_sub hl [0, 1, 2, 3] rfl)
          · have hf := rf_ifn hf c7
            refine lv_aload_n hx hb dX3_feel_58 rfl (lv_at hl 0 rfl) ?_
            refine lv_iload_n hx hb dX3_feel_59 rfl (lv_at hl 3 rfl) ?_
            obtain ⟨q8, hq8, hf⟩ := rf_bindq hf
            refine rf_Vi (As := [.int x3]) (rest := []) (wr := [(a_this_refused, .inl (cA, 7, .inl yf_this_refused))]) (wn := [(a_this, .inr (3, rf_o3 a_this_s a_this_image a_this_read a_this_mind a_this_letters a_this_row a_this_refused a_this_numbers a_this_cost g_this)), (a_this_s, .inl (cA, 22, .inl f_this_s)), (a_this_row, .inl (cA, 12, .inl f_this_row)), (a_this_refused, .inl (cA, 7, .inl yf_this_refused))]) ⟨hx, hb, hml, hown, hts⟩ hK hP hD hS hA hE (c_X3_isSo l D cA ad a_this a_this_s a_this_image a_this_read a_this_mind a_this_letters a_this_row a_this_refused a_this_numbers a_this_cost H.size g_this f_this_s f_this_row x3 q8 hq8) (cwV 1 hts gX3_feel_X3_isSo rfl rfl rfl hv_X3_isSo ⟨Nat.le_of_ble_eq_true rfl, Nat.le_of_ble_eq_true rfl⟩) [0, 1, 2] [3] [1, 2, 3, 0] rfl rfl rfl rfl (by decide) rfl rfl 3 0 rfl rfl rfl rfl rfl hl.1 (Nat.le_of_ble_eq_true rfl) dX3_feel_60 ⟨Nat.zero_le _, Nat.zero_le _⟩ (fun H locs hP hD hS => ?_)
            refine lv_if_eq (tgt := 70) hx hb dX3_feel_63 (by decide) (fun c9 => ?_) (fun c9 => ?_)
            · have hf := rf_ifp hf c9
              refine lv_iload_n hx hb dX3_feel_70 rfl (lv_at hl 2 rfl) ?_
              refine lv_istore_n (lv' := [(2, .int x2), (0, .ref a_this), (1, .int p1), (3, .int x3)]) hx hb dX3_feel_71 rfl hl (by decide) rfl (fun ls hl => ?_)
              obtain ⟨v10, ev10⟩ : ∃ y : Int32, y = x3 + 1 := ⟨_, rfl⟩
              have hf := rf_bindv hf ev10
              refine lv_iinc (v := v10) (lv' := [(3, .int v10), (2, .int x2), (0, .ref a_this), (1, .int p1)]) hx hb dX3_feel_72 hl (k := 3) rfl (by rw [ev10]; rfl) (by decide) rfl (fun ls hl => ?_)
              clear ev10
              refine lv_goto (tgt := 42) hx hb dX3_feel_75 (by decide) ?_
              exact ih x2 v10 ql hf _ _ _ hP hD hS (lv_sub hl [2, 3, 1, 0] rfl) kx
            · have hf := rf_ifn hf c9
              refine lv_iload_n hx hb dX3_feel_66 rfl (lv_at hl 3 rfl) ?_
              refine lv_goto (tgt := 71) hx hb dX3_feel_67 (by decide) ?_
              refine lv_istore_n (lv' := [(2, .int x3), (0, .ref a_this), (1, .int p1), (3, .int x3)]) hx hb dX3_feel_71 rfl hl (by decide) rfl (fun ls hl => ?_)
              obtain ⟨v11, ev11⟩ : ∃ y : Int32, y = x3 + 1 := ⟨_, rfl⟩
              have hf := rf_bindv hf ev11
              refine lv_iinc (v := v11) (lv' := [(3, .int v11), (2, .int x3), (0, .ref a_this), (1, .int p1)]) hx hb dX3_feel_72 hl (k := 3) rfl (by rw [ev11]; rfl) (by decide) rfl (fun ls hl => ?_)
              clear ev11
              refine lv_goto (tgt := 42) hx hb dX3_feel_75 (by decide) ?_
              exact ih x3 v11 ql hf _ _ _ hP hD hS (lv_sub hl [2, 3, 1, 0] rfl) kx
  rw [f_X3_feel] at hf
  refine lv_iload_n hx hb dX3_feel_0 rfl (lv_at hl 1 rfl) ?_
  refine lv_iconst (v := 0) hx hb dX3_feel_1 (by decide) ?_
  refine lv_iconst (v := 1) hx hb dX3_feel_2 (by decide) ?_
  obtain ⟨q12, hq12, hf⟩ := rf_bindq hf
  refine rf_Si (As := [.int p1, .int 0, .int 1]) (rest := []) (wr := [(a_this, .inr (3, rf_o3 a_this_s a_this_image a_this_read a_this_mind a_this_letters a_this_row a_this_refused a_this_numbers a_this_cost g_this)), (a_this_s, .inl (cA, 22, .inl f_this_s)), (a_this_row, .inl (cA, 12, .inl f_this_row)), (a_this_refused, .inl (cA, 7, .inl f_this_refused))]) (wn := [(a_this, .inr (3, rf_o3 a_this_s a_this_image a_this_read a_this_mind a_this_letters a_this_row a_this_refused a_this_numbers a_this_cost g_this)), (a_this_s, .inl (cA, 22, .inl f_this_s)), (a_this_row, .inl (cA, 12, .inl f_this_row)), (a_this_refused, .inl (cA, 7, .inl f_this_refused))]) ⟨hx, hb, hml, hown, hts⟩ hK hP hD hS hA hE (c_X3_isIn l D cA ad s.heap.size p1 0 1 q12 hq12) (va_cwS 3 hts gX3_feel_X3_isIn rfl rfl rfl hs_X3_isIn ⟨Nat.le_of_ble_eq_true rfl, Nat.le_of_ble_eq_true rfl⟩) [] [0, 1, 2, 3] [0, 1, 2, 3] rfl rfl rfl rfl (by decide) rfl rfl rfl rfl hl.1 (Nat.le_of_ble_eq_true rfl) dX3_feel_3 ⟨Nat.zero_le _, Nat.zero_le _⟩ (fun H locs hP hD hS => ?_)
  refine lv_if_ne (tgt := 16) hx hb dX3_feel_6 (by decide) (fun c13 => ?_) (fun c13 => ?_)
  · have hf := rf_ifn hf c13
    refine lv_aload_n hx hb dX3_feel_16 rfl (lv_at hl 0 rfl) ?_
    obtain ⟨q14, hq14, hf⟩ := rf_bindq hf
    refine rf_Vi (As := []) (rest := []) (wr := [(a_this_row, .inl (cA, 12, .inl f_this_row)), (a_this_refused, .inl (cA, 7, .inl f_this_refused))]) (wn := [(a_this, .inr (3, rf_o3 a_this_s a_this_image a_this_read a_this_mind a_this_letters a_this_row a_this_refused a_this_numbers a_this_cost g_this)), (a_this_s, .inl (cA, 22, .inl f_this_s)), (a_this_row, .inl (cA, 12, .inl f_this_row)), (a_this_refused, .inl (cA, 7, .inl f_this_refused))]) ⟨hx, hb, hml, hown, hts⟩ hK hP hD hS hA hE (c_X3_isOff l D cA ad a_this a_this_s a_this_image a_this_read a_this_mind a_this_letters a_this_row a_this_refused a_this_numbers a_this_cost H.size g_this f_this_s q14 hq14) (cwV 0 hts gX3_feel_X3_isOff rfl rfl rfl hv_X3_isOff ⟨Nat.le_of_ble_eq_true rfl, Nat.le_of_ble_eq_true rfl⟩) [0, 1] [2, 3] [2, 3, 0, 1] rfl rfl rfl rfl (by decide) rfl rfl 3 0 rfl rfl rfl rfl rfl hl.1 (Nat.le_of_ble_eq_true rfl) dX3_feel_17 ⟨Nat.zero_le _, Nat.zero_le _⟩ (fun H locs hP hD hS => ?_)
    refine lv_if_ne (tgt := 30) hx hb dX3_feel_20 (by decide) (fun c15 => ?_) (fun c15 => ?_)
    · have hf := rf_ifn hf c15
      refine lv_aload_n hx hb dX3_feel_30 rfl (lv_at hl 0 rfl) ?_
      refine lv_bipush (v := (-3)) hx hb dX3_feel_31 (by decide) ?_
      obtain ⟨q16, hq16, hf⟩ := rf_bindq hf
      refine rf_Vi (As := [.int (-3)]) (rest := []) (wr := [(a_this_s, .inl (cA, 22, .inl f_this_s)), (a_this_row, .inl (cA, 12, .inl f_this_row))]) (wn := [(a_this, .inr (3, rf_o3 a_this_s a_this_image a_this_read a_this_mind a_this_letters a_this_row a_this_refused a_this_numbers a_this_cost g_this)), (a_this_s, .inl (cA, 22, .inl f_this_s)), (a_this_row, .inl (cA, 12, .inl f_this_row)), (a_this_refused, .inl (cA, 7, .inl q16.2))]) ⟨hx, hb, hml, hown, hts⟩ hK hP hD hS hA hE (c_X3_no l D cA ad a_this a_this_s a_this_image a_this_read a_this_mind a_this_letters a_this_row a_this_refused a_this_numbers a_this_cost H.size g_this f_this_refused (-3) q16 hq16) (cwV 1 hts gX3_feel_X3_no rfl rfl rfl hv_X3_no ⟨Nat.le_of_ble_eq_true rfl, Nat.le_of_ble_eq_true rfl⟩) [0, 3] [1, 2] [2, 0, 1, 3] rfl rfl rfl rfl (by decide) rfl rfl 3 0 rfl rfl rfl rfl rfl hl.1 (Nat.le_of_ble_eq_true rfl) dX3_feel_33 ⟨Nat.zero_le _, Nat.zero_le _⟩ (fun H locs hP hD hS => ?_)
      obtain rfl := Option.some.inj hf
      exact W.iret (v := q16.1) hx hb hr (fun t ht hW => ⟨⟨q16.1, (), rfl, rfl, rf_mk ht hP hD⟩, hS.F ht⟩) hS.2.2 dX3_feel_36
    · have hf := rf_ifp hf c15
      refine lv_aload_n hx hb dX3_feel_23 rfl (lv_at hl 0 rfl) ?_
      obtain ⟨q17, hq17, hf⟩ := rf_bindq hf
      refine rf_Vi (As := []) (rest := []) (wr := [(a_this_s, .inl (cA, 22, .inl f_this_s)), (a_this_refused, .inl (cA, 7, .inl f_this_refused))]) (wn := [(a_this, .inr (3, rf_o3 a_this_s a_this_image a_this_read a_this_mind a_this_letters a_this_row a_this_refused a_this_numbers a_this_cost g_this)), (a_this_s, .inl (cA, 22, .inl f_this_s)), (a_this_row, .inl (cA, 12, .inl f_this_row)), (a_this_refused, .inl (cA, 7, .inl f_this_refused))]) ⟨hx, hb, hml, hown, hts⟩ hK hP hD hS hA hE (c_X3_areTold l D cA ad a_this a_this_s a_this_image a_this_read a_this_mind a_this_letters a_this_row a_this_refused a_this_numbers a_this_cost H.size g_this f_this_row q17 hq17) (cwV 0 hts gX3_feel_X3_areTold rfl rfl rfl hv_X3_areTold ⟨Nat.le_of_ble_eq_true rfl, Nat.le_of_ble_eq_true rfl⟩) [0, 2] [1, 3] [2, 0, 3, 1] rfl rfl rfl rfl (by decide) rfl rfl 3 0 rfl rfl rfl rfl rfl hl.1 (Nat.le_of_ble_eq_true rfl) dX3_feel_24 ⟨Nat.zero_le _, Nat.zero_le _⟩ (fun H locs hP hD hS => ?_)
      refine lv_if_ne (tgt := 37) hx hb dX3_feel_27 (by decide) (fun c18 => ?_) (fun c18 => ?_)
      · have hf := rf_ifn hf c18
        refine lv_bipush (v := (-9)) hx hb dX3_feel_37 (by decide) ?_
        refine lv_istore_n (lv' := [(2, .int (-9)), (0, .ref a_this), (1, .int p1)]) hx hb dX3_feel_39 rfl hl (by decide) rfl (fun ls hl => ?_)
        refine lv_iconst (v := 0) hx hb dX3_feel_40 (by decide) ?_
        refine lv_istore_n (lv' := [(3, .int 0), (2, .int (-9)), (0, .ref a_this), (1, .int p1)]) hx hb dX3_feel_41 rfl hl (by decide) rfl (fun ls hl => ?_)
        obtain ⟨q19, hq19, hf⟩ := rf_bindq hf
        refine key_42 f_this_refused rf_fu (-9) 0 q19 hq19 _ _ _ hP hD hS (lv_sub hl [2, 3, 1, 0] rfl) (fun H locs ls hP hD hS hl => ?_)
        refine lv_iload_n hx hb dX3_feel_78 rfl (lv_at hl 2 rfl) ?_
        obtain rfl := Option.some.inj hf
        exact W.iret (v := q19.1) hx hb hr (fun t ht hW => ⟨⟨q19.1, (), rfl, rfl, rf_mk ht hP hD⟩, hS.F ht⟩) hS.2.2 dX3_feel_79
      · have hf := rf_ifp hf c18
        refine lv_aload_n hx hb dX3_feel_30 rfl (lv_at hl 0 rfl) ?_
        refine lv_bipush (v := (-3)) hx hb dX3_feel_31 (by decide) ?_
        obtain ⟨q20, hq20, hf⟩ := rf_bindq hf
        refine rf_Vi (As := [.int (-3)]) (rest := []) (wr := [(a_this_s, .inl (cA, 22, .inl f_this_s)), (a_this_row, .inl (cA, 12, .inl f_this_row))]) (wn := [(a_this, .inr (3, rf_o3 a_this_s a_this_image a_this_read a_this_mind a_this_letters a_this_row a_this_refused a_this_numbers a_this_cost g_this)), (a_this_s, .inl (cA, 22, .inl f_this_s)), (a_this_row, .inl (cA, 12, .inl f_this_row)), (a_this_refused, .inl (cA, 7, .inl q20.2))]) ⟨hx, hb, hml, hown, hts⟩ hK hP hD hS hA hE (c_X3_no l D cA ad a_this a_this_s a_this_image a_this_read a_this_mind a_this_letters a_this_row a_this_refused a_this_numbers a_this_cost H.size g_this f_this_refused (-3) q20 hq20) (cwV 1 hts gX3_feel_X3_no rfl rfl rfl hv_X3_no ⟨Nat.le_of_ble_eq_true rfl, Nat.le_of_ble_eq_true rfl⟩) [0, 3] [1, 2] [2, 0, 1, 3] rfl rfl rfl rfl (by decide) rfl rfl 3 0 rfl rfl rfl rfl rfl hl.1 (Nat.le_of_ble_eq_true rfl) dX3_feel_33 ⟨Nat.zero_le _, Nat.zero_le _⟩ (fun H locs hP hD hS => ?_)
        obtain rfl := Option.some.inj hf
        exact W.iret (v := q20.1) hx hb hr (fun t ht hW => ⟨⟨q20.1, (), rfl, rfl, rf_mk ht hP hD⟩, hS.F ht⟩) hS.2.2 dX3_feel_36
  · have hf := rf_ifp hf c13
    refine lv_aload_n hx hb dX3_feel_9 rfl (lv_at hl 0 rfl) ?_
    refine lv_bipush (v := (-2)) hx hb dX3_feel_10 (by decide) ?_
    obtain ⟨q21, hq21, hf⟩ := rf_bindq hf
    refine rf_Vi (As := [.int (-2)]) (rest := []) (wr := [(a_this_s, .inl (cA, 22, .inl f_this_s)), (a_this_row, .inl (cA, 12, .inl f_this_row))]) (wn := [(a_this, .inr (3, rf_o3 a_this_s a_this_image a_this_read a_this_mind a_this_letters a_this_row a_this_refused a_this_numbers a_this_cost g_this)), (a_this_s, .inl (cA, 22, .inl f_this_s)), (a_this_row, .inl (cA, 12, .inl f_this_row)), (a_this_refused, .inl (cA, 7, .inl q21.2))]) ⟨hx, hb, hml, hown, hts⟩ hK hP hD hS hA hE (c_X3_no l D cA ad a_this a_this_s a_this_image a_this_read a_this_mind a_this_letters a_this_row a_this_refused a_this_numbers a_this_cost H.size g_this f_this_refused (-2) q21 hq21) (cwV 1 hts gX3_feel_X3_no rfl rfl rfl hv_X3_no ⟨Nat.le_of_ble_eq_true rfl, Nat.le_of_ble_eq_true rfl⟩) [0, 3] [1, 2] [2, 0, 1, 3] rfl rfl rfl rfl (by decide) rfl rfl 3 0 rfl rfl rfl rfl rfl hl.1 (Nat.le_of_ble_eq_true rfl) dX3_feel_12 ⟨Nat.zero_le _, Nat.zero_le _⟩ (fun H locs hP hD hS => ?_)
    obtain rfl := Option.some.inj hf
    exact W.iret (v := q21.1) hx hb hr (fun t ht hW => ⟨⟨q21.1, (), rfl, rfl, rf_mk ht hP hD⟩, hS.F ht⟩) hS.2.2 dX3_feel_15
theorem kX3_row_0 : (.fieldLink RX3 161 "RingAndFingerModel" "rowMany" "I" : Cond) ∈ wsX3_row := by decide +kernel
theorem kX3_row_1 : (.fieldLink RX3 25 "RingAndFingerModel" "row" "[I" : Cond) ∈ wsX3_row := by decide +kernel
theorem jX3_row_X3 : ∀ w ∈ u_ws RX3 TX3 16, w ∈ wsX3_row := by decide +kernel
set_option maxHeartbeats 8000000 in
set_option maxRecDepth 100000 in
theorem c_X3_row (l : Launch) (D : va_G) (cA : ClassId) (ad : Nat → Nat) (a_this a_this_s a_this_image a_this_read a_this_mind a_this_letters a_this_row a_this_refused a_this_numbers a_this_cost : Nat) (sz : Nat) (g_this f_this_row f_this_refused : Nat → Int32) (p1 : Int32) (q : Int32 × (Nat → Int32) × (Nat → Int32) × (Nat → Int32)) (hf : f_X3_row g_this f_this_row f_this_refused p1 = some q) : Met l yX3_row wsX3_row ({ frames := 1, cells := 0, slots := 0, locals := 21 } : Room) (va_Pc [.ref a_this, .int p1] (rf_Pre D cA ad [(a_this, .inr (3, rf_o3 a_this_s a_this_image a_this_read a_this_mind a_this_letters a_this_row a_this_refused a_this_numbers a_this_cost g_this)), (a_this_row, .inl (cA, 12, .inl f_this_row)), (a_this_refused, .inl (cA, 7, .inl f_this_refused))] sz)) (va_Qi (fun (r : Int32) (_ : Unit) => r = q.1) (fun _ t => rf_Post D (va_A [(a_this, .inr (3, rf_o3 a_this_s a_this_image a_this_read a_this_mind a_this_letters a_this_row a_this_refused a_this_numbers a_this_cost g_this)), (a_this_row, .inl (cA, 12, .inl f_this_row)), (a_this_refused, .inl (cA, 7, .inl f_this_refused))] sz) [(a_this, .inr (3, rf_o3 a_this_s a_this_image a_this_read a_this_mind a_this_letters a_this_row a_this_refused a_this_numbers a_this_cost q.2.1)), (a_this_row, .inl (cA, 12, .inl q.2.2.1)), (a_this_refused, .inl (cA, 7, .inl q.2.2.2))] t) (va_A [(a_this, .inr (3, rf_o3 a_this_s a_this_image a_this_read a_this_mind a_this_letters a_this_row a_this_refused a_this_numbers a_this_cost g_this)), (a_this_row, .inl (cA, 12, .inl f_this_row)), (a_this_refused, .inl (cA, 7, .inl f_this_refused))] sz)) 0 0 (va_A [(a_this, .inr (3, rf_o3 a_this_s a_this_image a_this_read a_this_mind a_this_letters a_this_row a_this_refused a_this_numbers a_this_cost g_this)), (a_this_row, .inl (cA, 12, .inl f_this_row)), (a_this_refused, .inl (cA, 7, .inl f_this_refused))] sz) := by
  refine Met.ofW (cc := cX3_row) (maxL := 2) (ret := (some .int)) (by decide) rfl ?_
  intro p e s m args below meth c s₁ B hml hv
  obtain ⟨rfl, hsz, hP, hK, hD0, hE⟩ := hv
  have hx := B.exec
  have hb := B.bytes
  have hr := B.returns
  have hts := atoms_spec (ws := wsX3_row) B.pre
  have hown : s.vm.findClass RX3 = some m.cls := findClass_of_methodNamed B.named
  have hlocks := B.notSynchronized
  subst hsz
  have hD := hD0.self (sz := s.heap.size)
  generalize hAe : va_A [(a_this, .inr (3, rf_o3 a_this_s a_this_image a_this_read a_this_mind a_this_letters a_this_row a_this_refused a_this_numbers a_this_cost g_this)), (a_this_row, .inl (cA, 12, .inl f_this_row)), (a_this_refused, .inl (cA, 7, .inl f_this_refused))] s.heap.size = A at hD hE ⊢
  have hA : ∀ q : Nat, s.heap.size ≤ q → A q := fun q h => by rw [← hAe]; exact Or.inr h
  have hS : va_S A s.heap s.heap [] := va_S.rf
  have hP : va_P D vwCl [(a_this, .inr (3, rf_o3 a_this_s a_this_image a_this_read a_this_mind a_this_letters a_this_row a_this_refused a_this_numbers a_this_cost g_this)), (a_this_row, .inl (cA, 12, .inl f_this_row)), (a_this_refused, .inl (cA, 7, .inl f_this_refused))] s.heap := hP
  have hl := lv_entry ([.ref a_this, .int p1]) (n := 2) (Nat.le_of_ble_eq_true rfl)
  rw [lg_entry_eq]
  generalize (lg_sl ([.ref a_this, .int p1]) ++ List.replicate (2 - (lg_sl ([.ref a_this, .int p1])).length) Slot.unset).toArray = ls at hl ⊢
  have hl : lv_has ls 2 [(0, .ref a_this), (1, .int p1)] := hl
  rw [f_X3_row] at hf
  refine lv_iload_n hx hb dX3_row_0 rfl (lv_at hl 1 rfl) ?_
  refine lv_if_ge (tgt := 11) hx hb dX3_row_1 (by decide) (fun c1 => ?_) (fun c1 => ?_)
  · have hf := rf_ifp hf c1
    refine lv_iload_n hx hb dX3_row_11 rfl (lv_at hl 1 rfl) ?_
    refine lv_bipush (v := 9) hx hb dX3_row_12 (by decide) ?_
    refine lv_icmp_gt (tgt := 26) hx hb dX3_row_14 (by decide) (fun c2 => ?_) (fun c2 => ?_)
    · have hf := rf_ifp hf c2
      refine lv_aload_n hx hb dX3_row_26 rfl (lv_at hl 0 rfl) ?_
      refine lv_bipush (v := (-6)) hx hb dX3_row_27 (by decide) ?_
      obtain ⟨q3, hq3, hf⟩ := rf_bindq hf
      refine rf_Vi (As := [.int (-6)]) (rest := []) (wr := [(a_this_row, .inl (cA, 12, .inl f_this_row))]) (wn := [(a_this, .inr (3, rf_o3 a_this_s a_this_image a_this_read a_this_mind a_this_letters a_this_row a_this_refused a_this_numbers a_this_cost g_this)), (a_this_row, .inl (cA, 12, .inl f_this_row)), (a_this_refused, .inl (cA, 7, .inl q3.2))]) ⟨hx, hb, hml, hown, hts⟩ hK hP hD hS hA hE (c_X3_no l D cA ad a_this a_this_s a_this_image a_this_read a_this_mind a_this_letters a_this_row a_this_refused a_this_numbers a_this_cost s.heap.size g_this f_this_refused (-6) q3 hq3) (cwV 1 hts gX3_row_X3_no rfl rfl rfl hv_X3_no ⟨Nat.le_of_ble_eq_true rfl, Nat.le_of_ble_eq_true rfl⟩) [0, 2] [1] [1, 0, 2] rfl rfl rfl rfl (by decide) rfl rfl 3 0 rfl rfl rfl rfl rfl hl.1 (Nat.le_of_ble_eq_true rfl) dX3_row_29 ⟨Nat.zero_le _, Nat.zero_le _⟩ (fun H locs hP hD hS => ?_)
      obtain rfl := Option.some.inj hf
      exact W.iret (v := q3.1) hx hb hr (fun t ht hW => ⟨⟨q3.1, (), rfl, rfl, rf_mk ht hP hD⟩, hS.F ht⟩) hS.2.2 dX3_row_32
    · have hf := rf_ifn hf c2
      refine lv_aload_n hx hb dX3_row_17 rfl (lv_at hl 0 rfl) ?_
      refine va_get (D := D) (ci := 3) (v := .int (g_this 2)) (C := RX3) (T := TX3) (N := 16) hx hb hts jX3_row_X3 hown hK hP 0 rfl rfl 9 (by decide) (hts _ kX3_row_0) (fun _ h9 => h9) rfl dX3_row_18 ?_
      refine lv_bipush (v := 12) hx hb dX3_row_21 (by decide) ?_
      refine lv_icmp_ne (tgt := 33) hx hb dX3_row_23 (by decide) (fun c4 => ?_) (fun c4 => ?_)
      · have hf := rf_ifn hf c4
        refine lv_aload_n hx hb dX3_row_33 rfl (lv_at hl 0 rfl) ?_
        refine va_get (D := D) (ci := 3) (v := .ref a_this_row) (C := RX3) (T := TX3) (N := 16) hx hb hts jX3_row_X3 hown hK hP 0 rfl rfl 6 (by decide) (hts _ kX3_row_1) (fun _ h9 => h9) rfl dX3_row_34 ?_
        refine lv_aload_n hx hb dX3_row_37 rfl (lv_at hl 0 rfl) ?_
        refine va_get (D := D) (ci := 3) (v := .int (g_this 2)) (C := RX3) (T := TX3) (N := 16) hx hb hts jX3_row_X3 hown hK hP 0 rfl rfl 9 (by decide) (hts _ kX3_row_0) (fun _ h9 => h9) rfl dX3_row_38 ?_
        refine lv_iload_n hx hb dX3_row_41 rfl (lv_at hl 1 rfl) ?_
        obtain ⟨c5, hf⟩ := rf_chk hf
        refine va_iast hx hb hK hP hD hS 1 0 rfl rfl c5 dX3_row_42 (fun H locs hP hD hS => ?_)
        have hP : va_P D vwCl [(a_this, .inr (3, rf_o3 a_this_s a_this_image a_this_read a_this_mind a_this_letters a_this_row a_this_refused a_this_numbers a_this_cost g_this)), (a_this_row, .inl (cA, 12, .inl (upd f_this_row ((g_this 2).toNatClampNeg) p1))), (a_this_refused, .inl (cA, 7, .inl f_this_refused))] H := hP
        have hD : va_D A [(a_this, .inr (3, rf_o3 a_this_s a_this_image a_this_read a_this_mind a_this_letters a_this_row a_this_refused a_this_numbers a_this_cost g_this)), (a_this_row, .inl (cA, 12, .inl (upd f_this_row ((g_this 2).toNatClampNeg) p1))), (a_this_refused, .inl (cA, 7, .inl f_this_refused))] := hD
        refine lv_aload_n hx hb dX3_row_43 rfl (lv_at hl 0 rfl) ?_
        refine lv_dup hx hb dX3_row_44 rfl ?_
        refine va_get (D := D) (ci := 3) (v := .int (g_this 2)) (C := RX3) (T := TX3) (N := 16) hx hb hts jX3_row_X3 hown hK hP 0 rfl rfl 9 (by decide) (hts _ kX3_row_0) (fun _ h9 => h9) rfl dX3_row_45 ?_
        refine lv_iconst (v := 1) hx hb dX3_row_48 (by decide) ?_
        refine lv_iadd hx hb dX3_row_49 ?_
        refine lv_topi (fun v6 ev6 => ?_)
        have hf := rf_bindv hf ev6
        clear ev6
        refine va_put (D := D) (ci := 3) (v := .int v6) (ty := .int) (C := RX3) (T := TX3) (N := 16) hx hb hts jX3_row_X3 tyX3 tyX3_ok nmX3 hown hK hP hD hS 0 rfl rfl 9 (by decide) (hts _ kX3_row_0) (fun _ h9 => h9) rfl (by decide +kernel) rfl rfl (Nat.le_of_ble_eq_true rfl) dX3_row_50 (fun H locs hP hD hS => ?_)
        have hP : va_P D vwCl [(a_this, .inr (3, rf_o3 a_this_s a_this_image a_this_read a_this_mind a_this_letters a_this_row a_this_refused a_this_numbers a_this_cost (upd g_this 2 v6))), (a_this_row, .inl (cA, 12, .inl (upd f_this_row ((g_this 2).toNatClampNeg) p1))), (a_this_refused, .inl (cA, 7, .inl f_this_refused))] H := hP
        have hD : va_D A [(a_this, .inr (3, rf_o3 a_this_s a_this_image a_this_read a_this_mind a_this_letters a_this_row a_this_refused a_this_numbers a_this_cost (upd g_this 2 v6))), (a_this_row, .inl (cA, 12, .inl (upd f_this_row ((g_this 2).toNatClampNeg) p1))), (a_this_refused, .inl (cA, 7, .inl f_this_refused))] := hD
        refine lv_aload_n hx hb dX3_row_53 rfl (lv_at hl 0 rfl) ?_
        refine va_get (D := D) (ci := 3) (v := .int v6) (C := RX3) (T := TX3) (N := 16) hx hb hts jX3_row_X3 hown hK hP 0 rfl rfl 9 (by decide) (hts _ kX3_row_0) (fun _ h9 => h9) rfl dX3_row_54 ?_
        obtain rfl := Option.some.inj hf
        exact W.iret (v := v6) hx hb hr (fun t ht hW => ⟨⟨v6, (), rfl, rfl, rf_mk ht hP hD⟩, hS.F ht⟩) hS.2.2 dX3_row_57
      · have hf := rf_ifp hf c4
        refine lv_aload_n hx hb dX3_row_26 rfl (lv_at hl 0 rfl) ?_
        refine lv_bipush (v := (-6)) hx hb dX3_row_27 (by decide) ?_
        obtain ⟨q7, hq7, hf⟩ := rf_bindq hf
        refine rf_Vi (As := [.int (-6)]) (rest := []) (wr := [(a_this_row, .inl (cA, 12, .inl f_this_row))]) (wn := [(a_this, .inr (3, rf_o3 a_this_s a_this_image a_this_read a_this_mind a_this_letters a_this_row a_this_refused a_this_numbers a_this_cost g_this)), (a_this_row, .inl (cA, 12, .inl f_this_row)), (a_this_refused, .inl (cA, 7, .inl q7.2))]) ⟨hx, hb, hml, hown, hts⟩ hK hP hD hS hA hE (c_X3_no l D cA ad a_this a_this_s a_this_image a_this_read a_this_mind a_this_letters a_this_row a_this_refused a_this_numbers a_this_cost s.heap.size g_this f_this_refused (-6) q7 hq7) (cwV 1 hts gX3_row_X3_no rfl rfl rfl hv_X3_no ⟨Nat.le_of_ble_eq_true rfl, Nat.le_of_ble_eq_true rfl⟩) [0, 2] [1] [1, 0, 2] rfl rfl rfl rfl (by decide) rfl rfl 3 0 rfl rfl rfl rfl rfl hl.1 (Nat.le_of_ble_eq_true rfl) dX3_row_29 ⟨Nat.zero_le _, Nat.zero_le _⟩ (fun H locs hP hD hS => ?_)
        obtain rfl := Option.some.inj hf
        exact W.iret (v := q7.1) hx hb hr (fun t ht hW => ⟨⟨q7.1, (), rfl, rfl, rf_mk ht hP hD⟩, hS.F ht⟩) hS.2.2 dX3_row_32
  · have hf := rf_ifn hf c1
    refine lv_aload_n hx hb dX3_row_4 rfl (lv_at hl 0 rfl) ?_
    refine lv_bipush (v := (-4)) hx hb dX3_row_5 (by decide) ?_
    obtain ⟨q8, hq8, hf⟩ := rf_bindq hf
    refine rf_Vi (As := [.int (-4)]) (rest := []) (wr := [(a_this_row, .inl (cA, 12, .inl f_this_row))]) (wn := [(a_this, .inr (3, rf_o3 a_this_s a_this_image a_this_read a_this_mind a_this_letters a_this_row a_this_refused a_this_numbers a_this_cost g_this)), (a_this_row, .inl (cA, 12, .inl f_this_row)), (a_this_refused, .inl (cA, 7, .inl q8.2))]) ⟨hx, hb, hml, hown, hts⟩ hK hP hD hS hA hE (c_X3_no l D cA ad a_this a_this_s a_this_image a_this_read a_this_mind a_this_letters a_this_row a_this_refused a_this_numbers a_this_cost s.heap.size g_this f_this_refused (-4) q8 hq8) (cwV 1 hts gX3_row_X3_no rfl rfl rfl hv_X3_no ⟨Nat.le_of_ble_eq_true rfl, Nat.le_of_ble_eq_true rfl⟩) [0, 2] [1] [1, 0, 2] rfl rfl rfl rfl (by decide) rfl rfl 3 0 rfl rfl rfl rfl rfl hl.1 (Nat.le_of_ble_eq_true rfl) dX3_row_7 ⟨Nat.zero_le _, Nat.zero_le _⟩ (fun H locs hP hD hS => ?_)
    obtain rfl := Option.some.inj hf
    exact W.iret (v := q8.1) hx hb hr (fun t ht hW => ⟨⟨q8.1, (), rfl, rfl, rf_mk ht hP hD⟩, hS.F ht⟩) hS.2.2 dX3_row_10
theorem kX3_judge_0 : (.fieldLink RX3 161 "RingAndFingerModel" "rowMany" "I" : Cond) ∈ wsX3_judge := by decide +kernel
theorem kX3_judge_1 : (.fieldLink RX3 25 "RingAndFingerModel" "row" "[I" : Cond) ∈ wsX3_judge := by decide +kernel
theorem jX3_judge_X3 : ∀ w ∈ u_ws RX3 TX3 16, w ∈ wsX3_judge := by decide +kernel
set_option maxHeartbeats 8000000 in
set_option maxRecDepth 100000 in
theorem c_X3_judge (l : Launch) (D : va_G) (cA : ClassId) (ad : Nat → Nat) (a_this a_this_s a_this_image a_this_read a_this_mind a_this_letters a_this_row a_this_refused a_this_numbers a_this_cost : Nat) (sz : Nat) (g_this f_this_s f_this_mind f_this_row : Nat → Int32) (q : Int32 × (Nat → Int32) × (Nat → Int32) × (Nat → Int32)) (hf : f_X3_judge g_this f_this_s f_this_mind f_this_row = some q) : Met l yX3_judge wsX3_judge ({ frames := 6, cells := 0, slots := 0, locals := 138 } : Room) (va_Pc [.ref a_this] (rf_Pre D cA ad [(a_this, .inr (3, rf_o3 a_this_s a_this_image a_this_read a_this_mind a_this_letters a_this_row a_this_refused a_this_numbers a_this_cost g_this)), (a_this_s, .inl (cA, 22, .inl f_this_s)), (a_this_mind, .inl (cA, 22, .inl f_this_mind)), (a_this_row, .inl (cA, 12, .inl f_this_row))] sz)) (va_Qi (fun (r : Int32) (_ : Unit) => r = q.1) (fun _ t => rf_Post D (va_A [(a_this, .inr (3, rf_o3 a_this_s a_this_image a_this_read a_this_mind a_this_letters a_this_row a_this_refused a_this_numbers a_this_cost g_this)), (a_this_s, .inl (cA, 22, .inl f_this_s)), (a_this_mind, .inl (cA, 22, .inl f_this_mind)), (a_this_row, .inl (cA, 12, .inl f_this_row))] sz) [(a_this, .inr (3, rf_o3 a_this_s a_this_image a_this_read a_this_mind a_this_letters a_this_row a_this_refused a_this_numbers a_this_cost q.2.1)), (a_this_s, .inl (cA, 22, .inl q.2.2.1)), (a_this_mind, .inl (cA, 22, .inl q.2.2.2)), (a_this_row, .inl (cA, 12, .inl f_this_row))] t) (va_A [(a_this, .inr (3, rf_o3 a_this_s a_this_image a_this_read a_this_mind a_this_letters a_this_row a_this_refused a_this_numbers a_this_cost g_this)), (a_this_s, .inl (cA, 22, .inl f_this_s)), (a_this_mind, .inl (cA, 22, .inl f_this_mind)), (a_this_row, .inl (cA, 12, .inl f_this_row))] sz)) 0 0 (va_A [(a_this, .inr (3, rf_o3 a_this_s a_this_image a_this_read a_this_mind a_this_letters a_this_row a_this_refused a_this_numbers a_this_cost g_this)), (a_this_s, .inl (cA, 22, .inl f_this_s)), (a_this_mind, .inl (cA, 22, .inl f_this_mind)), (a_this_row, .inl (cA, 12, .inl f_this_row))] sz) := by
  refine Met.ofW (cc := cX3_judge) (maxL := 4) (ret := (some .int)) (by decide) rfl ?_
  intro p e s m args below meth c s₁ B hml hv
  obtain ⟨rfl, hsz, hP, hK, hD0, hE⟩ := hv
  have hx := B.exec
  have hb := B.bytes
  have hr := B.returns
  have hts := atoms_spec (ws := wsX3_judge) B.pre
  have hown : s.vm.findClass RX3 = some m.cls := findClass_of_methodNamed B.named
  have hlocks := B.notSynchronized
  subst hsz
  have hD := hD0.self (sz := s.heap.size)
  generalize hAe : va_A [(a_this, .inr (3, rf_o3 a_this_s a_this_image a_this_read a_this_mind a_this_letters a_this_row a_this_refused a_this_numbers a_this_cost g_this)), (a_this_s, .inl (cA, 22, .inl f_this_s)), (a_this_mind, .inl (cA, 22, .inl f_this_mind)), (a_this_row, .inl (cA, 12, .inl f_this_row))] s.heap.size = A at hD hE ⊢
  have hA : ∀ q : Nat, s.heap.size ≤ q → A q := fun q h => by rw [← hAe]; exact Or.inr h
  have hS : va_S A s.heap s.heap [] := va_S.rf
  have hP : va_P D vwCl [(a_this, .inr (3, rf_o3 a_this_s a_this_image a_this_read a_this_mind a_this_letters a_this_row a_this_refused a_this_numbers a_this_cost g_this)), (a_this_s, .inl (cA, 22, .inl f_this_s)), (a_this_mind, .inl (cA, 22, .inl f_this_mind)), (a_this_row, .inl (cA, 12, .inl f_this_row))] s.heap := hP
  have hl := lv_entry ([.ref a_this]) (n := 4) (Nat.le_of_ble_eq_true rfl)
  rw [lg_entry_eq]
  generalize (lg_sl ([.ref a_this]) ++ List.replicate (4 - (lg_sl ([.ref a_this])).length) Slot.unset).toArray = ls at hl ⊢
  have hl : lv_has ls 4 [(0, .ref a_this)] := hl
  have key_9 : ∀ (yg_this yf_this_mind : Nat → Int32) (n : Nat) (x1 x2 : Int32) (yf_this_s : Nat → Int32) (ql : Int32 × Int32 × (Nat → Int32)), f_X3_judge_L9 f_this_row yg_this yf_this_mind n x1 x2 yf_this_s = some ql → ∀ (H : Heap) (locs : List Loc) (ls : Array Slot), va_P D vwCl [(a_this, .inr (3, rf_o3 a_this_s a_this_image a_this_read a_this_mind a_this_letters a_this_row a_this_refused a_this_numbers a_this_cost yg_this)), (a_this_s, .inl (cA, 22, .inl yf_this_s)), (a_this_mind, .inl (cA, 22, .inl yf_this_mind)), (a_this_row, .inl (cA, 12, .inl f_this_row))] H → va_D A [(a_this, .inr (3, rf_o3 a_this_s a_this_image a_this_read a_this_mind a_this_letters a_this_row a_this_refused a_this_numbers a_this_cost yg_this)), (a_this_s, .inl (cA, 22, .inl yf_this_s)), (a_this_mind, .inl (cA, 22, .inl yf_this_mind)), (a_this_row, .inl (cA, 12, .inl f_this_row))] → va_S A s.heap H locs → lv_has ls 4 [(0, .ref a_this), (1, .int x1), (2, .int x2)] → (∀ (H : Heap) (locs : List Loc) (ls : Array Slot), va_P D vwCl [(a_this, .inr (3, rf_o3 a_this_s a_this_image a_this_read a_this_mind a_this_letters a_this_row a_this_refused a_this_numbers a_this_cost yg_this)), (a_this_s, .inl (cA, 22, .inl ql.2.2)), (a_this_mind, .inl (cA, 22, .inl yf_this_mind)), (a_this_row, .inl (cA, 12, .inl f_this_row))] H → va_D A [(a_this, .inr (3, rf_o3 a_this_s a_this_image a_this_read a_this_mind a_this_letters a_this_row a_this_refused a_this_numbers a_this_cost yg_this)), (a_this_s, .inl (cA, 22, .inl ql.2.2)), (a_this_mind, .inl (cA, 22, .inl yf_this_mind)), (a_this_row, .inl (cA, 12, .inl f_this_row))] → va_S A s.heap H locs → lv_has ls 4 [(0, .ref a_this), (1, .int ql.1), (2, .int ql.2.1)] → W p l e (headSpec wsX3_judge ({ frames := 6, cells := 0, slots := 0, locals := 138 } : Room)).room s m ([.ref a_this] : List Value).toArray below meth c H locs 0 0 (MQ below (va_Qi (fun (r : Int32) (_ : Unit) => r = q.1) (fun _ t => rf_Post D A [(a_this, .inr (3, rf_o3 a_this_s a_this_image a_this_read a_this_mind a_this_letters a_this_row a_this_refused a_this_numbers a_this_cost q.2.1)), (a_this_s, .inl (cA, 22, .inl q.2.2.1)), (a_this_mind, .inl (cA, 22, .inl q.2.2.2)), (a_this_row, .inl (cA, 12, .inl f_this_row))] t) A) ([.ref a_this] : List Value).toArray s 0 0 A) (F0 m 88 ls [])) → W p l e (headSpec wsX3_judge ({ frames := 6, cells := 0, slots := 0, locals := 138 } : Room)).room s m ([.ref a_this] : List Value).toArray below meth c H locs 0 0 (MQ below (va_Qi (fun (r : Int32) (_ : Unit) => r = q.1) (fun _ t => rf_Post D A [(a_this, .inr (3, rf_o3 a_this_s a_this_image a_this_read a_this_mind a_this_letters a_this_row a_this_refused a_this_numbers a_this_cost q.2.1)), (a_this_s, .inl (cA, 22, .inl q.2.2.1)), (a_this_mind, .inl (cA, 22, .inl q.2.2.2)), (a_this_row, .inl (cA, 12, .inl f_this_row))] t) A) ([.ref a_this] : List Value).toArray s 0 0 A) (F0 m 9 ls []) := by
    intro yg_this yf_this_mind n
    induction n with
    | zero =>
      intro x1 x2 yf_this_s ql hf H locs ls hP hD hS hl kx
      exact absurd (show (none : Option (Int32 × Int32 × (Nat → Int32))) = some ql from hf) (fun h9 => by cases h9)
    | succ n ih =>
      intro x1 x2 yf_this_s ql hf H locs ls hP hD hS hl kx
      rw [f_X3_judge_L9] at hf
      refine lv_iload_n hx hb dX3_judge_9 rfl (lv_at hl 2 rfl) ?_
      refine lv_aload_n hx hb dX3_judge_10 rfl (lv_at hl 0 rfl) ?_
      refine va_get (D := D) (ci := 3) (v := .int (yg_this 2)) (C := RX3) (T := TX3) (N := 16) hx hb hts jX3_judge_X3 hown hK hP 0 rfl rfl 9 (by decide) (hts _ kX3_judge_0) (fun _ h9 => h9) rfl dX3_judge_11 ?_
      refine lv_icmp_ge (tgt := 88) hx hb dX3_judge_14 (by decide) (fun c1 => ?_) (fun c1 => ?_)
      · have hf := rf_ifp hf c1
        obtain rfl := Option.some.inj hf
        exact kx _ _ _ hP hD hS (lv_sub hl [0, 1, 2] rfl)
      · have hf := rf_ifn hf c1
        refine lv_iload_n hx hb dX3_judge_17 rfl (lv_at hl 1 rfl) ?_
        refine lv_if_ge (tgt := 88) hx hb dX3_judge_18 (by decide) (fun c2 => ?_) (fun c2 => ?_)
        · have hf := rf_ifp hf c2
          obtain rfl := Option.some.inj hf
          exact kx _ _ _ hP hD hS (lv_sub hl [0, 1, 2] rfl)
        · have hf := rf_ifn hf c2
          refine lv_aload_n hx hb dX3_judge_21 rfl (lv_at hl 0 rfl) ?_
          obtain ⟨q3, hq3, hf⟩ := rf_bindq hf
          refine rf_Vi (As := []) (rest := []) (wr := [(a_this_mind, .inl (cA, 22, .inl yf_this_mind)), (a_this_row, .inl (cA, 12, .inl f_this_row))]) (wn := [(a_this, .inr (3, rf_o3 a_this_s a_this_image a_this_read a_this_mind a_this_letters a_this_row a_this_refused a_this_numbers a_this_cost yg_this)), (a_this_s, .inl (cA, 22, .inl yf_this_s)), (a_this_mind, .inl (cA, 22, .inl yf_this_mind)), (a_this_row, .inl (cA, 12, .inl f_this_row))]) ⟨hx, hb, hml, hown, hts⟩ hK hP hD hS hA hE (c_X3_isOff l D cA ad a_this a_this_s a_this_image a_this_read a_this_mind a_this_letters a_this_row a_this_refused a_this_numbers a_this_cost H.size yg_this yf_this_s q3 hq3) (cwV 0 hts gX3_judge_X3_isOff rfl rfl rfl hv_X3_isOff ⟨Nat.le_of_ble_eq_true rfl, Nat.le_of_ble_eq_true rfl⟩) [0, 1] [2, 3] [2, 3, 0, 1] rfl rfl rfl rfl (by decide) rfl rfl 3 0 rfl rfl rfl rfl rfl hl.1 (Nat.le_of_ble_eq_true rfl) dX3_judge_22 ⟨Nat.zero_le _, Nat.zero_le _⟩ (fun H locs hP hD hS => ?_)
          refine lv_if_ne (tgt := 88) hx hb dX3_judge_25 (by decide) (fun c4 => ?_) (fun c4 => ?_)
          · have hf := rf_ifn hf c4
            obtain rfl := Option.some.inj hf
            exact kx _ _ _ hP hD hS (lv_sub hl [0, 1, 2] rfl)
          · have hf := rf_ifp hf c4
            refine lv_aload_n hx hb dX3_judge_28 rfl (lv_at hl 0 rfl) ?_
            refine va_get (D := D) (ci := 3) (v := .ref a_this_row) (C := RX3) (T := TX3) (N := 16) hx hb hts jX3_judge_X3 hown hK hP 0 rfl rfl 6 (by decide) (hts _ kX3_judge_1) (fun _ h9 => h9) rfl dX3_judge_29 ?_
            refine lv_iload_n hx hb dX3_judge_32 rfl (lv_at hl 2 rfl) ?_
            obtain ⟨c5, hf⟩ := rf_chk hf
            refine va_iald hx hb hK hP 3 0 rfl rfl c5 dX3_judge_33 ?_
            refine lv_bipush (v := 7) hx hb dX3_judge_34 (by decide) ?_
            refine lv_icmp_ne (tgt := 44) hx hb dX3_judge_36 (by decide) (fun c6 => ?_) (fun c6 => ?_)
            · have hf := rf_ifn hf c6
              refine lv_aload_n hx hb dX3_judge_44 rfl (lv_at hl 0 rfl) ?_
              refine va_get (D := D) (ci := 3) (v := .ref a_this_row) (C := RX3) (T := TX3) (N := 16) hx hb hts jX3_judge_X3 hown hK hP 0 rfl rfl 6 (by decide) (hts _ kX3_judge_1) (fun _ h9 => h9) rfl dX3_judge_45 ?_
              refine lv_iload_n hx hb dX3_judge_48 rfl (lv_at hl 2 rfl) ?_
              obtain ⟨c7, hf⟩ := rf_chk hf
              refine va_iald hx hb hK hP 3 0 rfl rfl c7 dX3_judge_49 ?_
              refine lv_bipush (v := 7) hx hb dX3_judge_50 (by decide) ?_
              refine lv_icmp_lt (tgt := 58) hx hb dX3_judge_52 (by decide) (fun c8 => ?_) (fun c8 => ?_)
              · have hf := rf_ifp hf c8
                refine lv_aload_n hx hb dX3_judge_58 rfl (lv_at hl 0 rfl) ?_
                refine lv_aload_n hx hb dX3_judge_59 rfl (lv_at hl 0 rfl) ?_
                refine va_get (D := D) (ci := 3) (v := .ref a_this_row) (C := RX3) (T := TX3) (N := 16) hx hb hts jX3_judge_X3 hown hK hP 0 rfl rfl 6 (by decide) (hts _ kX3_judge_1) (fun _ h9 => h9) rfl dX3_judge_60 ?_
                refine lv_iload_n hx hb dX3_judge_63 rfl (lv_at hl 2 rfl) ?_
                obtain ⟨c9, hf⟩ := rf_chk hf
                refine va_iald hx hb hK hP 3 0 rfl rfl c9 dX3_judge_64 ?_
                obtain ⟨q10, hq10, hf⟩ := rf_bindq hf
                refine rf_Vi (As := [.int (f_this_row (x2.toNatClampNeg))]) (rest := []) (wr := [(a_this_mind, .inl (cA, 22, .inl yf_this_mind)), (a_this_row, .inl (cA, 12, .inl f_this_row))]) (wn := [(a_this, .inr (3, rf_o3 a_this_s a_this_image a_this_read a_this_mind a_this_letters a_this_row a_this_refused a_this_numbers a_this_cost yg_this)), (a_this_s, .inl (cA, 22, .inl q10.2)), (a_this_mind, .inl (cA, 22, .inl yf_this_mind)), (a_this_row, .inl (cA, 12, .inl f_this_row))]) ⟨hx, hb, hml, hown, hts⟩ hK hP hD hS hA hE (c_X3_tried l D cA ad a_this a_this_s a_this_image a_this_read a_this_mind a_this_letters a_this_row a_this_refused a_this_numbers a_this_cost H.size yg_this yf_this_s (f_this_row (x2.toNatClampNeg)) q10 hq10) (cwV 1 hts gX3_judge_X3_tried rfl rfl rfl hv_X3_tried ⟨Nat.le_of_ble_eq_true rfl, Nat.le_of_ble_eq_true rfl⟩) [0, 1] [2, 3] [2, 3, 0, 1] rfl rfl rfl rfl (by decide) rfl rfl 3 0 rfl rfl rfl rfl rfl hl.1 (Nat.le_of_ble_eq_true rfl) dX3_judge_65 ⟨Nat.zero_le _, Nat.zero_le _⟩ (fun H locs hP hD hS => ?_)
                refine lv_istore_n (lv' := [(3, .int q10.1), (0, .ref a_this), (1, .int x1), (2, .int x2)]) hx hb dX3_judge_68 rfl hl (by decide) rfl (fun ls hl => ?_)
                refine lv_aload_n hx hb dX3_judge_69 rfl (lv_at hl 1 rfl) ?_
                obtain ⟨q11, hq11, hf⟩ := rf_bindq hf
                refine rf_Vi (As := []) (rest := []) (wr := [(a_this_mind, .inl (cA, 22, .inl yf_this_mind)), (a_this_row, .inl (cA, 12, .inl f_this_row))]) (wn := [(a_this, .inr (3, rf_o3 a_this_s a_this_image a_this_read a_this_mind a_this_letters a_this_row a_this_refused a_this_numbers a_this_cost yg_this)), (a_this_s, .inl (cA, 22, .inl q10.2)), (a_this_mind, .inl (cA, 22, .inl yf_this_mind)), (a_this_row, .inl (cA, 12, .inl f_this_row))]) ⟨hx, hb, hml, hown, hts⟩ hK hP hD hS hA hE (c_X3_isOff l D cA ad a_this a_this_s a_this_image a_this_read a_this_mind a_this_letters a_this_row a_this_refused a_this_numbers a_this_cost H.size yg_this q10.2 q11 hq11) (cwV 0 hts gX3_judge_X3_isOff rfl rfl rfl hv_X3_isOff ⟨Nat.le_of_ble_eq_true rfl, Nat.le_of_ble_eq_true rfl⟩) [0, 1] [2, 3] [2, 3, 0, 1] rfl rfl rfl rfl (by decide) rfl rfl 3 0 rfl rfl rfl rfl rfl hl.1 (Nat.le_of_ble_eq_true rfl) dX3_judge_70 ⟨Nat.zero_le _, Nat.zero_le _⟩ (fun H locs hP hD hS => ?_)
                refine lv_if_eq (tgt := 80) hx hb dX3_judge_73 (by decide) (fun c12 => ?_) (fun c12 => ?_)
                · have hf := rf_ifp hf c12
                  refine lv_iload_n hx hb dX3_judge_80 rfl (lv_at hl 2 rfl) ?_
                  refine lv_istore_n (lv' := [(1, .int x1), (3, .int q10.1), (0, .ref a_this), (2, .int x2)]) hx hb dX3_judge_81 rfl hl (by decide) rfl (fun ls hl => ?_)
                  obtain ⟨v13, ev13⟩ : ∃ y : Int32, y = x2 + 1 := ⟨_, rfl⟩
                  have hf := rf_bindv hf ev13
                  refine lv_iinc (v := v13) (lv' := [(2, .int v13), (1, .int x1), (3, .int q10.1), (0, .ref a_this)]) hx hb dX3_judge_82 hl (k := 3) rfl (by rw [ev13]; rfl) (by decide) rfl (fun ls hl => ?_)
                  clear ev13
                  refine lv_goto (tgt := 9) hx hb dX3_judge_85 (by decide) ?_
                  exact ih x1 v13 q10.2 ql hf _ _ _ hP hD hS (lv_sub hl [3, 1, 0] rfl) kx
                · have hf := rf_ifn hf c12
                  refine lv_iload_n hx hb dX3_judge_76 rfl (lv_at hl 3 rfl) ?_
                  refine lv_goto (tgt := 81) hx hb dX3_judge_77 (by decide) ?_
                  refine lv_istore_n (lv' := [(1, .int x2), (3, .int q10.1), (0, .ref a_this), (2, .int x2)]) hx hb dX3_judge_81 rfl hl (by decide) rfl (fun ls hl => ?_)
                  obtain ⟨v14, ev14⟩ : ∃ y : Int32, y = x2 + 1 := ⟨_, rfl⟩
                  have hf := rf_bindv hf ev14
                  refine lv_iinc (v := v14) (lv' := [(2, .int v14), (1, .int x2), (3, .int q10.1), (0, .ref a_this)]) hx hb dX3_judge_82 hl (k := 3) rfl (by rw [ev14]; rfl) (by decide) rfl (fun ls hl => ?_)
                  clear ev14
                  refine lv_goto (tgt := 9) hx hb dX3_judge_85 (by decide) ?_
                  exact ih x2 v14 q10.2 ql hf _ _ _ hP hD hS (lv_sub hl [3, 1, 0] rfl) kx
              · have hf := rf_ifn hf c8
                refine lv_goto (tgt := 82) hx hb dX3_judge_55 (by decide) ?_
                obtain ⟨v15, ev15⟩ : ∃ y : Int32, y = x2 + 1 := ⟨_, rfl⟩
                have hf := rf_bindv hf ev15
                refine lv_iinc (v := v15) (lv' := [(2, .int v15), (0, .ref a_this), (1, .int x1)]) hx hb dX3_judge_82 hl (k := 2) rfl (by rw [ev15]; rfl) (by decide) rfl (fun ls hl => ?_)
                clear ev15
                refine lv_goto (tgt := 9) hx hb dX3_judge_85 (by decide) ?_
                exact ih x1 v15 yf_this_s ql hf _ _ _ hP hD hS (lv_sub hl [1, 2, 0] rfl) kx
            · have hf := rf_ifp hf c6
              refine lv_aload_n hx hb dX3_judge_39 rfl (lv_at hl 0 rfl) ?_
              refine lv_iconst (v := 5) hx hb dX3_judge_40 (by decide) ?_
              obtain ⟨q16, hq16, hf⟩ := rf_bindq hf
              refine rf_Vv (As := [.int 5]) (rest := []) (wr := [(a_this_mind, .inl (cA, 22, .inl yf_this_mind)), (a_this_row, .inl (cA, 12, .inl f_this_row))]) (wn := [(a_this, .inr (3, rf_o3 a_this_s a_this_image a_this_read a_this_mind a_this_letters a_this_row a_this_refused a_this_numbers a_this_cost yg_this)), (a_this_s, .inl (cA, 22, .inl q16)), (a_this_mind, .inl (cA, 22, .inl yf_this_mind)), (a_this_row, .inl (cA, 12, .inl f_this_row))]) ⟨hx, hb, hml, hown, hts⟩ hK hP hD hS hA hE (c_X3_waits l D cA ad a_this a_this_s a_this_image a_this_read a_this_mind a_this_letters a_this_row a_this_refused a_this_numbers a_this_cost H.size yg_this yf_this_s 5 q16 hq16) (cwV 1 hts gX3_judge_X3_waits rfl rfl rfl hv_X3_waits ⟨Nat.le_of_ble_eq_true rfl, Nat.le_of_ble_eq_true rfl⟩) [0, 1] [2, 3] [2, 3, 0, 1] rfl rfl rfl rfl (by decide) rfl rfl 3 0 rfl rfl rfl rfl rfl hl.1 (Nat.le_of_ble_eq_true rfl) dX3_judge_41 ⟨Nat.zero_le _, Nat.zero_le _⟩ (fun H locs hP hD hS => ?_)
              refine lv_aload_n hx hb dX3_judge_44 rfl (lv_at hl 0 rfl) ?_
              refine va_get (D := D) (ci := 3) (v := .ref a_this_row) (C := RX3) (T := TX3) (N := 16) hx hb hts jX3_judge_X3 hown hK hP 0 rfl rfl 6 (by decide) (hts _ kX3_judge_1) (fun _ h9 => h9) rfl dX3_judge_45 ?_
              refine lv_iload_n hx hb dX3_judge_48 rfl (lv_at hl 2 rfl) ?_
              obtain ⟨c17, hf⟩ := rf_chk hf
              refine va_iald hx hb hK hP 3 0 rfl rfl c17 dX3_judge_49 ?_
              refine lv_bipush (v := 7) hx hb dX3_judge_50 (by decide) ?_
              refine lv_icmp_lt (tgt := 58) hx hb dX3_judge_52 (by decide) (fun c18 => ?_) (fun c18 => ?_)
              · have hf := rf_ifp hf c18
                refine lv_aload_n hx hb dX3_judge_58 rfl (lv_at hl 0 rfl) ?_
                refine lv_aload_n hx hb dX3_judge_59 rfl (lv_at hl 0 rfl) ?_
                refine va_get (D := D) (ci := 3) (v := .ref a_this_row) (C := RX3) (T := TX3) (N := 16) hx hb hts jX3_judge_X3 hown hK hP 0 rfl rfl 6 (by decide) (hts _ kX3_judge_1) (fun _ h9 => h9) rfl dX3_judge_60 ?_
                refine lv_iload_n hx hb dX3_judge_63 rfl (lv_at hl 2 rfl) ?_
                obtain ⟨c19, hf⟩ := rf_chk hf
                refine va_iald hx hb hK hP 3 0 rfl rfl c19 dX3_judge_64 ?_
                obtain ⟨q20, hq20, hf⟩ := rf_bindq hf
                refine rf_Vi (As := [.int (f_this_row (x2.toNatClampNeg))]) (rest := []) (wr := [(a_this_mind, .inl (cA, 22, .inl yf_this_mind)), (a_this_row, .inl (cA, 12, .inl f_this_row))]) (wn := [(a_this, .inr (3, rf_o3 a_this_s a_this_image a_this_read a_this_mind a_this_letters a_this_row a_this_refused a_this_numbers a_this_cost yg_this)), (a_this_s, .inl (cA, 22, .inl q20.2)), (a_this_mind, .inl (cA, 22, .inl yf_this_mind)), (a_this_row, .inl (cA, 12, .inl f_this_row))]) ⟨hx, hb, hml, hown, hts⟩ hK hP hD hS hA hE (c_X3_tried l D cA ad a_this a_this_s a_this_image a_this_read a_this_mind a_this_letters a_this_row a_this_refused a_this_numbers a_this_cost H.size yg_this q16 (f_this_row (x2.toNatClampNeg)) q20 hq20) (cwV 1 hts gX3_judge_X3_tried rfl rfl rfl hv_X3_tried ⟨Nat.le_of_ble_eq_true rfl, Nat.le_of_ble_eq_true rfl⟩) [0, 1] [2, 3] [2, 3, 0, 1] rfl rfl rfl rfl (by decide) rfl rfl 3 0 rfl rfl rfl rfl rfl hl.1 (Nat.le_of_ble_eq_true rfl) dX3_judge_65 ⟨Nat.zero_le _, Nat.zero_le _⟩ (fun H locs hP hD hS => ?_)
                refine lv_istore_n (lv' := [(3, .int q20.1), (0, .ref a_this), (1, .int x1), (2, .int x2)]) hx hb dX3_judge_68 rfl hl (by decide) rfl (fun ls hl => ?_)
                refine lv_aload_n hx hb dX3_judge_69 rfl (lv_at hl 1 rfl) ?_
                obtain ⟨q21, hq21, hf⟩ := rf_bindq hf
                refine rf_Vi (As := []) (rest := []) (wr := [(a_this_mind, .inl (cA, 22, .inl yf_this_mind)), (a_this_row, .inl (cA, 12, .inl f_this_row))]) (wn := [(a_this, .inr (3, rf_o3 a_this_s a_this_image a_this_read a_this_mind a_this_letters a_this_row a_this_refused a_this_numbers a_this_cost yg_this)), (a_this_s, .inl (cA, 22, .inl q20.2)), (a_this_mind, .inl (cA, 22, .inl yf_this_mind)), (a_this_row, .inl (cA, 12, .inl f_this_row))]) ⟨hx, hb, hml, hown, hts⟩ hK hP hD hS hA hE (c_X3_isOff l D cA ad a_this a_this_s a_this_image a_this_read a_this_mind a_this_letters a_this_row a_this_refused a_this_numbers a_this_cost H.size yg_this q20.2 q21 hq21) (cwV 0 hts gX3_judge_X3_isOff rfl rfl rfl hv_X3_isOff ⟨Nat.le_of_ble_eq_true rfl, Nat.le_of_ble_eq_true rfl⟩) [0, 1] [2, 3] [2, 3, 0, 1] rfl rfl rfl rfl (by decide) rfl rfl 3 0 rfl rfl rfl rfl rfl hl.1 (Nat.le_of_ble_eq_true rfl) dX3_judge_70 ⟨Nat.zero_le _, Nat.zero_le _⟩ (fun H locs hP hD hS => ?_)
                refine lv_if_eq (tgt := 80) hx hb dX3_judge_73 (by decide) (fun c22 => ?_) (fun c22 => ?_)
                · have hf := rf_ifp hf c22
                  refine lv_iload_n hx hb dX3_judge_80 rfl (lv_at hl 2 rfl) ?_
                  refine lv_istore_n (lv' := [(1, .int x1), (3, .int q20.1), (0, .ref a_this), (2, .int x2)]) hx hb dX3_judge_81 rfl hl (by decide) rfl (fun ls hl => ?_)
                  obtain ⟨v23, ev23⟩ : ∃ y : Int32, y = x2 + 1 := ⟨_, rfl⟩
                  have hf := rf_bindv hf ev23
                  refine lv_iinc (v := v23) (lv' := [(2, .int v23), (1, .int x1), (3, .int q20.1), (0, .ref a_this)]) hx hb dX3_judge_82 hl (k := 3) rfl (by rw [ev23]; rfl) (by decide) rfl (fun ls hl => ?_)
                  clear ev23
                  refine lv_goto (tgt := 9) hx hb dX3_judge_85 (by decide) ?_
                  exact ih x1 v23 q20.2 ql hf _ _ _ hP hD hS (lv_sub hl [3, 1, 0] rfl) kx
                · have hf := rf_ifn hf c22
                  refine lv_iload_n hx hb dX3_judge_76 rfl (lv_at hl 3 rfl) ?_
                  refine lv_goto (tgt := 81) hx hb dX3_judge_77 (by decide) ?_
                  refine lv_istore_n (lv' := [(1, .int x2), (3, .int q20.1), (0, .ref a_this), (2, .int x2)]) hx hb dX3_judge_81 rfl hl (by decide) rfl (fun ls hl => ?_)
                  obtain ⟨v24, ev24⟩ : ∃ y : Int32, y = x2 + 1 := ⟨_, rfl⟩
                  have hf := rf_bindv hf ev24
                  refine lv_iinc (v := v24) (lv' := [(2, .int v24), (1, .int x2), (3, .int q20.1), (0, .ref a_this)]) hx hb dX3_judge_82 hl (k := 3) rfl (by rw [ev24]; rfl) (by decide) rfl (fun ls hl => ?_)
                  clear ev24
                  refine lv_goto (tgt := 9) hx hb dX3_judge_85 (by decide) ?_
                  exact ih x2 v24 q20.2 ql hf _ _ _ hP hD hS (lv_sub hl [3, 1, 0] rfl) kx
              · have hf := rf_ifn hf c18
                refine lv_goto (tgt := 82) hx hb dX3_judge_55 (by decide) ?_
                obtain ⟨v25, ev25⟩ : ∃ y : Int32, y = x2 + 1 := ⟨_, rfl⟩
                have hf := rf_bindv hf ev25
                refine lv_iinc (v := v25) (lv' := [(2, .int v25), (0, .ref a_this), (1, .int x1)]) hx hb dX3_judge_82 hl (k := 2) rfl (by rw [ev25]; rfl) (by decide) rfl (fun ls hl => ?_)
                clear ev25
                refine lv_goto (tgt := 9) hx hb dX3_judge_85 (by decide) ?_
                exact ih x1 v25 q16 ql hf _ _ _ hP hD hS (lv_sub hl [1, 2, 0] rfl) kx
  rw [f_X3_judge] at hf
  refine lv_bipush (v := (-9)) hx hb dX3_judge_0 (by decide) ?_
  refine lv_istore_n (lv' := [(1, .int (-9)), (0, .ref a_this)]) hx hb dX3_judge_2 rfl hl (by decide) rfl (fun ls hl => ?_)
  refine lv_aload_n hx hb dX3_judge_3 rfl (lv_at hl 1 rfl) ?_
  obtain ⟨q26, hq26, hf⟩ := rf_bindq hf
  refine rf_Vv (As := []) (rest := []) (wr := [(a_this_row, .inl (cA, 12, .inl f_this_row))]) (wn := [(a_this, .inr (3, rf_o3 a_this_s a_this_image a_this_read a_this_mind a_this_letters a_this_row a_this_refused a_this_numbers a_this_cost g_this)), (a_this_s, .inl (cA, 22, .inl f_this_s)), (a_this_mind, .inl (cA, 22, .inl q26)), (a_this_row, .inl (cA, 12, .inl f_this_row))]) ⟨hx, hb, hml, hown, hts⟩ hK hP hD hS hA hE (c_X3_begins l D cA ad a_this a_this_s a_this_image a_this_read a_this_mind a_this_letters a_this_row a_this_refused a_this_numbers a_this_cost s.heap.size g_this f_this_s f_this_mind q26 hq26) (cwV 0 hts gX3_judge_X3_begins rfl rfl rfl hv_X3_begins ⟨Nat.le_of_ble_eq_true rfl, Nat.le_of_ble_eq_true rfl⟩) [0, 1, 2] [3] [1, 2, 3, 0] rfl rfl rfl rfl (by decide) rfl rfl 3 0 rfl rfl rfl rfl rfl hl.1 (Nat.le_of_ble_eq_true rfl) dX3_judge_4 ⟨Nat.zero_le _, Nat.zero_le _⟩ (fun H locs hP hD hS => ?_)
  refine lv_iconst (v := 0) hx hb dX3_judge_7 (by decide) ?_
  refine lv_istore_n (lv' := [(2, .int 0), (1, .int (-9)), (0, .ref a_this)]) hx hb dX3_judge_8 rfl hl (by decide) rfl (fun ls hl => ?_)
  obtain ⟨q27, hq27, hf⟩ := rf_bindq hf
  refine key_9 g_this q26 rf_fu (-9) 0 f_this_s q27 hq27 _ _ _ hP hD hS (lv_sub hl [2, 1, 0] rfl) (fun H locs ls hP hD hS hl => ?_)
  refine lv_aload_n hx hb dX3_judge_88 rfl (lv_at hl 0 rfl) ?_
  obtain ⟨q28, hq28, hf⟩ := rf_bindq hf
  refine rf_Vv (As := []) (rest := []) (wr := [(a_this_row, .inl (cA, 12, .inl f_this_row))]) (wn := [(a_this, .inr (3, rf_o3 a_this_s a_this_image a_this_read a_this_mind a_this_letters a_this_row a_this_refused a_this_numbers a_this_cost g_this)), (a_this_s, .inl (cA, 22, .inl q28)), (a_this_mind, .inl (cA, 22, .inl q26)), (a_this_row, .inl (cA, 12, .inl f_this_row))]) ⟨hx, hb, hml, hown, hts⟩ hK hP hD hS hA hE (c_X3_ends l D cA ad a_this a_this_s a_this_image a_this_read a_this_mind a_this_letters a_this_row a_this_refused a_this_numbers a_this_cost H.size g_this q27.2.2 q26 q28 hq28) (cwV 0 hts gX3_judge_X3_ends rfl rfl rfl hv_X3_ends ⟨Nat.le_of_ble_eq_true rfl, Nat.le_of_ble_eq_true rfl⟩) [0, 1, 2] [3] [1, 2, 3, 0] rfl rfl rfl rfl (by decide) rfl rfl 3 0 rfl rfl rfl rfl rfl hl.1 (Nat.le_of_ble_eq_true rfl) dX3_judge_89 ⟨Nat.zero_le _, Nat.zero_le _⟩ (fun H locs hP hD hS => ?_)
  refine lv_aload_n hx hb dX3_judge_92 rfl (lv_at hl 0 rfl) ?_
  refine lv_iconst (v := 0) hx hb dX3_judge_93 (by decide) ?_
  refine va_put (D := D) (ci := 3) (v := .int 0) (ty := .int) (C := RX3) (T := TX3) (N := 16) hx hb hts jX3_judge_X3 tyX3 tyX3_ok nmX3 hown hK hP hD hS 0 rfl rfl 9 (by decide) (hts _ kX3_judge_0) (fun _ h9 => h9) rfl (by decide +kernel) rfl rfl (Nat.le_of_ble_eq_true rfl) dX3_judge_94 (fun H locs hP hD hS => ?_)
  have hP : va_P D vwCl [(a_this, .inr (3, rf_o3 a_this_s a_this_image a_this_read a_this_mind a_this_letters a_this_row a_this_refused a_this_numbers a_this_cost (upd g_this 2 0))), (a_this_s, .inl (cA, 22, .inl q28)), (a_this_mind, .inl (cA, 22, .inl q26)), (a_this_row, .inl (cA, 12, .inl f_this_row))] H := hP
  have hD : va_D A [(a_this, .inr (3, rf_o3 a_this_s a_this_image a_this_read a_this_mind a_this_letters a_this_row a_this_refused a_this_numbers a_this_cost (upd g_this 2 0))), (a_this_s, .inl (cA, 22, .inl q28)), (a_this_mind, .inl (cA, 22, .inl q26)), (a_this_row, .inl (cA, 12, .inl f_this_row))] := hD
  refine lv_iload_n hx hb dX3_judge_97 rfl (lv_at hl 1 rfl) ?_
  obtain rfl := Option.some.inj hf
  exact W.iret (v := q27.1) hx hb hr (fun t ht hW => ⟨⟨q27.1, (), rfl, rfl, rf_mk ht hP hD⟩, hS.F ht⟩) hS.2.2 dX3_judge_98
theorem kX3_drawn_0 : (.fieldLink RX3 204 "RingAndFingerModel" "seed" "I" : Cond) ∈ wsX3_drawn := by decide +kernel
theorem kX3_drawn_1 : (.constant RX3 207 (1664525) : Cond) ∈ wsX3_drawn := by decide +kernel
theorem kX3_drawn_2 : (.constant RX3 208 (1013904223) : Cond) ∈ wsX3_drawn := by decide +kernel
theorem kX3_drawn_3 : (.constant RX3 209 (2147483647) : Cond) ∈ wsX3_drawn := by decide +kernel
theorem jX3_drawn_X3 : ∀ w ∈ u_ws RX3 TX3 16, w ∈ wsX3_drawn := by decide +kernel
set_option maxHeartbeats 8000000 in
set_option maxRecDepth 100000 in
theorem c_X3_drawn (l : Launch) (D : va_G) (cA : ClassId) (ad : Nat → Nat) (a_this a_this_s a_this_image a_this_read a_this_mind a_this_letters a_this_row a_this_refused a_this_numbers a_this_cost : Nat) (sz : Nat) (g_this : Nat → Int32) (p1 : Int32) (q : Int32 × (Nat → Int32)) (hf : f_X3_drawn g_this p1 = some q) : Met l yX3_drawn wsX3_drawn ({ frames := 0, cells := 0, slots := 0, locals := 0 } : Room) (va_Pc [.ref a_this, .int p1] (rf_Pre D cA ad [(a_this, .inr (3, rf_o3 a_this_s a_this_image a_this_read a_this_mind a_this_letters a_this_row a_this_refused a_this_numbers a_this_cost g_this))] sz)) (va_Qi (fun (r : Int32) (_ : Unit) => r = q.1) (fun _ t => rf_Post D (va_A [(a_this, .inr (3, rf_o3 a_this_s a_this_image a_this_read a_this_mind a_this_letters a_this_row a_this_refused a_this_numbers a_this_cost g_this))] sz) [(a_this, .inr (3, rf_o3 a_this_s a_this_image a_this_read a_this_mind a_this_letters a_this_row a_this_refused a_this_numbers a_this_cost q.2))] t) (va_A [(a_this, .inr (3, rf_o3 a_this_s a_this_image a_this_read a_this_mind a_this_letters a_this_row a_this_refused a_this_numbers a_this_cost g_this))] sz)) 0 0 (va_A [(a_this, .inr (3, rf_o3 a_this_s a_this_image a_this_read a_this_mind a_this_letters a_this_row a_this_refused a_this_numbers a_this_cost g_this))] sz) := by
  refine Met.ofW (cc := cX3_drawn) (maxL := 2) (ret := (some .int)) (by decide) rfl ?_
  intro p e s m args below meth c s₁ B hml hv
  obtain ⟨rfl, hsz, hP, hK, hD0, hE⟩ := hv
  have hx := B.exec
  have hb := B.bytes
  have hr := B.returns
  have hts := atoms_spec (ws := wsX3_drawn) B.pre
  have hown : s.vm.findClass RX3 = some m.cls := findClass_of_methodNamed B.named
  have hlocks := B.notSynchronized
  subst hsz
  have hD := hD0.self (sz := s.heap.size)
  generalize hAe : va_A [(a_this, .inr (3, rf_o3 a_this_s a_this_image a_this_read a_this_mind a_this_letters a_this_row a_this_refused a_this_numbers a_this_cost g_this))] s.heap.size = A at hD hE ⊢
  have hA : ∀ q : Nat, s.heap.size ≤ q → A q := fun q h => by rw [← hAe]; exact Or.inr h
  have hS : va_S A s.heap s.heap [] := va_S.rf
  have hP : va_P D vwCl [(a_this, .inr (3, rf_o3 a_this_s a_this_image a_this_read a_this_mind a_this_letters a_this_row a_this_refused a_this_numbers a_this_cost g_this))] s.heap := hP
  have hl := lv_entry ([.ref a_this, .int p1]) (n := 2) (Nat.le_of_ble_eq_true rfl)
  rw [lg_entry_eq]
  generalize (lg_sl ([.ref a_this, .int p1]) ++ List.replicate (2 - (lg_sl ([.ref a_this, .int p1])).length) Slot.unset).toArray = ls at hl ⊢
  have hl : lv_has ls 2 [(0, .ref a_this), (1, .int p1)] := hl
  rw [f_X3_drawn] at hf
  refine lv_aload_n hx hb dX3_drawn_0 rfl (lv_at hl 0 rfl) ?_
  refine lv_aload_n hx hb dX3_drawn_1 rfl (lv_at hl 0 rfl) ?_
  refine va_get (D := D) (ci := 3) (v := .int (g_this 6)) (C := RX3) (T := TX3) (N := 16) hx hb hts jX3_drawn_X3 hown hK hP 0 rfl rfl 15 (by decide) (hts _ kX3_drawn_0) (fun _ h9 => h9) rfl dX3_drawn_2 ?_
  refine lv_ldc hx hb hown (hts _ kX3_drawn_1) dX3_drawn_5 ?_
  refine lv_imul hx hb dX3_drawn_7 ?_
  refine lv_ldc hx hb hown (hts _ kX3_drawn_2) dX3_drawn_8 ?_
  refine lv_iadd hx hb dX3_drawn_10 ?_
  refine lv_topi (fun v1 ev1 => ?_)
  have hf := rf_bindv hf ev1
  clear ev1
  refine va_put (D := D) (ci := 3) (v := .int v1) (ty := .int) (C := RX3) (T := TX3) (N := 16) hx hb hts jX3_drawn_X3 tyX3 tyX3_ok nmX3 hown hK hP hD hS 0 rfl rfl 15 (by decide) (hts _ kX3_drawn_0) (fun _ h9 => h9) rfl (by decide +kernel) rfl rfl (Nat.le_of_ble_eq_true rfl) dX3_drawn_11 (fun H locs hP hD hS => ?_)
  have hP : va_P D vwCl [(a_this, .inr (3, rf_o3 a_this_s a_this_image a_this_read a_this_mind a_this_letters a_this_row a_this_refused a_this_numbers a_this_cost (upd g_this 6 v1)))] H := hP
  have hD : va_D A [(a_this, .inr (3, rf_o3 a_this_s a_this_image a_this_read a_this_mind a_this_letters a_this_row a_this_refused a_this_numbers a_this_cost (upd g_this 6 v1)))] := hD
  refine lv_aload_n hx hb dX3_drawn_14 rfl (lv_at hl 0 rfl) ?_
  refine va_get (D := D) (ci := 3) (v := .int v1) (C := RX3) (T := TX3) (N := 16) hx hb hts jX3_drawn_X3 hown hK hP 0 rfl rfl 15 (by decide) (hts _ kX3_drawn_0) (fun _ h9 => h9) rfl dX3_drawn_15 ?_
  refine lv_ldc hx hb hown (hts _ kX3_drawn_3) dX3_drawn_18 ?_
  refine lv_iand hx hb dX3_drawn_20 ?_
  refine lv_sipush (v := 256) hx hb dX3_drawn_21 (by decide) ?_
  refine lv_idiv hx hb dX3_drawn_24 (by decide) ?_
  refine lv_iload_n hx hb dX3_drawn_25 rfl (lv_at hl 1 rfl) ?_
  obtain ⟨c2, hf⟩ := rf_chk hf
  refine lv_irem hx hb dX3_drawn_26 c2 ?_
  refine lv_topi (fun v3 ev3 => ?_)
  have hf := rf_bindv hf ev3
  clear ev3
  obtain rfl := Option.some.inj hf
  exact W.iret (v := v3) hx hb hr (fun t ht hW => ⟨⟨v3, (), rfl, rfl, rf_mk ht hP hD⟩, hS.F ht⟩) hS.2.2 dX3_drawn_27
theorem kX3_lots_0 : (.fieldLink RX3 9 "RingAndFingerModel" "s" "[I" : Cond) ∈ wsX3_lots := by decide +kernel
theorem kX3_lots_1 : (.fieldLink RX3 204 "RingAndFingerModel" "seed" "I" : Cond) ∈ wsX3_lots := by decide +kernel
theorem jX3_lots_X3 : ∀ w ∈ u_ws RX3 TX3 16, w ∈ wsX3_lots := by decide +kernel
set_option maxHeartbeats 8000000 in
set_option maxRecDepth 100000 in
theorem c_X3_lots (l : Launch) (D : va_G) (cA : ClassId) (ad : Nat → Nat) (a_this a_this_s a_this_image a_this_read a_this_mind a_this_letters a_this_row a_this_refused a_this_numbers a_this_cost : Nat) (sz : Nat) (g_this f_this_s f_this_mind f_this_refused : Nat → Int32) (p1 p2 : Int32) (q : Int32 × (Nat → Int32) × (Nat → Int32) × (Nat → Int32) × (Nat → Int32)) (hf : f_X3_lots g_this f_this_s f_this_mind f_this_refused p1 p2 = some q) : Met l yX3_lots wsX3_lots ({ frames := 6, cells := 0, slots := 0, locals := 138 } : Room) (va_Pc [.ref a_this, .int p1, .int p2] (rf_Pre D cA ad [(a_this, .inr (3, rf_o3 a_this_s a_this_image a_this_read a_this_mind a_this_letters a_this_row a_this_refused a_this_numbers a_this_cost g_this)), (a_this_s, .inl (cA, 22, .inl f_this_s)), (a_this_mind, .inl (cA, 22, .inl f_this_mind)), (a_this_refused, .inl (cA, 7, .inl f_this_refused))] sz)) (va_Qi (fun (r : Int32) (_ : Unit) => r = q.1) (fun _ t => rf_Post D (va_A [(a_this, .inr (3, rf_o3 a_this_s a_this_image a_this_read a_this_mind a_this_letters a_this_row a_this_refused a_this_numbers a_this_cost g_this)), (a_this_s, .inl (cA, 22, .inl f_this_s)), (a_this_mind, .inl (cA, 22, .inl f_this_mind)), (a_this_refused, .inl (cA, 7, .inl f_this_refused))] sz) [(a_this, .inr (3, rf_o3 a_this_s a_this_image a_this_read a_this_mind a_this_letters a_this_row a_this_refused a_this_numbers a_this_cost q.2.1)), (a_this_s, .inl (cA, 22, .inl q.2.2.1)), (a_this_mind, .inl (cA, 22, .inl q.2.2.2.1)), (a_this_refused, .inl (cA, 7, .inl q.2.2.2.2))] t) (va_A [(a_this, .inr (3, rf_o3 a_this_s a_this_image a_this_read a_this_mind a_this_letters a_this_row a_this_refused a_this_numbers a_this_cost g_this)), (a_this_s, .inl (cA, 22, .inl f_this_s)), (a_this_mind, .inl (cA, 22, .inl f_this_mind)), (a_this_refused, .inl (cA, 7, .inl f_this_refused))] sz)) 0 0 (va_A [(a_this, .inr (3, rf_o3 a_this_s a_this_image a_this_read a_this_mind a_this_letters a_this_row a_this_refused a_this_numbers a_this_cost g_this)), (a_this_s, .inl (cA, 22, .inl f_this_s)), (a_this_mind, .inl (cA, 22, .inl f_this_mind)), (a_this_refused, .inl (cA, 7, .inl f_this_refused))] sz) := by
  refine Met.ofW (cc := cX3_lots) (maxL := 7) (ret := (some .int)) (by decide) rfl ?_
  intro p e s m args below meth c s₁ B hml hv
  obtain ⟨rfl, hsz, hP, hK, hD0, hE⟩ := hv
  have hx := B.exec
  have hb := B.bytes
  have hr := B.returns
  have hts := atoms_spec (ws := wsX3_lots) B.pre
  have hown : s.vm.findClass RX3 = some m.cls := findClass_of_methodNamed B.named
  have hlocks := B.notSynchronized
  subst hsz
  have hD := hD0.self (sz := s.heap.size)
  generalize hAe : va_A [(a_this, .inr (3, rf_o3 a_this_s a_this_image a_this_read a_this_mind a_this_letters a_this_row a_this_refused a_this_numbers a_this_cost g_this)), (a_this_s, .inl (cA, 22, .inl f_this_s)), (a_this_mind, .inl (cA, 22, .inl f_this_mind)), (a_this_refused, .inl (cA, 7, .inl f_this_refused))] s.heap.size = A at hD hE ⊢
  have hA : ∀ q : Nat, s.heap.size ≤ q → A q := fun q h => by rw [← hAe]; exact Or.inr h
  have hS : va_S A s.heap s.heap [] := va_S.rf
  have hP : va_P D vwCl [(a_this, .inr (3, rf_o3 a_this_s a_this_image a_this_read a_this_mind a_this_letters a_this_row a_this_refused a_this_numbers a_this_cost g_this)), (a_this_s, .inl (cA, 22, .inl f_this_s)), (a_this_mind, .inl (cA, 22, .inl f_this_mind)), (a_this_refused, .inl (cA, 7, .inl f_this_refused))] s.heap := hP
  have hl := lv_entry ([.ref a_this, .int p1, .int p2]) (n := 7) (Nat.le_of_ble_eq_true rfl)
  rw [lg_entry_eq]
  generalize (lg_sl ([.ref a_this, .int p1, .int p2]) ++ List.replicate (7 - (lg_sl ([.ref a_this, .int p1, .int p2])).length) Slot.unset).toArray = ls at hl ⊢
  have hl : lv_has ls 7 [(0, .ref a_this), (1, .int p1), (2, .int p2)] := hl
  have key_72 : ∀ (x3 x4 : Int32) (yf_this_mind yf_this_refused : Nat → Int32) (n : Nat) (x5 : Int32) (yg_this yf_this_s : Nat → Int32) (ql : Int32 × (Nat → Int32) × (Nat → Int32)), f_X3_lots_L72 p1 p2 x3 x4 yf_this_mind yf_this_refused n x5 yg_this yf_this_s = some ql → ∀ (H : Heap) (locs : List Loc) (ls : Array Slot), va_P D vwCl [(a_this, .inr (3, rf_o3 a_this_s a_this_image a_this_read a_this_mind a_this_letters a_this_row a_this_refused a_this_numbers a_this_cost yg_this)), (a_this_s, .inl (cA, 22, .inl yf_this_s)), (a_this_mind, .inl (cA, 22, .inl yf_this_mind)), (a_this_refused, .inl (cA, 7, .inl yf_this_refused))] H → va_D A [(a_this, .inr (3, rf_o3 a_this_s a_this_image a_this_read a_this_mind a_this_letters a_this_row a_this_refused a_this_numbers a_this_cost yg_this)), (a_this_s, .inl (cA, 22, .inl yf_this_s)), (a_this_mind, .inl (cA, 22, .inl yf_this_mind)), (a_this_refused, .inl (cA, 7, .inl yf_this_refused))] → va_S A s.heap H locs → lv_has ls 7 [(0, .ref a_this), (1, .int p1), (3, .int x3), (4, .int x4), (5, .int x5)] → (∀ (H : Heap) (locs : List Loc) (ls : Array Slot), va_P D vwCl [(a_this, .inr (3, rf_o3 a_this_s a_this_image a_this_read a_this_mind a_this_letters a_this_row a_this_refused a_this_numbers a_this_cost ql.2.1)), (a_this_s, .inl (cA, 22, .inl ql.2.2)), (a_this_mind, .inl (cA, 22, .inl yf_this_mind)), (a_this_refused, .inl (cA, 7, .inl yf_this_refused))] H → va_D A [(a_this, .inr (3, rf_o3 a_this_s a_this_image a_this_read a_this_mind a_this_letters a_this_row a_this_refused a_this_numbers a_this_cost ql.2.1)), (a_this_s, .inl (cA, 22, .inl ql.2.2)), (a_this_mind, .inl (cA, 22, .inl yf_this_mind)), (a_this_refused, .inl (cA, 7, .inl yf_this_refused))] → va_S A s.heap H locs → lv_has ls 7 [(0, .ref a_this), (1, .int p1), (3, .int x3), (4, .int x4), (5, .int ql.1)] → W p l e (headSpec wsX3_lots ({ frames := 6, cells := 0, slots := 0, locals := 138 } : Room)).room s m ([.ref a_this, .int p1, .int p2] : List Value).toArray below meth c H locs 0 0 (MQ below (va_Qi (fun (r : Int32) (_ : Unit) => r = q.1) (fun _ t => rf_Post D A [(a_this, .inr (3, rf_o3 a_this_s a_this_image a_this_read a_this_mind a_this_letters a_this_row a_this_refused a_this_numbers a_this_cost q.2.1)), (a_this_s, .inl (cA, 22, .inl q.2.2.1)), (a_this_mind, .inl (cA, 22, .inl q.2.2.2.1)), (a_this_refused, .inl (cA, 7, .inl q.2.2.2.2))] t) A) ([.ref a_this, .int p1, .int p2] : List Value).toArray s 0 0 A) (F0 m 104 ls [])) → W p l e (headSpec wsX3_lots ({ frames := 6, cells := 0, slots := 0, locals := 138 } : Room)).room s m ([.ref a_this, .int p1, .int p2] : List Value).toArray below meth c H locs 0 0 (MQ below (va_Qi (fun (r : Int32) (_ : Unit) => r = q.1) (fun _ t => rf_Post D A [(a_this, .inr (3, rf_o3 a_this_s a_this_image a_this_read a_this_mind a_this_letters a_this_row a_this_refused a_this_numbers a_this_cost q.2.1)), (a_this_s, .inl (cA, 22, .inl q.2.2.1)), (a_this_mind, .inl (cA, 22, .inl q.2.2.2.1)), (a_this_refused, .inl (cA, 7, .inl q.2.2.2.2))] t) A) ([.ref a_this, .int p1, .int p2] : List Value).toArray s 0 0 A) (F0 m 72 ls []) := by
    intro x3 x4 yf_this_mind yf_this_refused n
    induction n with
    | zero =>
      intro x5 yg_this yf_this_s ql hf H locs ls hP hD hS hl kx
      exact absurd (show (none : Option (Int32 × (Nat → Int32) × (Nat → Int32))) = some ql from hf) (fun h9 => by cases h9)
    | succ n ih =>
      intro x5 yg_this yf_this_s ql hf H locs ls hP hD hS hl kx
      rw [f_X3_lots_L72] at hf
      refine lv_iload hx hb dX3_lots_72 (lv_at hl 4 rfl) ?_
      refine lv_bipush (v := 12) hx hb dX3_lots_74 (by decide) ?_
      refine lv_icmp_ge (tgt := 104) hx hb dX3_lots_76 (by decide) (fun c1 => ?_) (fun c1 => ?_)
      · have hf := rf_ifp hf c1
        obtain rfl := Option.some.inj hf
        exact kx _ _ _ hP hD hS (lv_sub hl [0, 1, 2, 3, 4] rfl)
      · have hf := rf_ifn hf c1
        refine lv_aload_n hx hb dX3_lots_79 rfl (lv_at hl 0 rfl) ?_
        obtain ⟨q2, hq2, hf⟩ := rf_bindq hf
        refine rf_Vi (As := []) (rest := []) (wr := [(a_this_mind, .inl (cA, 22, .inl yf_this_mind)), (a_this_refused, .inl (cA, 7, .inl yf_this_refused))]) (wn := [(a_this, .inr (3, rf_o3 a_this_s a_this_image a_this_read a_this_mind a_this_letters a_this_row a_this_refused a_this_numbers a_this_cost yg_this)), (a_this_s, .inl (cA, 22, .inl yf_this_s)), (a_this_mind, .inl (cA, 22, .inl yf_this_mind)), (a_this_refused, .inl (cA, 7, .inl yf_this_refused))]) ⟨hx, hb, hml, hown, hts⟩ hK hP hD hS hA hE (c_X3_isOff l D cA ad a_this a_this_s a_this_image a_this_read a_this_mind a_this_letters a_this_row a_this_refused a_this_numbers a_this_cost H.size yg_this yf_this_s q2 hq2) (cwV 0 hts gX3_lots_X3_isOff rfl rfl rfl hv_X3_isOff ⟨Nat.le_of_ble_eq_true rfl, Nat.le_of_ble_eq_true rfl⟩) [0, 1] [2, 3] [2, 3, 0, 1] rfl rfl rfl rfl (by decide) rfl rfl 3 0 rfl rfl rfl rfl rfl hl.1 (Nat.le_of_ble_eq_true rfl) dX3_lots_80 ⟨Nat.zero_le _, Nat.zero_le _⟩ (fun H locs hP hD hS => ?_)
        refine lv_if_ne (tgt := 104) hx hb dX3_lots_83 (by decide) (fun c3 => ?_) (fun c3 => ?_)
        · have hf := rf_ifn hf c3
          obtain rfl := Option.some.inj hf
          exact kx _ _ _ hP hD hS (lv_sub hl [0, 1, 2, 3, 4] rfl)
        · have hf := rf_ifp hf c3
          refine lv_aload_n hx hb dX3_lots_86 rfl (lv_at hl 0 rfl) ?_
          refine lv_aload_n hx hb dX3_lots_87 rfl (lv_at hl 0 rfl) ?_
          refine lv_bipush (v := 6) hx hb dX3_lots_88 (by decide) ?_
          obtain ⟨q4, hq4, hf⟩ := rf_bindq hf
          refine rf_Vi (As := [.int 6]) (rest := [.ref a_this]) (wr := [(a_this_s, .inl (cA, 22, .inl yf_this_s)), (a_this_mind, .inl (cA, 22, .inl yf_this_mind)), (a_this_refused, .inl (cA, 7, .inl yf_this_refused))]) (wn := [(a_this, .inr (3, rf_o3 a_this_s a_this_image a_this_read a_this_mind a_this_letters a_this_row a_this_refused a_this_numbers a_this_cost q4.2)), (a_this_s, .inl (cA, 22, .inl yf_this_s)), (a_this_mind, .inl (cA, 22, .inl yf_this_mind)), (a_this_refused, .inl (cA, 7, .inl yf_this_refused))]) ⟨hx, hb, hml, hown, hts⟩ hK hP hD hS hA hE (c_X3_drawn l D cA ad a_this a_this_s a_this_image a_this_read a_this_mind a_this_letters a_this_row a_this_refused a_this_numbers a_this_cost H.size yg_this 6 q4 hq4) (cwV 1 hts gX3_lots_X3_drawn rfl rfl rfl hv_X3_drawn ⟨Nat.le_of_ble_eq_true rfl, Nat.le_of_ble_eq_true rfl⟩) [0] [1, 2, 3] [3, 0, 1, 2] rfl rfl rfl rfl (by decide) rfl rfl 3 0 rfl rfl rfl rfl rfl hl.1 (Nat.le_of_ble_eq_true rfl) dX3_lots_90 ⟨Nat.zero_le _, Nat.zero_le _⟩ (fun H locs hP hD hS => ?_)
          obtain ⟨q5, hq5, hf⟩ := rf_bindq hf
          refine rf_Vi (As := [.int q4.1]) (rest := []) (wr := [(a_this_mind, .inl (cA, 22, .inl yf_this_mind)), (a_this_refused, .inl (cA, 7, .inl yf_this_refused))]) (wn := [(a_this, .inr (3, rf_o3 a_this_s a_this_image a_this_read a_this_mind a_this_letters a_this_row a_this_refused a_this_numbers a_this_cost q4.2)), (a_this_s, .inl (cA, 22, .inl q5.2)), (a_this_mind, .inl (cA, 22, .inl yf_this_mind)), (a_this_refused, .inl (cA, 7, .inl yf_this_refused))]) ⟨hx, hb, hml, hown, hts⟩ hK hP hD hS hA hE (c_X3_tried l D cA ad a_this a_this_s a_this_image a_this_read a_this_mind a_this_letters a_this_row a_this_refused a_this_numbers a_this_cost H.size q4.2 yf_this_s q4.1 q5 hq5) (cwV 1 hts gX3_lots_X3_tried rfl rfl rfl hv_X3_tried ⟨Nat.le_of_ble_eq_true rfl, Nat.le_of_ble_eq_true rfl⟩) [0, 1] [2, 3] [2, 3, 0, 1] rfl rfl rfl rfl (by decide) rfl rfl 3 0 rfl rfl rfl rfl rfl hl.1 (Nat.le_of_ble_eq_true rfl) dX3_lots_93 ⟨Nat.zero_le _, Nat.zero_le _⟩ (fun H locs hP hD hS => ?_)
          refine lv_istore (lv' := [(6, .int q5.1), (0, .ref a_this), (1, .int p1), (3, .int x3), (4, .int x4), (5, .int x5)]) hx hb dX3_lots_96 hl (by decide) rfl (fun ls hl => ?_)
          obtain ⟨v6, ev6⟩ : ∃ y : Int32, y = x5 + 1 := ⟨_, rfl⟩
          have hf := rf_bindv hf ev6
          refine lv_iinc (v := v6) (lv' := [(5, .int v6), (6, .int q5.1), (0, .ref a_this), (1, .int p1), (3, .int x3), (4, .int x4)]) hx hb dX3_lots_98 hl (k := 5) rfl (by rw [ev6]; rfl) (by decide) rfl (fun ls hl => ?_)
          clear ev6
          refine lv_goto (tgt := 72) hx hb dX3_lots_101 (by decide) ?_
          exact ih v6 q4.2 q5.2 ql hf _ _ _ hP hD hS (lv_sub hl [2, 3, 4, 5, 0] rfl) kx
  have key_39 : ∀ (yf_this_mind yf_this_refused : Nat → Int32) (n : Nat) (x3 x4 : Int32) (yg_this yf_this_s : Nat → Int32) (ql : Int32 × Int32 × (Nat → Int32) × (Nat → Int32)), f_X3_lots_L39 p1 p2 yf_this_mind yf_this_refused n x3 x4 yg_this yf_this_s = some ql → ∀ (H : Heap) (locs : List Loc) (ls : Array Slot), va_P D vwCl [(a_this, .inr (3, rf_o3 a_this_s a_this_image a_this_read a_this_mind a_this_letters a_this_row a_this_refused a_this_numbers a_this_cost yg_this)), (a_this_s, .inl (cA, 22, .inl yf_this_s)), (a_this_mind, .inl (cA, 22, .inl yf_this_mind)), (a_this_refused, .inl (cA, 7, .inl yf_this_refused))] H → va_D A [(a_this, .inr (3, rf_o3 a_this_s a_this_image a_this_read a_this_mind a_this_letters a_this_row a_this_refused a_this_numbers a_this_cost yg_this)), (a_this_s, .inl (cA, 22, .inl yf_this_s)), (a_this_mind, .inl (cA, 22, .inl yf_this_mind)), (a_this_refused, .inl (cA, 7, .inl yf_this_refused))] → va_S A s.heap H locs → lv_has ls 7 [(0, .ref a_this), (1, .int p1), (3, .int x3), (4, .int x4)] → (∀ (H : Heap) (locs : List Loc) (ls : Array Slot), va_P D vwCl [(a_this, .inr (3, rf_o3 a_this_s a_this_image a_this_read a_this_mind a_this_letters a_this_row a_this_refused a_this_numbers a_this_cost ql.2.2.1)), (a_this_s, .inl (cA, 22, .inl ql.2.2.2)), (a_this_mind, .inl (cA, 22, .inl yf_this_mind)), (a_this_refused, .inl (cA, 7, .inl yf_this_refused))] H → va_D A [(a_this, .inr (3, rf_o3 a_this_s a_this_image a_this_read a_this_mind a_this_letters a_this_row a_this_refused a_this_numbers a_this_cost ql.2.2.1)), (a_this_s, .inl (cA, 22, .inl ql.2.2.2)), (a_this_mind, .inl (cA, 22, .inl yf_this_mind)), (a_this_refused, .inl (cA, 7, .inl yf_this_refused))] → va_S A s.heap H locs → lv_has ls 7 [(0, .ref a_this), (1, .int p1), (3, .int ql.1), (4, .int ql.2.1)] → W p l e (headSpec wsX3_lots ({ frames := 6, cells := 0, slots := 0, locals := 138 } : Room)).room s m ([.ref a_this, .int p1, .int p2] : List Value).toArray below meth c H locs 0 0 (MQ below (va_Qi (fun (r : Int32) (_ : Unit) => r = q.1) (fun _ t => rf_Post D A [(a_this, .inr (3, rf_o3 a_this_s a_this_image a_this_read a_this_mind a_this_letters a_this_row a_this_refused a_this_numbers a_this_cost q.2.1)), (a_this_s, .inl (cA, 22, .inl q.2.2.1)), (a_this_mind, .inl (cA, 22, .inl q.2.2.2.1)), (a_this_refused, .inl (cA, 7, .inl q.2.2.2.2))] t) A) ([.ref a_this, .int p1, .int p2] : List Value).toArray s 0 0 A) (F0 m 120 ls [])) → W p l e (headSpec wsX3_lots ({ frames := 6, cells := 0, slots := 0, locals := 138 } : Room)).room s m ([.ref a_this, .int p1, .int p2] : List Value).toArray below meth c H locs 0 0 (MQ below (va_Qi (fun (r : Int32) (_ : Unit) => r = q.1) (fun _ t => rf_Post D A [(a_this, .inr (3, rf_o3 a_this_s a_this_image a_this_read a_this_mind a_this_letters a_this_row a_this_refused a_this_numbers a_this_cost q.2.1)), (a_this_s, .inl (cA, 22, .inl q.2.2.1)), (a_this_mind, .inl (cA, 22, .inl q.2.2.2.1)), (a_this_refused, .inl (cA, 7, .inl q.2.2.2.2))] t) A) ([.ref a_this, .int p1, .int p2] : List Value).toArray s 0 0 A) (F0 m 39 ls []) := by
    intro yf_this_mind yf_this_refused n
    induction n with
    | zero =>
      intro x3 x4 yg_this yf_this_s ql hf H locs ls hP hD hS hl kx
      exact absurd (show (none : Option (Int32 × Int32 × (Nat → Int32) × (Nat → Int32))) = some ql from hf) (fun h9 => by cases h9)
    | succ n ih =>
      intro x3 x4 yg_this yf_this_s ql hf H locs ls hP hD hS hl kx
      rw [f_X3_lots_L39] at hf
      refine lv_iload hx hb dX3_lots_39 (lv_at hl 3 rfl) ?_
      refine lv_iload_n hx hb dX3_lots_41 rfl (lv_at hl 1 rfl) ?_
      refine lv_icmp_ge (tgt := 120) hx hb dX3_lots_42 (by decide) (fun c7 => ?_) (fun c7 => ?_)
      · have hf := rf_ifp hf c7
        obtain rfl := Option.some.inj hf
        exact kx _ _ _ hP hD hS (lv_sub hl [0, 1, 2, 3] rfl)
      · have hf := rf_ifn hf c7
        refine lv_aload_n hx hb dX3_lots_45 rfl (lv_at hl 0 rfl) ?_
        obtain ⟨q8, hq8, hf⟩ := rf_bindq hf
        refine rf_Vv (As := []) (rest := []) (wr := [(a_this_refused, .inl (cA, 7, .inl yf_this_refused))]) (wn := [(a_this, .inr (3, rf_o3 a_this_s a_this_image a_this_read a_this_mind a_this_letters a_this_row a_this_refused a_this_numbers a_this_cost yg_this)), (a_this_s, .inl (cA, 22, .inl q8)), (a_this_mind, .inl (cA, 22, .inl yf_this_mind)), (a_this_refused, .inl (cA, 7, .inl yf_this_refused))]) ⟨hx, hb, hml, hown, hts⟩ hK hP hD hS hA hE (c_X3_ends l D cA ad a_this a_this_s a_this_image a_this_read a_this_mind a_this_letters a_this_row a_this_refused a_this_numbers a_this_cost H.size yg_this yf_this_s yf_this_mind q8 hq8) (cwV 0 hts gX3_lots_X3_ends rfl rfl rfl hv_X3_ends ⟨Nat.le_of_ble_eq_true rfl, Nat.le_of_ble_eq_true rfl⟩) [0, 1, 2] [3] [1, 2, 3, 0] rfl rfl rfl rfl (by decide) rfl rfl 3 0 rfl rfl rfl rfl rfl hl.1 (Nat.le_of_ble_eq_true rfl) dX3_lots_46 ⟨Nat.zero_le _, Nat.zero_le _⟩ (fun H locs hP hD hS => ?_)
        refine lv_aload_n hx hb dX3_lots_49 rfl (lv_at hl 0 rfl) ?_
        refine va_get (D := D) (ci := 3) (v := .ref a_this_s) (C := RX3) (T := TX3) (N := 16) hx hb hts jX3_lots_X3 hown hK hP 0 rfl rfl 0 (by decide) (hts _ kX3_lots_0) (fun _ h9 => h9) rfl dX3_lots_50 ?_
        refine lv_iconst (v := 4) hx hb dX3_lots_53 (by decide) ?_
        refine lv_aload_n hx hb dX3_lots_54 rfl (lv_at hl 0 rfl) ?_
        refine lv_bipush (v := 31) hx hb dX3_lots_55 (by decide) ?_
        obtain ⟨q9, hq9, hf⟩ := rf_bindq hf
        refine rf_Vi (As := [.int 31]) (rest := [.int 4, .ref a_this_s]) (wr := [(a_this_s, .inl (cA, 22, .inl q8)), (a_this_mind, .inl (cA, 22, .inl yf_this_mind)), (a_this_refused, .inl (cA, 7, .inl yf_this_refused))]) (wn := [(a_this, .inr (3, rf_o3 a_this_s a_this_image a_this_read a_this_mind a_this_letters a_this_row a_this_refused a_this_numbers a_this_cost q9.2)), (a_this_s, .inl (cA, 22, .inl q8)), (a_this_mind, .inl (cA, 22, .inl yf_this_mind)), (a_this_refused, .inl (cA, 7, .inl yf_this_refused))]) ⟨hx, hb, hml, hown, hts⟩ hK hP hD hS hA hE (c_X3_drawn l D cA ad a_this a_this_s a_this_image a_this_read a_this_mind a_this_letters a_this_row a_this_refused a_this_numbers a_this_cost H.size yg_this 31 q9 hq9) (cwV 1 hts gX3_lots_X3_drawn rfl rfl rfl hv_X3_drawn ⟨Nat.le_of_ble_eq_true rfl, Nat.le_of_ble_eq_true rfl⟩) [0] [1, 2, 3] [3, 0, 1, 2] rfl rfl rfl rfl (by decide) rfl rfl 3 0 rfl rfl rfl rfl rfl hl.1 (Nat.le_of_ble_eq_true rfl) dX3_lots_57 ⟨Nat.zero_le _, Nat.zero_le _⟩ (fun H locs hP hD hS => ?_)
        refine rf_iastorek hx hb hK hP hD hS 1 0 rfl rfl (k := 4) (by decide) (by decide) (by decide) dX3_lots_60 (fun H locs hP hD hS => ?_)
        have hP : va_P D vwCl [(a_this, .inr (3, rf_o3 a_this_s a_this_image a_this_read a_this_mind a_this_letters a_this_row a_this_refused a_this_numbers a_this_cost q9.2)), (a_this_s, .inl (cA, 22, .inl (upd q8 4 q9.1))), (a_this_mind, .inl (cA, 22, .inl yf_this_mind)), (a_this_refused, .inl (cA, 7, .inl yf_this_refused))] H := hP
        have hD : va_D A [(a_this, .inr (3, rf_o3 a_this_s a_this_image a_this_read a_this_mind a_this_letters a_this_row a_this_refused a_this_numbers a_this_cost q9.2)), (a_this_s, .inl (cA, 22, .inl (upd q8 4 q9.1))), (a_this_mind, .inl (cA, 22, .inl yf_this_mind)), (a_this_refused, .inl (cA, 7, .inl yf_this_refused))] := hD
        refine lv_aload_n hx hb dX3_lots_61 rfl (lv_at hl 0 rfl) ?_
        refine va_get (D := D) (ci := 3) (v := .ref a_this_s) (C := RX3) (T := TX3) (N := 16) hx hb hts jX3_lots_X3 hown hK hP 0 rfl rfl 0 (by decide) (hts _ kX3_lots_0) (fun _ h9 => h9) rfl dX3_lots_62 ?_
        refine lv_bipush (v := 9) hx hb dX3_lots_65 (by decide) ?_
        refine lv_iconst (v := 0) hx hb dX3_lots_67 (by decide) ?_
        refine rf_iastorek hx hb hK hP hD hS 1 0 rfl rfl (k := 9) (by decide) (by decide) (by decide) dX3_lots_68 (fun H locs hP hD hS => ?_)
        have hP : va_P D vwCl [(a_this, .inr (3, rf_o3 a_this_s a_this_image a_this_read a_this_mind a_this_letters a_this_row a_this_refused a_this_numbers a_this_cost q9.2)), (a_this_s, .inl (cA, 22, .inl (upd (upd q8 4 q9.1) 9 0))), (a_this_mind, .inl (cA, 22, .inl yf_this_mind)), (a_this_refused, .inl (cA, 7, .inl yf_this_refused))] H := hP
        have hD : va_D A [(a_this, .inr (3, rf_o3 a_this_s a_this_image a_this_read a_this_mind a_this_letters a_this_row a_this_refused a_this_numbers a_this_cost q9.2)), (a_this_s, .inl (cA, 22, .inl (upd (upd q8 4 q9.1) 9 0))), (a_this_mind, .inl (cA, 22, .inl yf_this_mind)), (a_this_refused, .inl (cA, 7, .inl yf_this_refused))] := hD
        refine lv_iconst (v := 0) hx hb dX3_lots_69 (by decide) ?_
        refine lv_istore (lv' := [(5, .int 0), (0, .ref a_this), (1, .int p1), (3, .int x3), (4, .int x4)]) hx hb dX3_lots_70 hl (by decide) rfl (fun ls hl => ?_)
        obtain ⟨q10, hq10, hf⟩ := rf_bindq hf
        refine key_72 x3 x4 yf_this_mind yf_this_refused rf_fu 0 q9.2 (upd (upd q8 4 q9.1) 9 0) q10 hq10 _ _ _ hP hD hS (lv_sub hl [1, 2, 3, 4, 0] rfl) (fun H locs ls hP hD hS hl => ?_)
        refine lv_iload_n hx hb dX3_lots_104 rfl (lv_at hl 2 rfl) ?_
        refine lv_aload_n hx hb dX3_lots_105 rfl (lv_at hl 0 rfl) ?_
        refine va_get (D := D) (ci := 3) (v := .ref a_this_s) (C := RX3) (T := TX3) (N := 16) hx hb hts jX3_lots_X3 hown hK hP 0 rfl rfl 0 (by decide) (hts _ kX3_lots_0) (fun _ h9 => h9) rfl dX3_lots_106 ?_
        refine lv_bipush (v := 9) hx hb dX3_lots_109 (by decide) ?_
        refine rf_ialoadk hx hb hK hP 1 0 rfl rfl (k := 9) (by decide) (by decide) (by decide) dX3_lots_111 ?_
        refine lv_iadd hx hb dX3_lots_112 ?_
        refine lv_topi (fun v11 ev11 => ?_)
        have hf := rf_bindv hf ev11
        clear ev11
        refine lv_istore_n (lv' := [(3, .int v11), (0, .ref a_this), (1, .int p1), (4, .int x4), (5, .int q10.1)]) hx hb dX3_lots_113 rfl hl (by decide) rfl (fun ls hl => ?_)
        obtain ⟨v12, ev12⟩ : ∃ y : Int32, y = x4 + 1 := ⟨_, rfl⟩
        have hf := rf_bindv hf ev12
        refine lv_iinc (v := v12) (lv' := [(4, .int v12), (3, .int v11), (0, .ref a_this), (1, .int p1), (5, .int q10.1)]) hx hb dX3_lots_114 hl (k := 3) rfl (by rw [ev12]; rfl) (by decide) rfl (fun ls hl => ?_)
        clear ev12
        refine lv_goto (tgt := 39) hx hb dX3_lots_117 (by decide) ?_
        exact ih v11 v12 q10.2.1 q10.2.2 ql hf _ _ _ hP hD hS (lv_sub hl [2, 3, 1, 0] rfl) kx
  rw [f_X3_lots] at hf
  refine lv_iload_n hx hb dX3_lots_0 rfl (lv_at hl 1 rfl) ?_
  refine lv_iconst (v := 1) hx hb dX3_lots_1 (by decide) ?_
  refine lv_icmp_ge (tgt := 12) hx hb dX3_lots_2 (by decide) (fun c13 => ?_) (fun c13 => ?_)
  · have hf := rf_ifp hf c13
    refine lv_iload_n hx hb dX3_lots_12 rfl (lv_at hl 1 rfl) ?_
    refine lv_bipush (v := 20) hx hb dX3_lots_13 (by decide) ?_
    refine lv_icmp_le (tgt := 25) hx hb dX3_lots_15 (by decide) (fun c14 => ?_) (fun c14 => ?_)
    · have hf := rf_ifp hf c14
      refine lv_aload_n hx hb dX3_lots_25 rfl (lv_at hl 0 rfl) ?_
      refine lv_iload_n hx hb dX3_lots_26 rfl (lv_at hl 2 rfl) ?_
      refine va_put (D := D) (ci := 3) (v := .int p2) (ty := .int) (C := RX3) (T := TX3) (N := 16) hx hb hts jX3_lots_X3 tyX3 tyX3_ok nmX3 hown hK hP hD hS 0 rfl rfl 15 (by decide) (hts _ kX3_lots_1) (fun _ h9 => h9) rfl (by decide +kernel) rfl rfl (Nat.le_of_ble_eq_true rfl) dX3_lots_27 (fun H locs hP hD hS => ?_)
      have hP : va_P D vwCl [(a_this, .inr (3, rf_o3 a_this_s a_this_image a_this_read a_this_mind a_this_letters a_this_row a_this_refused a_this_numbers a_this_cost (upd g_this 6 p2))), (a_this_s, .inl (cA, 22, .inl f_this_s)), (a_this_mind, .inl (cA, 22, .inl f_this_mind)), (a_this_refused, .inl (cA, 7, .inl f_this_refused))] H := hP
      have hD : va_D A [(a_this, .inr (3, rf_o3 a_this_s a_this_image a_this_read a_this_mind a_this_letters a_this_row a_this_refused a_this_numbers a_this_cost (upd g_this 6 p2))), (a_this_s, .inl (cA, 22, .inl f_this_s)), (a_this_mind, .inl (cA, 22, .inl f_this_mind)), (a_this_refused, .inl (cA, 7, .inl f_this_refused))] := hD
      refine lv_aload_n hx hb dX3_lots_30 rfl (lv_at hl 0 rfl) ?_
      obtain ⟨q15, hq15, hf⟩ := rf_bindq hf
      refine rf_Vv (As := []) (rest := []) (wr := [(a_this_refused, .inl (cA, 7, .inl f_this_refused))]) (wn := [(a_this, .inr (3, rf_o3 a_this_s a_this_image a_this_read a_this_mind a_this_letters a_this_row a_this_refused a_this_numbers a_this_cost (upd g_this 6 p2))), (a_this_s, .inl (cA, 22, .inl f_this_s)), (a_this_mind, .inl (cA, 22, .inl q15)), (a_this_refused, .inl (cA, 7, .inl f_this_refused))]) ⟨hx, hb, hml, hown, hts⟩ hK hP hD hS hA hE (c_X3_begins l D cA ad a_this a_this_s a_this_image a_this_read a_this_mind a_this_letters a_this_row a_this_refused a_this_numbers a_this_cost H.size (upd g_this 6 p2) f_this_s f_this_mind q15 hq15) (cwV 0 hts gX3_lots_X3_begins rfl rfl rfl hv_X3_begins ⟨Nat.le_of_ble_eq_true rfl, Nat.le_of_ble_eq_true rfl⟩) [0, 1, 2] [3] [1, 2, 3, 0] rfl rfl rfl rfl (by decide) rfl rfl 3 0 rfl rfl rfl rfl rfl hl.1 (Nat.le_of_ble_eq_true rfl) dX3_lots_31 ⟨Nat.zero_le _, Nat.zero_le _⟩ (fun H locs hP hD hS => ?_)
      refine lv_iconst (v := 0) hx hb dX3_lots_34 (by decide) ?_
      refine lv_istore_n (lv' := [(3, .int 0), (0, .ref a_this), (1, .int p1), (2, .int p2)]) hx hb dX3_lots_35 rfl hl (by decide) rfl (fun ls hl => ?_)
      refine lv_iconst (v := 0) hx hb dX3_lots_36 (by decide) ?_
      refine lv_istore (lv' := [(4, .int 0), (3, .int 0), (0, .ref a_this), (1, .int p1), (2, .int p2)]) hx hb dX3_lots_37 hl (by decide) rfl (fun ls hl => ?_)
      obtain ⟨q16, hq16, hf⟩ := rf_bindq hf
      refine key_39 q15 f_this_refused rf_fu 0 0 (upd g_this 6 p2) f_this_s q16 hq16 _ _ _ hP hD hS (lv_sub hl [2, 3, 1, 0] rfl) (fun H locs ls hP hD hS hl => ?_)
      refine lv_aload_n hx hb dX3_lots_120 rfl (lv_at hl 0 rfl) ?_
      obtain ⟨q17, hq17, hf⟩ := rf_bindq hf
      refine rf_Vv (As := []) (rest := []) (wr := [(a_this_refused, .inl (cA, 7, .inl f_this_refused))]) (wn := [(a_this, .inr (3, rf_o3 a_this_s a_this_image a_this_read a_this_mind a_this_letters a_this_row a_this_refused a_this_numbers a_this_cost q16.2.2.1)), (a_this_s, .inl (cA, 22, .inl q17)), (a_this_mind, .inl (cA, 22, .inl q15)), (a_this_refused, .inl (cA, 7, .inl f_this_refused))]) ⟨hx, hb, hml, hown, hts⟩ hK hP hD hS hA hE (c_X3_ends l D cA ad a_this a_this_s a_this_image a_this_read a_this_mind a_this_letters a_this_row a_this_refused a_this_numbers a_this_cost H.size q16.2.2.1 q16.2.2.2 q15 q17 hq17) (cwV 0 hts gX3_lots_X3_ends rfl rfl rfl hv_X3_ends ⟨Nat.le_of_ble_eq_true rfl, Nat.le_of_ble_eq_true rfl⟩) [0, 1, 2] [3] [1, 2, 3, 0] rfl rfl rfl rfl (by decide) rfl rfl 3 0 rfl rfl rfl rfl rfl hl.1 (Nat.le_of_ble_eq_true rfl) dX3_lots_121 ⟨Nat.zero_le _, Nat.zero_le _⟩ (fun H locs hP hD hS => ?_)
      refine lv_iload_n hx hb dX3_lots_124 rfl (lv_at hl 2 rfl) ?_
      obtain rfl := Option.some.inj hf
      exact W.iret (v := q16.1) hx hb hr (fun t ht hW => ⟨⟨q16.1, (), rfl, rfl, rf_mk ht hP hD⟩, hS.F ht⟩) hS.2.2 dX3_lots_125
    · have hf := rf_ifn hf c14
      refine lv_aload_n hx hb dX3_lots_18 rfl (lv_at hl 0 rfl) ?_
      refine lv_bipush (v := (-6)) hx hb dX3_lots_19 (by decide) ?_
      obtain ⟨q18, hq18, hf⟩ := rf_bindq hf
      refine rf_Vi (As := [.int (-6)]) (rest := []) (wr := [(a_this_s, .inl (cA, 22, .inl f_this_s)), (a_this_mind, .inl (cA, 22, .inl f_this_mind))]) (wn := [(a_this, .inr (3, rf_o3 a_this_s a_this_image a_this_read a_this_mind a_this_letters a_this_row a_this_refused a_this_numbers a_this_cost g_this)), (a_this_s, .inl (cA, 22, .inl f_this_s)), (a_this_mind, .inl (cA, 22, .inl f_this_mind)), (a_this_refused, .inl (cA, 7, .inl q18.2))]) ⟨hx, hb, hml, hown, hts⟩ hK hP hD hS hA hE (c_X3_no l D cA ad a_this a_this_s a_this_image a_this_read a_this_mind a_this_letters a_this_row a_this_refused a_this_numbers a_this_cost s.heap.size g_this f_this_refused (-6) q18 hq18) (cwV 1 hts gX3_lots_X3_no rfl rfl rfl hv_X3_no ⟨Nat.le_of_ble_eq_true rfl, Nat.le_of_ble_eq_true rfl⟩) [0, 3] [1, 2] [2, 0, 1, 3] rfl rfl rfl rfl (by decide) rfl rfl 3 0 rfl rfl rfl rfl rfl hl.1 (Nat.le_of_ble_eq_true rfl) dX3_lots_21 ⟨Nat.zero_le _, Nat.zero_le _⟩ (fun H locs hP hD hS => ?_)
      obtain rfl := Option.some.inj hf
      exact W.iret (v := q18.1) hx hb hr (fun t ht hW => ⟨⟨q18.1, (), rfl, rfl, rf_mk ht hP hD⟩, hS.F ht⟩) hS.2.2 dX3_lots_24
  · have hf := rf_ifn hf c13
    refine lv_aload_n hx hb dX3_lots_5 rfl (lv_at hl 0 rfl) ?_
    refine lv_bipush (v := (-4)) hx hb dX3_lots_6 (by decide) ?_
    obtain ⟨q19, hq19, hf⟩ := rf_bindq hf
    refine rf_Vi (As := [.int (-4)]) (rest := []) (wr := [(a_this_s, .inl (cA, 22, .inl f_this_s)), (a_this_mind, .inl (cA, 22, .inl f_this_mind))]) (wn := [(a_this, .inr (3, rf_o3 a_this_s a_this_image a_this_read a_this_mind a_this_letters a_this_row a_this_refused a_this_numbers a_this_cost g_this)), (a_this_s, .inl (cA, 22, .inl f_this_s)), (a_this_mind, .inl (cA, 22, .inl f_this_mind)), (a_this_refused, .inl (cA, 7, .inl q19.2))]) ⟨hx, hb, hml, hown, hts⟩ hK hP hD hS hA hE (c_X3_no l D cA ad a_this a_this_s a_this_image a_this_read a_this_mind a_this_letters a_this_row a_this_refused a_this_numbers a_this_cost s.heap.size g_this f_this_refused (-4) q19 hq19) (cwV 1 hts gX3_lots_X3_no rfl rfl rfl hv_X3_no ⟨Nat.le_of_ble_eq_true rfl, Nat.le_of_ble_eq_true rfl⟩) [0, 3] [1, 2] [2, 0, 1, 3] rfl rfl rfl rfl (by decide) rfl rfl 3 0 rfl rfl rfl rfl rfl hl.1 (Nat.le_of_ble_eq_true rfl) dX3_lots_8 ⟨Nat.zero_le _, Nat.zero_le _⟩ (fun H locs hP hD hS => ?_)
    obtain rfl := Option.some.inj hf
    exact W.iret (v := q19.1) hx hb hr (fun t ht hW => ⟨⟨q19.1, (), rfl, rfl, rf_mk ht hP hD⟩, hS.F ht⟩) hS.2.2 dX3_lots_11
theorem kX3_image_0 : (.fieldLink RX3 9 "RingAndFingerModel" "s" "[I" : Cond) ∈ wsX3_image := by decide +kernel
theorem kX3_image_1 : (.fieldLink RX3 13 "RingAndFingerModel" "image" "[I" : Cond) ∈ wsX3_image := by decide +kernel
theorem kX3_image_2 : (.fieldLink RX3 213 "RingAndFingerModel" "hasImage" "Z" : Cond) ∈ wsX3_image := by decide +kernel
theorem jX3_image_X3 : ∀ w ∈ u_ws RX3 TX3 16, w ∈ wsX3_image := by decide +kernel
set_option maxHeartbeats 8000000 in
set_option maxRecDepth 100000 in
theorem c_X3_image (l : Launch) (D : va_G) (cA : ClassId) (ad : Nat → Nat) (a_this a_this_s a_this_image a_this_read a_this_mind a_this_letters a_this_row a_this_refused a_this_numbers a_this_cost : Nat) (sz : Nat) (g_this f_this_s f_this_image : Nat → Int32) (q : Int32 × (Nat → Int32) × (Nat → Int32)) (hf : f_X3_image g_this f_this_s f_this_image = some q) : Met l yX3_image wsX3_image ({ frames := 1, cells := 0, slots := 0, locals := 22 } : Room) (va_Pc [.ref a_this] (rf_Pre D cA ad [(a_this, .inr (3, rf_o3 a_this_s a_this_image a_this_read a_this_mind a_this_letters a_this_row a_this_refused a_this_numbers a_this_cost g_this)), (a_this_s, .inl (cA, 22, .inl f_this_s)), (a_this_image, .inl (cA, 22, .inl f_this_image))] sz)) (va_Qi (fun (r : Int32) (_ : Unit) => r = q.1) (fun _ t => rf_Post D (va_A [(a_this, .inr (3, rf_o3 a_this_s a_this_image a_this_read a_this_mind a_this_letters a_this_row a_this_refused a_this_numbers a_this_cost g_this)), (a_this_s, .inl (cA, 22, .inl f_this_s)), (a_this_image, .inl (cA, 22, .inl f_this_image))] sz) [(a_this, .inr (3, rf_o3 a_this_s a_this_image a_this_read a_this_mind a_this_letters a_this_row a_this_refused a_this_numbers a_this_cost q.2.1)), (a_this_s, .inl (cA, 22, .inl f_this_s)), (a_this_image, .inl (cA, 22, .inl q.2.2))] t) (va_A [(a_this, .inr (3, rf_o3 a_this_s a_this_image a_this_read a_this_mind a_this_letters a_this_row a_this_refused a_this_numbers a_this_cost g_this)), (a_this_s, .inl (cA, 22, .inl f_this_s)), (a_this_image, .inl (cA, 22, .inl f_this_image))] sz)) 0 0 (va_A [(a_this, .inr (3, rf_o3 a_this_s a_this_image a_this_read a_this_mind a_this_letters a_this_row a_this_refused a_this_numbers a_this_cost g_this)), (a_this_s, .inl (cA, 22, .inl f_this_s)), (a_this_image, .inl (cA, 22, .inl f_this_image))] sz) := by
  refine Met.ofW (cc := cX3_image) (maxL := 1) (ret := (some .int)) (by decide) rfl ?_
  intro p e s m args below meth c s₁ B hml hv
  obtain ⟨rfl, hsz, hP, hK, hD0, hE⟩ := hv
  have hx := B.exec
  have hb := B.bytes
  have hr := B.returns
  have hts := atoms_spec (ws := wsX3_image) B.pre
  have hown : s.vm.findClass RX3 = some m.cls := findClass_of_methodNamed B.named
  have hlocks := B.notSynchronized
  subst hsz
  have hD := hD0.self (sz := s.heap.size)
  generalize hAe : va_A [(a_this, .inr (3, rf_o3 a_this_s a_this_image a_this_read a_this_mind a_this_letters a_this_row a_this_refused a_this_numbers a_this_cost g_this)), (a_this_s, .inl (cA, 22, .inl f_this_s)), (a_this_image, .inl (cA, 22, .inl f_this_image))] s.heap.size = A at hD hE ⊢
  have hA : ∀ q : Nat, s.heap.size ≤ q → A q := fun q h => by rw [← hAe]; exact Or.inr h
  have hS : va_S A s.heap s.heap [] := va_S.rf
  have hP : va_P D vwCl [(a_this, .inr (3, rf_o3 a_this_s a_this_image a_this_read a_this_mind a_this_letters a_this_row a_this_refused a_this_numbers a_this_cost g_this)), (a_this_s, .inl (cA, 22, .inl f_this_s)), (a_this_image, .inl (cA, 22, .inl f_this_image))] s.heap := hP
  have hl := lv_entry ([.ref a_this]) (n := 1) (Nat.le_of_ble_eq_true rfl)
  rw [lg_entry_eq]
  generalize (lg_sl ([.ref a_this]) ++ List.replicate (1 - (lg_sl ([.ref a_this])).length) Slot.unset).toArray = ls at hl ⊢
  have hl : lv_has ls 1 [(0, .ref a_this)] := hl
  rw [f_X3_image] at hf
  refine lv_aload_n hx hb dX3_image_0 rfl (lv_at hl 0 rfl) ?_
  refine va_get (D := D) (ci := 3) (v := .ref a_this_s) (C := RX3) (T := TX3) (N := 16) hx hb hts jX3_image_X3 hown hK hP 0 rfl rfl 0 (by decide) (hts _ kX3_image_0) (fun _ h9 => h9) rfl dX3_image_1 ?_
  refine lv_aload_n hx hb dX3_image_4 rfl (lv_at hl 0 rfl) ?_
  refine va_get (D := D) (ci := 3) (v := .ref a_this_image) (C := RX3) (T := TX3) (N := 16) hx hb hts jX3_image_X3 hown hK hP 0 rfl rfl 1 (by decide) (hts _ kX3_image_1) (fun _ h9 => h9) rfl dX3_image_5 ?_
  obtain ⟨q1, hq1, hf⟩ := rf_bindq hf
  refine rf_Sv (As := [.ref a_this_s, .ref a_this_image]) (rest := []) (wr := [(a_this, .inr (3, rf_o3 a_this_s a_this_image a_this_read a_this_mind a_this_letters a_this_row a_this_refused a_this_numbers a_this_cost g_this))]) (wn := [(a_this, .inr (3, rf_o3 a_this_s a_this_image a_this_read a_this_mind a_this_letters a_this_row a_this_refused a_this_numbers a_this_cost g_this)), (a_this_s, .inl (cA, 22, .inl f_this_s)), (a_this_image, .inl (cA, 22, .inl q1))]) ⟨hx, hb, hml, hown, hts⟩ hK hP hD hS hA hE (c_X3_lays l D cA ad a_this_s a_this_image s.heap.size 22 22 f_this_s f_this_image q1 hq1) (va_cwS 2 hts gX3_image_X3_lays rfl rfl rfl hs_X3_lays ⟨Nat.le_of_ble_eq_true rfl, Nat.le_of_ble_eq_true rfl⟩) [1, 2] [0] [0, 1, 2] rfl rfl rfl rfl (by decide) rfl rfl rfl rfl hl.1 (Nat.le_of_ble_eq_true rfl) dX3_image_8 ⟨Nat.zero_le _, Nat.zero_le _⟩ (fun H locs hP hD hS => ?_)
  refine lv_aload_n hx hb dX3_image_11 rfl (lv_at hl 0 rfl) ?_
  refine lv_iconst (v := 1) hx hb dX3_image_12 (by decide) ?_
  refine va_put (D := D) (ci := 3) (v := .int 1) (ty := .boolean) (C := RX3) (T := TX3) (N := 16) hx hb hts jX3_image_X3 tyX3 tyX3_ok nmX3 hown hK hP hD hS 0 rfl rfl 4 (by decide) (hts _ kX3_image_2) (fun _ h9 => h9) rfl (by decide +kernel) rfl rfl (Nat.le_of_ble_eq_true rfl) dX3_image_13 (fun H locs hP hD hS => ?_)
  have hP : va_P D vwCl [(a_this, .inr (3, rf_o3 a_this_s a_this_image a_this_read a_this_mind a_this_letters a_this_row a_this_refused a_this_numbers a_this_cost (upd g_this 0 1))), (a_this_s, .inl (cA, 22, .inl f_this_s)), (a_this_image, .inl (cA, 22, .inl q1))] H := hP
  have hD : va_D A [(a_this, .inr (3, rf_o3 a_this_s a_this_image a_this_read a_this_mind a_this_letters a_this_row a_this_refused a_this_numbers a_this_cost (upd g_this 0 1))), (a_this_s, .inl (cA, 22, .inl f_this_s)), (a_this_image, .inl (cA, 22, .inl q1))] := hD
  refine lv_aload_n hx hb dX3_image_16 rfl (lv_at hl 0 rfl) ?_
  refine va_get (D := D) (ci := 3) (v := .ref a_this_s) (C := RX3) (T := TX3) (N := 16) hx hb hts jX3_image_X3 hown hK hP 0 rfl rfl 0 (by decide) (hts _ kX3_image_0) (fun _ h9 => h9) rfl dX3_image_17 ?_
  refine lv_bipush (v := 8) hx hb dX3_image_20 (by decide) ?_
  refine rf_ialoadk hx hb hK hP 1 0 rfl rfl (k := 8) (by decide) (by decide) (by decide) dX3_image_22 ?_
  obtain rfl := Option.some.inj hf
  exact W.iret (v := (f_this_s 8)) hx hb hr (fun t ht hW => ⟨⟨(f_this_s 8), (), rfl, rfl, rf_mk ht hP hD⟩, hS.F ht⟩) hS.2.2 dX3_image_23
theorem kX3_on_0 : (.fieldLink RX3 213 "RingAndFingerModel" "hasImage" "Z" : Cond) ∈ wsX3_on := by decide +kernel
theorem kX3_on_1 : (.fieldLink RX3 13 "RingAndFingerModel" "image" "[I" : Cond) ∈ wsX3_on := by decide +kernel
theorem kX3_on_2 : (.fieldLink RX3 9 "RingAndFingerModel" "s" "[I" : Cond) ∈ wsX3_on := by decide +kernel
theorem jX3_on_X3 : ∀ w ∈ u_ws RX3 TX3 16, w ∈ wsX3_on := by decide +kernel
set_option maxHeartbeats 8000000 in
set_option maxRecDepth 100000 in
theorem c_X3_on (l : Launch) (D : va_G) (cA : ClassId) (ad : Nat → Nat) (a_this a_this_s a_this_image a_this_read a_this_mind a_this_letters a_this_row a_this_refused a_this_numbers a_this_cost : Nat) (sz : Nat) (g_this f_this_s f_this_image f_this_refused : Nat → Int32) (q : Int32 × (Nat → Int32) × (Nat → Int32)) (hf : f_X3_on g_this f_this_s f_this_image f_this_refused = some q) : Met l yX3_on wsX3_on ({ frames := 1, cells := 0, slots := 0, locals := 22 } : Room) (va_Pc [.ref a_this] (rf_Pre D cA ad [(a_this, .inr (3, rf_o3 a_this_s a_this_image a_this_read a_this_mind a_this_letters a_this_row a_this_refused a_this_numbers a_this_cost g_this)), (a_this_s, .inl (cA, 22, .inl f_this_s)), (a_this_image, .inl (cA, 22, .inl f_this_image)), (a_this_refused, .inl (cA, 7, .inl f_this_refused))] sz)) (va_Qi (fun (r : Int32) (_ : Unit) => r = q.1) (fun _ t => rf_Post D (va_A [(a_this, .inr (3, rf_o3 a_this_s a_this_image a_this_read a_this_mind a_this_letters a_this_row a_this_refused a_this_numbers a_this_cost g_this)), (a_this_s, .inl (cA, 22, .inl f_this_s)), (a_this_image, .inl (cA, 22, .inl f_this_image)), (a_this_refused, .inl (cA, 7, .inl f_this_refused))] sz) [(a_this, .inr (3, rf_o3 a_this_s a_this_image a_this_read a_this_mind a_this_letters a_this_row a_this_refused a_this_numbers a_this_cost g_this)), (a_this_s, .inl (cA, 22, .inl q.2.1)), (a_this_image, .inl (cA, 22, .inl f_this_image)), (a_this_refused, .inl (cA, 7, .inl q.2.2))] t) (va_A [(a_this, .inr (3, rf_o3 a_this_s a_this_image a_this_read a_this_mind a_this_letters a_this_row a_this_refused a_this_numbers a_this_cost g_this)), (a_this_s, .inl (cA, 22, .inl f_this_s)), (a_this_image, .inl (cA, 22, .inl f_this_image)), (a_this_refused, .inl (cA, 7, .inl f_this_refused))] sz)) 0 0 (va_A [(a_this, .inr (3, rf_o3 a_this_s a_this_image a_this_read a_this_mind a_this_letters a_this_row a_this_refused a_this_numbers a_this_cost g_this)), (a_this_s, .inl (cA, 22, .inl f_this_s)), (a_this_image, .inl (cA, 22, .inl f_this_image)), (a_this_refused, .inl (cA, 7, .inl f_this_refused))] sz) := by
  refine Met.ofW (cc := cX3_on) (maxL := 1) (ret := (some .int)) (by decide) rfl ?_
  intro p e s m args below meth c s₁ B hml hv
  obtain ⟨rfl, hsz, hP, hK, hD0, hE⟩ := hv
  have hx := B.exec
  have hb := B.bytes
  have hr := B.returns
  have hts := atoms_spec (ws := wsX3_on) B.pre
  have hown : s.vm.findClass RX3 = some m.cls := findClass_of_methodNamed B.named
  have hlocks := B.notSynchronized
  subst hsz
  have hD := hD0.self (sz := s.heap.size)
  generalize hAe : va_A [(a_this, .inr (3, rf_o3 a_this_s a_this_image a_this_read a_this_mind a_this_letters a_this_row a_this_refused a_this_numbers a_this_cost g_this)), (a_this_s, .inl (cA, 22, .inl f_this_s)), (a_this_image, .inl (cA, 22, .inl f_this_image)), (a_this_refused, .inl (cA, 7, .inl f_this_refused))] s.heap.size = A at hD hE ⊢
  have hA : ∀ q : Nat, s.heap.size ≤ q → A q := fun q h => by rw [← hAe]; exact Or.inr h
  have hS : va_S A s.heap s.heap [] := va_S.rf
  have hP : va_P D vwCl [(a_this, .inr (3, rf_o3 a_this_s a_this_image a_this_read a_this_mind a_this_letters a_this_row a_this_refused a_this_numbers a_this_cost g_this)), (a_this_s, .inl (cA, 22, .inl f_this_s)), (a_this_image, .inl (cA, 22, .inl f_this_image)), (a_this_refused, .inl (cA, 7, .inl f_this_refused))] s.heap := hP
  have hl := lv_entry ([.ref a_this]) (n := 1) (Nat.le_of_ble_eq_true rfl)
  rw [lg_entry_eq]
  generalize (lg_sl ([.ref a_this]) ++ List.replicate (1 - (lg_sl ([.ref a_this])).length) Slot.unset).toArray = ls at hl ⊢
  have hl : lv_has ls 1 [(0, .ref a_this)] := hl
  rw [f_X3_on] at hf
  refine lv_aload_n hx hb dX3_on_0 rfl (lv_at hl 0 rfl) ?_
  refine va_get (D := D) (ci := 3) (v := .int (g_this 0)) (C := RX3) (T := TX3) (N := 16) hx hb hts jX3_on_X3 hown hK hP 0 rfl rfl 4 (by decide) (hts _ kX3_on_0) (fun _ h9 => h9) rfl dX3_on_1 ?_
  refine lv_if_ne (tgt := 14) hx hb dX3_on_4 (by decide) (fun c1 => ?_) (fun c1 => ?_)
  · have hf := rf_ifn hf c1
    refine lv_aload_n hx hb dX3_on_14 rfl (lv_at hl 0 rfl) ?_
    refine va_get (D := D) (ci := 3) (v := .ref a_this_image) (C := RX3) (T := TX3) (N := 16) hx hb hts jX3_on_X3 hown hK hP 0 rfl rfl 1 (by decide) (hts _ kX3_on_1) (fun _ h9 => h9) rfl dX3_on_15 ?_
    refine lv_aload_n hx hb dX3_on_18 rfl (lv_at hl 0 rfl) ?_
    refine va_get (D := D) (ci := 3) (v := .ref a_this_s) (C := RX3) (T := TX3) (N := 16) hx hb hts jX3_on_X3 hown hK hP 0 rfl rfl 0 (by decide) (hts _ kX3_on_2) (fun _ h9 => h9) rfl dX3_on_19 ?_
    obtain ⟨q2, hq2, hf⟩ := rf_bindq hf
    refine rf_Sv (As := [.ref a_this_image, .ref a_this_s]) (rest := []) (wr := [(a_this, .inr (3, rf_o3 a_this_s a_this_image a_this_read a_this_mind a_this_letters a_this_row a_this_refused a_this_numbers a_this_cost g_this)), (a_this_refused, .inl (cA, 7, .inl f_this_refused))]) (wn := [(a_this, .inr (3, rf_o3 a_this_s a_this_image a_this_read a_this_mind a_this_letters a_this_row a_this_refused a_this_numbers a_this_cost g_this)), (a_this_s, .inl (cA, 22, .inl q2)), (a_this_image, .inl (cA, 22, .inl f_this_image)), (a_this_refused, .inl (cA, 7, .inl f_this_refused))]) ⟨hx, hb, hml, hown, hts⟩ hK hP hD hS hA hE (c_X3_lays l D cA ad a_this_image a_this_s s.heap.size 22 22 f_this_image f_this_s q2 hq2) (va_cwS 2 hts gX3_on_X3_lays rfl rfl rfl hs_X3_lays ⟨Nat.le_of_ble_eq_true rfl, Nat.le_of_ble_eq_true rfl⟩) [2, 1] [0, 3] [0, 3, 2, 1] rfl rfl rfl rfl (by decide) rfl rfl rfl rfl hl.1 (Nat.le_of_ble_eq_true rfl) dX3_on_22 ⟨Nat.zero_le _, Nat.zero_le _⟩ (fun H locs hP hD hS => ?_)
    refine lv_aload_n hx hb dX3_on_25 rfl (lv_at hl 0 rfl) ?_
    refine va_get (D := D) (ci := 3) (v := .ref a_this_s) (C := RX3) (T := TX3) (N := 16) hx hb hts jX3_on_X3 hown hK hP 0 rfl rfl 0 (by decide) (hts _ kX3_on_2) (fun _ h9 => h9) rfl dX3_on_26 ?_
    refine lv_bipush (v := 8) hx hb dX3_on_29 (by decide) ?_
    refine rf_ialoadk hx hb hK hP 1 0 rfl rfl (k := 8) (by decide) (by decide) (by decide) dX3_on_31 ?_
    obtain rfl := Option.some.inj hf
    exact W.iret (v := (q2 8)) hx hb hr (fun t ht hW => ⟨⟨(q2 8), (), rfl, rfl, rf_mk ht hP hD⟩, hS.F ht⟩) hS.2.2 dX3_on_32
  · have hf := rf_ifp hf c1
    refine lv_aload_n hx hb dX3_on_7 rfl (lv_at hl 0 rfl) ?_
    refine lv_bipush (v := (-3)) hx hb dX3_on_8 (by decide) ?_
    obtain ⟨q3, hq3, hf⟩ := rf_bindq hf
    refine rf_Vi (As := [.int (-3)]) (rest := []) (wr := [(a_this_s, .inl (cA, 22, .inl f_this_s)), (a_this_image, .inl (cA, 22, .inl f_this_image))]) (wn := [(a_this, .inr (3, rf_o3 a_this_s a_this_image a_this_read a_this_mind a_this_letters a_this_row a_this_refused a_this_numbers a_this_cost g_this)), (a_this_s, .inl (cA, 22, .inl f_this_s)), (a_this_image, .inl (cA, 22, .inl f_this_image)), (a_this_refused, .inl (cA, 7, .inl q3.2))]) ⟨hx, hb, hml, hown, hts⟩ hK hP hD hS hA hE (c_X3_no l D cA ad a_this a_this_s a_this_image a_this_read a_this_mind a_this_letters a_this_row a_this_refused a_this_numbers a_this_cost s.heap.size g_this f_this_refused (-3) q3 hq3) (cwV 1 hts gX3_on_X3_no rfl rfl rfl hv_X3_no ⟨Nat.le_of_ble_eq_true rfl, Nat.le_of_ble_eq_true rfl⟩) [0, 3] [1, 2] [2, 0, 1, 3] rfl rfl rfl rfl (by decide) rfl rfl 3 0 rfl rfl rfl rfl rfl hl.1 (Nat.le_of_ble_eq_true rfl) dX3_on_10 ⟨Nat.zero_le _, Nat.zero_le _⟩ (fun H locs hP hD hS => ?_)
    obtain rfl := Option.some.inj hf
    exact W.iret (v := q3.1) hx hb hr (fun t ht hW => ⟨⟨q3.1, (), rfl, rfl, rf_mk ht hP hD⟩, hS.F ht⟩) hS.2.2 dX3_on_13
theorem kX3_count_0 : (.fieldLink RX3 9 "RingAndFingerModel" "s" "[I" : Cond) ∈ wsX3_count := by decide +kernel
theorem kX3_count_1 : (.fieldLink RX3 161 "RingAndFingerModel" "rowMany" "I" : Cond) ∈ wsX3_count := by decide +kernel
theorem kX3_count_2 : (.fieldLink RX3 88 "RingAndFingerModel" "letterMany" "I" : Cond) ∈ wsX3_count := by decide +kernel
theorem kX3_count_3 : (.fieldLink RX3 28 "RingAndFingerModel" "refused" "[I" : Cond) ∈ wsX3_count := by decide +kernel
theorem jX3_count_X3 : ∀ w ∈ u_ws RX3 TX3 16, w ∈ wsX3_count := by decide +kernel
set_option maxHeartbeats 8000000 in
set_option maxRecDepth 100000 in
theorem c_X3_count (l : Launch) (D : va_G) (cA : ClassId) (ad : Nat → Nat) (a_this a_this_s a_this_image a_this_read a_this_mind a_this_letters a_this_row a_this_refused a_this_numbers a_this_cost : Nat) (sz : Nat) (g_this f_this_s f_this_refused : Nat → Int32) (p1 : Int32) (q : Int32) (hf : f_X3_count g_this f_this_s f_this_refused p1 = some q) : Met l yX3_count wsX3_count ({ frames := 1, cells := 0, slots := 0, locals := 22 } : Room) (va_Pc [.ref a_this, .int p1] (rf_Pre D cA ad [(a_this, .inr (3, rf_o3 a_this_s a_this_image a_this_read a_this_mind a_this_letters a_this_row a_this_refused a_this_numbers a_this_cost g_this)), (a_this_s, .inl (cA, 22, .inl f_this_s)), (a_this_refused, .inl (cA, 7, .inl f_this_refused))] sz)) (va_Qi (fun (r : Int32) (_ : Unit) => r = q) (fun _ t => rf_Post D (va_A [(a_this, .inr (3, rf_o3 a_this_s a_this_image a_this_read a_this_mind a_this_letters a_this_row a_this_refused a_this_numbers a_this_cost g_this)), (a_this_s, .inl (cA, 22, .inl f_this_s)), (a_this_refused, .inl (cA, 7, .inl f_this_refused))] sz) [(a_this, .inr (3, rf_o3 a_this_s a_this_image a_this_read a_this_mind a_this_letters a_this_row a_this_refused a_this_numbers a_this_cost g_this)), (a_this_s, .inl (cA, 22, .inl f_this_s)), (a_this_refused, .inl (cA, 7, .inl f_this_refused))] t) (va_A [(a_this, .inr (3, rf_o3 a_this_s a_this_image a_this_read a_this_mind a_this_letters a_this_row a_this_refused a_this_numbers a_this_cost g_this)), (a_this_s, .inl (cA, 22, .inl f_this_s)), (a_this_refused, .inl (cA, 7, .inl f_this_refused))] sz)) 0 0 (va_A [(a_this, .inr (3, rf_o3 a_this_s a_this_image a_this_read a_this_mind a_this_letters a_this_row a_this_refused a_this_numbers a_this_cost g_this)), (a_this_s, .inl (cA, 22, .inl f_this_s)), (a_this_refused, .inl (cA, 7, .inl f_this_refused))] sz) := by
  refine Met.ofW (cc := cX3_count) (maxL := 2) (ret := (some .int)) (by decide) rfl ?_
  intro p e s m args below meth c s₁ B hml hv
  obtain ⟨rfl, hsz, hP, hK, hD0, hE⟩ := hv
  have hx := B.exec
  have hb := B.bytes
  have hr := B.returns
  have hts := atoms_spec (ws := wsX3_count) B.pre
  have hown : s.vm.findClass RX3 = some m.cls := findClass_of_methodNamed B.named
  have hlocks := B.notSynchronized
  subst hsz
  have hD := hD0.self (sz := s.heap.size)
  generalize hAe : va_A [(a_this, .inr (3, rf_o3 a_this_s a_this_image a_this_read a_this_mind a_this_letters a_this_row a_this_refused a_this_numbers a_this_cost g_this)), (a_this_s, .inl (cA, 22, .inl f_this_s)), (a_this_refused, .inl (cA, 7, .inl f_this_refused))] s.heap.size = A at hD hE ⊢
  have hA : ∀ q : Nat, s.heap.size ≤ q → A q := fun q h => by rw [← hAe]; exact Or.inr h
  have hS : va_S A s.heap s.heap [] := va_S.rf
  have hP : va_P D vwCl [(a_this, .inr (3, rf_o3 a_this_s a_this_image a_this_read a_this_mind a_this_letters a_this_row a_this_refused a_this_numbers a_this_cost g_this)), (a_this_s, .inl (cA, 22, .inl f_this_s)), (a_this_refused, .inl (cA, 7, .inl f_this_refused))] s.heap := hP
  have hl := lv_entry ([.ref a_this, .int p1]) (n := 2) (Nat.le_of_ble_eq_true rfl)
  rw [lg_entry_eq]
  generalize (lg_sl ([.ref a_this, .int p1]) ++ List.replicate (2 - (lg_sl ([.ref a_this, .int p1])).length) Slot.unset).toArray = ls at hl ⊢
  have hl : lv_has ls 2 [(0, .ref a_this), (1, .int p1)] := hl
  rw [f_X3_count] at hf
  refine lv_iload_n hx hb dX3_count_0 rfl (lv_at hl 1 rfl) ?_
  refine lv_bipush (v := 11) hx hb dX3_count_1 (by decide) ?_
  refine lv_bipush (v := 16) hx hb dX3_count_3 (by decide) ?_
  obtain ⟨q1, hq1, hf⟩ := rf_bindq hf
  refine rf_Si (As := [.int p1, .int 11, .int 16]) (rest := []) (wr := [(a_this, .inr (3, rf_o3 a_this_s a_this_image a_this_read a_this_mind a_this_letters a_this_row a_this_refused a_this_numbers a_this_cost g_this)), (a_this_s, .inl (cA, 22, .inl f_this_s)), (a_this_refused, .inl (cA, 7, .inl f_this_refused))]) (wn := [(a_this, .inr (3, rf_o3 a_this_s a_this_image a_this_read a_this_mind a_this_letters a_this_row a_this_refused a_this_numbers a_this_cost g_this)), (a_this_s, .inl (cA, 22, .inl f_this_s)), (a_this_refused, .inl (cA, 7, .inl f_this_refused))]) ⟨hx, hb, hml, hown, hts⟩ hK hP hD hS hA hE (c_X3_isIn l D cA ad s.heap.size p1 11 16 q1 hq1) (va_cwS 3 hts gX3_count_X3_isIn rfl rfl rfl hs_X3_isIn ⟨Nat.le_of_ble_eq_true rfl, Nat.le_of_ble_eq_true rfl⟩) [] [0, 1, 2] [0, 1, 2] rfl rfl rfl rfl (by decide) rfl rfl rfl rfl hl.1 (Nat.le_of_ble_eq_true rfl) dX3_count_5 ⟨Nat.zero_le _, Nat.zero_le _⟩ (fun H locs hP hD hS => ?_)
  refine lv_if_eq (tgt := 21) hx hb dX3_count_8 (by decide) (fun c2 => ?_) (fun c2 => ?_)
  · have hf := rf_ifp hf c2
    refine lv_iload_n hx hb dX3_count_21 rfl (lv_at hl 1 rfl) ?_
    by_cases c3 : p1 = 0
    · have hf := rf_ifp hf c3
      refine rf_tabC (off := 86) (tgt := 108) hx hb dX3_count_22 c3 (by decide) (by decide) (by decide) (by decide) ?_
      refine lv_aload_n hx hb dX3_count_108 rfl (lv_at hl 0 rfl) ?_
      refine va_get (D := D) (ci := 3) (v := .ref a_this_s) (C := RX3) (T := TX3) (N := 16) hx hb hts jX3_count_X3 hown hK hP 0 rfl rfl 0 (by decide) (hts _ kX3_count_0) (fun _ h9 => h9) rfl dX3_count_109 ?_
      refine lv_iconst (v := 0) hx hb dX3_count_112 (by decide) ?_
      refine rf_ialoadk hx hb hK hP 1 0 rfl rfl (k := 0) (by decide) (by decide) (by decide) dX3_count_113 ?_
      obtain rfl := Option.some.inj hf
      exact W.iret (v := (f_this_s 0)) hx hb hr (fun t ht hW => ⟨⟨(f_this_s 0), (), rfl, rfl, rf_mk ht hP hD⟩, hS.F ht⟩) hS.2.2 dX3_count_114
    · have hf := rf_ifn hf c3
      by_cases c4 : p1 = 1
      · have hf := rf_ifp hf c4
        refine rf_tabC (off := 93) (tgt := 115) hx hb dX3_count_22 c4 (by decide) (by decide) (by decide) (by decide) ?_
        refine lv_aload_n hx hb dX3_count_115 rfl (lv_at hl 0 rfl) ?_
        refine va_get (D := D) (ci := 3) (v := .ref a_this_s) (C := RX3) (T := TX3) (N := 16) hx hb hts jX3_count_X3 hown hK hP 0 rfl rfl 0 (by decide) (hts _ kX3_count_0) (fun _ h9 => h9) rfl dX3_count_116 ?_
        refine lv_iconst (v := 3) hx hb dX3_count_119 (by decide) ?_
        refine rf_ialoadk hx hb hK hP 1 0 rfl rfl (k := 3) (by decide) (by decide) (by decide) dX3_count_120 ?_
        obtain rfl := Option.some.inj hf
        exact W.iret (v := (f_this_s 3)) hx hb hr (fun t ht hW => ⟨⟨(f_this_s 3), (), rfl, rfl, rf_mk ht hP hD⟩, hS.F ht⟩) hS.2.2 dX3_count_121
      · have hf := rf_ifn hf c4
        by_cases c5 : p1 = 2
        · have hf := rf_ifp hf c5
          refine rf_tabC (off := 100) (tgt := 122) hx hb dX3_count_22 c5 (by decide) (by decide) (by decide) (by decide) ?_
          refine lv_aload_n hx hb dX3_count_122 rfl (lv_at hl 0 rfl) ?_
          refine va_get (D := D) (ci := 3) (v := .ref a_this_s) (C := RX3) (T := TX3) (N := 16) hx hb hts jX3_count_X3 hown hK hP 0 rfl rfl 0 (by decide) (hts _ kX3_count_0) (fun _ h9 => h9) rfl dX3_count_123 ?_
          refine lv_iconst (v := 4) hx hb dX3_count_126 (by decide) ?_
          refine rf_ialoadk hx hb hK hP 1 0 rfl rfl (k := 4) (by decide) (by decide) (by decide) dX3_count_127 ?_
          obtain rfl := Option.some.inj hf
          exact W.iret (v := (f_this_s 4)) hx hb hr (fun t ht hW => ⟨⟨(f_this_s 4), (), rfl, rfl, rf_mk ht hP hD⟩, hS.F ht⟩) hS.2.2 dX3_count_128
        · have hf := rf_ifn hf c5
          by_cases c6 : p1 = 3
          · have hf := rf_ifp hf c6
            refine rf_tabC (off := 107) (tgt := 129) hx hb dX3_count_22 c6 (by decide) (by decide) (by decide) (by decide) ?_
            refine lv_aload_n hx hb dX3_count_129 rfl (lv_at hl 0 rfl) ?_
            refine va_get (D := D) (ci := 3) (v := .ref a_this_s) (C := RX3) (T := TX3) (N := 16) hx hb hts jX3_count_X3 hown hK hP 0 rfl rfl 0 (by decide) (hts _ kX3_count_0) (fun _ h9 => h9) rfl dX3_count_130 ?_
            refine lv_iconst (v := 5) hx hb dX3_count_133 (by decide) ?_
            refine rf_ialoadk hx hb hK hP 1 0 rfl rfl (k := 5) (by decide) (by decide) (by decide) dX3_count_134 ?_
            obtain rfl := Option.some.inj hf
            exact W.iret (v := (f_this_s 5)) hx hb hr (fun t ht hW => ⟨⟨(f_this_s 5), (), rfl, rfl, rf_mk ht hP hD⟩, hS.F ht⟩) hS.2.2 dX3_count_135
          · have hf := rf_ifn hf c6
            by_cases c7 : p1 = 4
            · have hf := rf_ifp hf c7
              refine rf_tabC (off := 114) (tgt := 136) hx hb dX3_count_22 c7 (by decide) (by decide) (by decide) (by decide) ?_
              refine lv_aload_n hx hb dX3_count_136 rfl (lv_at hl 0 rfl) ?_
              refine va_get (D := D) (ci := 3) (v := .ref a_this_s) (C := RX3) (T := TX3) (N := 16) hx hb hts jX3_count_X3 hown hK hP 0 rfl rfl 0 (by decide) (hts _ kX3_count_0) (fun _ h9 => h9) rfl dX3_count_137 ?_
              refine lv_bipush (v := 6) hx hb dX3_count_140 (by decide) ?_
              refine rf_ialoadk hx hb hK hP 1 0 rfl rfl (k := 6) (by decide) (by decide) (by decide) dX3_count_142 ?_
              obtain rfl := Option.some.inj hf
              exact W.iret (v := (f_this_s 6)) hx hb hr (fun t ht hW => ⟨⟨(f_this_s 6), (), rfl, rfl, rf_mk ht hP hD⟩, hS.F ht⟩) hS.2.2 dX3_count_143
            · have hf := rf_ifn hf c7
              by_cases c8 : p1 = 5
              · have hf := rf_ifp hf c8
                refine rf_tabC (off := 122) (tgt := 144) hx hb dX3_count_22 c8 (by decide) (by decide) (by decide) (by decide) ?_
                refine lv_aload_n hx hb dX3_count_144 rfl (lv_at hl 0 rfl) ?_
                refine va_get (D := D) (ci := 3) (v := .ref a_this_s) (C := RX3) (T := TX3) (N := 16) hx hb hts jX3_count_X3 hown hK hP 0 rfl rfl 0 (by decide) (hts _ kX3_count_0) (fun _ h9 => h9) rfl dX3_count_145 ?_
                refine lv_bipush (v := 8) hx hb dX3_count_148 (by decide) ?_
                refine rf_ialoadk hx hb hK hP 1 0 rfl rfl (k := 8) (by decide) (by decide) (by decide) dX3_count_150 ?_
                obtain rfl := Option.some.inj hf
                exact W.iret (v := (f_this_s 8)) hx hb hr (fun t ht hW => ⟨⟨(f_this_s 8), (), rfl, rfl, rf_mk ht hP hD⟩, hS.F ht⟩) hS.2.2 dX3_count_151
              · have hf := rf_ifn hf c8
                by_cases c9 : p1 = 6
                · have hf := rf_ifp hf c9
                  refine rf_tabC (off := 130) (tgt := 152) hx hb dX3_count_22 c9 (by decide) (by decide) (by decide) (by decide) ?_
                  refine lv_aload_n hx hb dX3_count_152 rfl (lv_at hl 0 rfl) ?_
                  refine va_get (D := D) (ci := 3) (v := .ref a_this_s) (C := RX3) (T := TX3) (N := 16) hx hb hts jX3_count_X3 hown hK hP 0 rfl rfl 0 (by decide) (hts _ kX3_count_0) (fun _ h9 => h9) rfl dX3_count_153 ?_
                  refine lv_bipush (v := 9) hx hb dX3_count_156 (by decide) ?_
                  refine rf_ialoadk hx hb hK hP 1 0 rfl rfl (k := 9) (by decide) (by decide) (by decide) dX3_count_158 ?_
                  obtain rfl := Option.some.inj hf
                  exact W.iret (v := (f_this_s 9)) hx hb hr (fun t ht hW => ⟨⟨(f_this_s 9), (), rfl, rfl, rf_mk ht hP hD⟩, hS.F ht⟩) hS.2.2 dX3_count_159
                · have hf := rf_ifn hf c9
                  by_cases c10 : p1 = 7
                  · have hf := rf_ifp hf c10
                    refine rf_tabC (off := 138) (tgt := 160) hx hb dX3_count_22 c10 (by decide) (by decide) (by decide) (by decide) ?_
                    refine lv_aload_n hx hb dX3_count_160 rfl (lv_at hl 0 rfl) ?_
                    refine va_get (D := D) (ci := 3) (v := .ref a_this_s) (C := RX3) (T := TX3) (N := 16) hx hb hts jX3_count_X3 hown hK hP 0 rfl rfl 0 (by decide) (hts _ kX3_count_0) (fun _ h9 => h9) rfl dX3_count_161 ?_
                    refine lv_iconst (v := 1) hx hb dX3_count_164 (by decide) ?_
                    refine rf_ialoadk hx hb hK hP 1 0 rfl rfl (k := 1) (by decide) (by decide) (by decide) dX3_count_165 ?_
                    obtain rfl := Option.some.inj hf
                    exact W.iret (v := (f_this_s 1)) hx hb hr (fun t ht hW => ⟨⟨(f_this_s 1), (), rfl, rfl, rf_mk ht hP hD⟩, hS.F ht⟩) hS.2.2 dX3_count_166
                  · have hf := rf_ifn hf c10
                    by_cases c11 : p1 = 8
                    · have hf := rf_ifp hf c11
                      refine rf_tabC (off := 145) (tgt := 167) hx hb dX3_count_22 c11 (by decide) (by decide) (by decide) (by decide) ?_
                      refine lv_aload_n hx hb dX3_count_167 rfl (lv_at hl 0 rfl) ?_
                      refine va_get (D := D) (ci := 3) (v := .int (g_this 2)) (C := RX3) (T := TX3) (N := 16) hx hb hts jX3_count_X3 hown hK hP 0 rfl rfl 9 (by decide) (hts _ kX3_count_1) (fun _ h9 => h9) rfl dX3_count_168 ?_
                      obtain rfl := Option.some.inj hf
                      exact W.iret (v := (g_this 2)) hx hb hr (fun t ht hW => ⟨⟨(g_this 2), (), rfl, rfl, rf_mk ht hP hD⟩, hS.F ht⟩) hS.2.2 dX3_count_171
                    · have hf := rf_ifn hf c11
                      by_cases c12 : p1 = 9
                      · have hf := rf_ifp hf c12
                        refine rf_tabC (off := 150) (tgt := 172) hx hb dX3_count_22 c12 (by decide) (by decide) (by decide) (by decide) ?_
                        refine lv_aload_n hx hb dX3_count_172 rfl (lv_at hl 0 rfl) ?_
                        refine va_get (D := D) (ci := 3) (v := .int (g_this 1)) (C := RX3) (T := TX3) (N := 16) hx hb hts jX3_count_X3 hown hK hP 0 rfl rfl 8 (by decide) (hts _ kX3_count_2) (fun _ h9 => h9) rfl dX3_count_173 ?_
                        obtain rfl := Option.some.inj hf
                        exact W.iret (v := (g_this 1)) hx hb hr (fun t ht hW => ⟨⟨(g_this 1), (), rfl, rfl, rf_mk ht hP hD⟩, hS.F ht⟩) hS.2.2 dX3_count_176
                      · have hf := rf_ifn hf c12
                        by_cases c13 : p1 = 10
                        · have hf := rf_ifp hf c13
                          refine rf_tabC (off := 155) (tgt := 177) hx hb dX3_count_22 c13 (by decide) (by decide) (by decide) (by decide) ?_
                          refine lv_aload_n hx hb dX3_count_177 rfl (lv_at hl 0 rfl) ?_
                          refine va_get (D := D) (ci := 3) (v := .ref a_this_s) (C := RX3) (T := TX3) (N := 16) hx hb hts jX3_count_X3 hown hK hP 0 rfl rfl 0 (by decide) (hts _ kX3_count_0) (fun _ h9 => h9) rfl dX3_count_178 ?_
                          refine lv_bipush (v := 7) hx hb dX3_count_181 (by decide) ?_
                          refine rf_ialoadk hx hb hK hP 1 0 rfl rfl (k := 7) (by decide) (by decide) (by decide) dX3_count_183 ?_
                          obtain rfl := Option.some.inj hf
                          exact W.iret (v := (f_this_s 7)) hx hb hr (fun t ht hW => ⟨⟨(f_this_s 7), (), rfl, rfl, rf_mk ht hP hD⟩, hS.F ht⟩) hS.2.2 dX3_count_184
                        · have hf := rf_ifn hf c13
                          by_cases c14 : p1 = 17
                          · have hf := rf_ifp hf c14
                            refine rf_tabC (off := 163) (tgt := 185) hx hb dX3_count_22 c14 (by decide) (by decide) (by decide) (by decide) ?_
                            refine lv_aload_n hx hb dX3_count_185 rfl (lv_at hl 0 rfl) ?_
                            refine va_get (D := D) (ci := 3) (v := .ref a_this_s) (C := RX3) (T := TX3) (N := 16) hx hb hts jX3_count_X3 hown hK hP 0 rfl rfl 0 (by decide) (hts _ kX3_count_0) (fun _ h9 => h9) rfl dX3_count_186 ?_
                            refine lv_iconst (v := 2) hx hb dX3_count_189 (by decide) ?_
                            refine rf_ialoadk hx hb hK hP 1 0 rfl rfl (k := 2) (by decide) (by decide) (by decide) dX3_count_190 ?_
                            obtain rfl := Option.some.inj hf
                            exact W.iret (v := (f_this_s 2)) hx hb hr (fun t ht hW => ⟨⟨(f_this_s 2), (), rfl, rfl, rf_mk ht hP hD⟩, hS.F ht⟩) hS.2.2 dX3_count_191
                          · have hf := rf_ifn hf c14
                            refine rf_tabD (tgt := 192) (ks := [0, 1, 2, 3, 4, 5, 6, 7, 8, 9, 10, 17]) hx hb dX3_count_22 (by intro z hz; simp only [List.mem_cons, List.not_mem_nil, or_false] at hz; rcases hz with rfl | rfl | rfl | rfl | rfl | rfl | rfl | rfl | rfl | rfl | rfl | rfl <;> assumption) (by decide) (by decide) ?_
                            refine lv_bipush (v := (-9)) hx hb dX3_count_192 (by decide) ?_
                            obtain rfl := Option.some.inj hf
                            exact W.iret (v := (-9)) hx hb hr (fun t ht hW => ⟨⟨(-9), (), rfl, rfl, rf_mk ht hP hD⟩, hS.F ht⟩) hS.2.2 dX3_count_194
  · have hf := rf_ifn hf c2
    refine lv_aload_n hx hb dX3_count_11 rfl (lv_at hl 0 rfl) ?_
    refine va_get (D := D) (ci := 3) (v := .ref a_this_refused) (C := RX3) (T := TX3) (N := 16) hx hb hts jX3_count_X3 hown hK hP 0 rfl rfl 7 (by decide) (hts _ kX3_count_3) (fun _ h9 => h9) rfl dX3_count_12 ?_
    refine lv_iload_n hx hb dX3_count_15 rfl (lv_at hl 1 rfl) ?_
    refine lv_bipush (v := 10) hx hb dX3_count_16 (by decide) ?_
    refine lv_isub hx hb dX3_count_18 ?_
    obtain ⟨c15, hf⟩ := rf_chk hf
    refine va_iald hx hb hK hP 2 0 rfl rfl c15 dX3_count_19 ?_
    obtain rfl := Option.some.inj hf
    exact W.iret (v := (f_this_refused ((p1 - 10).toNatClampNeg))) hx hb hr (fun t ht hW => ⟨⟨(f_this_refused ((p1 - 10).toNatClampNeg)), (), rfl, rfl, rf_mk ht hP hD⟩, hS.F ht⟩) hS.2.2 dX3_count_20
