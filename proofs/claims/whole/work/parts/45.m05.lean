theorem hs_X3_costOf : yX3_costOf.cls ≠ "java/lang/invoke/MethodHandle" ∧ yX3_costOf.cls ≠ "java/lang/invoke/VarHandle" ∧ (parseMethodDescriptor yX3_costOf.desc).map (fun d => d.parameters.length) = some 2 := by decide +kernel
theorem hv_X3_areHeats : yX3_areHeats.cls = RX3 ∧ yX3_areHeats.cls ≠ "java/lang/invoke/MethodHandle" ∧ yX3_areHeats.cls ≠ "java/lang/invoke/VarHandle" ∧ (parseMethodDescriptor yX3_areHeats.desc).map (fun d => d.parameters.length) = some 0 := by decide +kernel
theorem hv_X3_fallsIn : yX3_fallsIn.cls = RX3 ∧ yX3_fallsIn.cls ≠ "java/lang/invoke/MethodHandle" ∧ yX3_fallsIn.cls ≠ "java/lang/invoke/VarHandle" ∧ (parseMethodDescriptor yX3_fallsIn.desc).map (fun d => d.parameters.length) = some 2 := by decide +kernel
theorem hv_X3_finds : yX3_finds.cls = RX3 ∧ yX3_finds.cls ≠ "java/lang/invoke/MethodHandle" ∧ yX3_finds.cls ≠ "java/lang/invoke/VarHandle" ∧ (parseMethodDescriptor yX3_finds.desc).map (fun d => d.parameters.length) = some 3 := by decide +kernel
theorem hv_X3_leastFrom : yX3_leastFrom.cls = RX3 ∧ yX3_leastFrom.cls ≠ "java/lang/invoke/MethodHandle" ∧ yX3_leastFrom.cls ≠ "java/lang/invoke/VarHandle" ∧ (parseMethodDescriptor yX3_leastFrom.desc).map (fun d => d.parameters.length) = some 3 := by decide +kernel
theorem hv_X3_off : yX3_off.cls = RX3 ∧ yX3_off.cls ≠ "java/lang/invoke/MethodHandle" ∧ yX3_off.cls ≠ "java/lang/invoke/VarHandle" ∧ (parseMethodDescriptor yX3_off.desc).map (fun d => d.parameters.length) = some 3 := by decide +kernel
theorem hv_X3_roomBy : yX3_roomBy.cls = RX3 ∧ yX3_roomBy.cls ≠ "java/lang/invoke/MethodHandle" ∧ yX3_roomBy.cls ≠ "java/lang/invoke/VarHandle" ∧ (parseMethodDescriptor yX3_roomBy.desc).map (fun d => d.parameters.length) = some 2 := by decide +kernel
theorem hv_X3_sticksIn : yX3_sticksIn.cls = RX3 ∧ yX3_sticksIn.cls ≠ "java/lang/invoke/MethodHandle" ∧ yX3_sticksIn.cls ≠ "java/lang/invoke/VarHandle" ∧ (parseMethodDescriptor yX3_sticksIn.desc).map (fun d => d.parameters.length) = some 2 := by decide +kernel
theorem hv_X3_wrongSize : yX3_wrongSize.cls = RX3 ∧ yX3_wrongSize.cls ≠ "java/lang/invoke/MethodHandle" ∧ yX3_wrongSize.cls ≠ "java/lang/invoke/VarHandle" ∧ (parseMethodDescriptor yX3_wrongSize.desc).map (fun d => d.parameters.length) = some 1 := by decide +kernel
theorem kX3_leastFrom_0 : (.fieldLink RX3 34 "RingAndFingerModel" "cost" "[I" : Cond) ∈ wsX3_leastFrom := by decide +kernel
theorem kX3_leastFrom_1 : (.constant RX3 41 (1000000000) : Cond) ∈ wsX3_leastFrom := by decide +kernel
theorem kX3_leastFrom_2 : (.fieldLink RX3 9 "RingAndFingerModel" "s" "[I" : Cond) ∈ wsX3_leastFrom := by decide +kernel
theorem jX3_leastFrom_X3 : ∀ w ∈ u_ws RX3 TX3 16, w ∈ wsX3_leastFrom := by decide +kernel
set_option maxHeartbeats 8000000 in
set_option maxRecDepth 100000 in
theorem c_X3_leastFrom (l : Launch) (D : va_G) (cA : ClassId) (ad : Nat → Nat) (a_this a_this_s a_this_image a_this_read a_this_mind a_this_letters a_this_row a_this_refused a_this_numbers a_this_cost : Nat) (sz : Nat) (g_this f_this_s f_this_cost : Nat → Int32) (p1 p2 p3 : Int32) (q : Int32 × (Nat → Int32)) (hf : f_X3_leastFrom g_this f_this_s f_this_cost p1 p2 p3 = some q) : Met l yX3_leastFrom wsX3_leastFrom ({ frames := 5, cells := 0, slots := 0, locals := 122 } : Room) (va_Pc [.ref a_this, .int p1, .int p2, .int p3] (rf_Pre D cA ad [(a_this, .inr (3, rf_o3 a_this_s a_this_image a_this_read a_this_mind a_this_letters a_this_row a_this_refused a_this_numbers a_this_cost g_this)), (a_this_s, .inl (cA, 22, .inl f_this_s)), (a_this_cost, .inl (cA, 13671, .inl f_this_cost))] sz)) (va_Qi (fun (r : Int32) (_ : Unit) => r = q.1) (fun _ t => rf_Post D (va_A [(a_this, .inr (3, rf_o3 a_this_s a_this_image a_this_read a_this_mind a_this_letters a_this_row a_this_refused a_this_numbers a_this_cost g_this)), (a_this_s, .inl (cA, 22, .inl f_this_s)), (a_this_cost, .inl (cA, 13671, .inl f_this_cost))] sz) [(a_this, .inr (3, rf_o3 a_this_s a_this_image a_this_read a_this_mind a_this_letters a_this_row a_this_refused a_this_numbers a_this_cost g_this)), (a_this_s, .inl (cA, 22, .inl f_this_s)), (a_this_cost, .inl (cA, 13671, .inl q.2))] t) (va_A [(a_this, .inr (3, rf_o3 a_this_s a_this_image a_this_read a_this_mind a_this_letters a_this_row a_this_refused a_this_numbers a_this_cost g_this)), (a_this_s, .inl (cA, 22, .inl f_this_s)), (a_this_cost, .inl (cA, 13671, .inl f_this_cost))] sz)) 0 0 (va_A [(a_this, .inr (3, rf_o3 a_this_s a_this_image a_this_read a_this_mind a_this_letters a_this_row a_this_refused a_this_numbers a_this_cost g_this)), (a_this_s, .inl (cA, 22, .inl f_this_s)), (a_this_cost, .inl (cA, 13671, .inl f_this_cost))] sz) := by
  refine Met.ofW (cc := cX3_leastFrom) (maxL := 8) (ret := (some .int)) (by decide) rfl ?_
  intro p e s m args below meth c s₁ B hml hv
  obtain ⟨rfl, hsz, hP, hK, hD0, hE⟩ := hv
  have hx := B.exec
  have hb := B.bytes
  have hr := B.returns
  have hts := atoms_spec (ws := wsX3_leastFrom) B.pre
  have hown : s.vm.findClass RX3 = some m.cls := findClass_of_methodNamed B.named
  have hlocks := B.notSynchronized
  subst hsz
  have hD := hD0.self (sz := s.heap.size)
  generalize hAe : va_A [(a_this, .inr (3, rf_o3 a_this_s a_this_image a_this_read a_this_mind a_this_letters a_this_row a_this_refused a_this_numbers a_this_cost g_this)), (a_this_s, .inl (cA, 22, .inl f_this_s)), (a_this_cost, .inl (cA, 13671, .inl f_this_cost))] s.heap.size = A at hD hE ⊢
  have hA : ∀ q : Nat, s.heap.size ≤ q → A q := fun q h => by rw [← hAe]; exact Or.inr h
  have hS : va_S A s.heap s.heap [] := va_S.rf
  have hP : va_P D vwCl [(a_this, .inr (3, rf_o3 a_this_s a_this_image a_this_read a_this_mind a_this_letters a_this_row a_this_refused a_this_numbers a_this_cost g_this)), (a_this_s, .inl (cA, 22, .inl f_this_s)), (a_this_cost, .inl (cA, 13671, .inl f_this_cost))] s.heap := hP
  have hl := lv_entry ([.ref a_this, .int p1, .int p2, .int p3]) (n := 8) (Nat.le_of_ble_eq_true rfl)
  rw [lg_entry_eq]
  generalize (lg_sl ([.ref a_this, .int p1, .int p2, .int p3]) ++ List.replicate (8 - (lg_sl ([.ref a_this, .int p1, .int p2, .int p3])).length) Slot.unset).toArray = ls at hl ⊢
  have hl : lv_has ls 8 [(0, .ref a_this), (1, .int p1), (2, .int p2), (3, .int p3)] := hl
  have key_3 : ∀ (n : Nat) (x4 : Int32) (yf_this_cost : Nat → Int32) (ql : Int32 × (Nat → Int32)), f_X3_leastFrom_L3 g_this f_this_s p1 p2 p3 n x4 yf_this_cost = some ql → ∀ (H : Heap) (locs : List Loc) (ls : Array Slot), va_P D vwCl [(a_this, .inr (3, rf_o3 a_this_s a_this_image a_this_read a_this_mind a_this_letters a_this_row a_this_refused a_this_numbers a_this_cost g_this)), (a_this_s, .inl (cA, 22, .inl f_this_s)), (a_this_cost, .inl (cA, 13671, .inl yf_this_cost))] H → va_D A [(a_this, .inr (3, rf_o3 a_this_s a_this_image a_this_read a_this_mind a_this_letters a_this_row a_this_refused a_this_numbers a_this_cost g_this)), (a_this_s, .inl (cA, 22, .inl f_this_s)), (a_this_cost, .inl (cA, 13671, .inl yf_this_cost))] → va_S A s.heap H locs → lv_has ls 8 [(0, .ref a_this), (1, .int p1), (2, .int p2), (3, .int p3), (4, .int x4)] → (∀ (H : Heap) (locs : List Loc) (ls : Array Slot), va_P D vwCl [(a_this, .inr (3, rf_o3 a_this_s a_this_image a_this_read a_this_mind a_this_letters a_this_row a_this_refused a_this_numbers a_this_cost g_this)), (a_this_s, .inl (cA, 22, .inl f_this_s)), (a_this_cost, .inl (cA, 13671, .inl ql.2))] H → va_D A [(a_this, .inr (3, rf_o3 a_this_s a_this_image a_this_read a_this_mind a_this_letters a_this_row a_this_refused a_this_numbers a_this_cost g_this)), (a_this_s, .inl (cA, 22, .inl f_this_s)), (a_this_cost, .inl (cA, 13671, .inl ql.2))] → va_S A s.heap H locs → lv_has ls 8 [(0, .ref a_this), (1, .int p1), (2, .int p2), (3, .int p3), (4, .int ql.1)] → W p l e (headSpec wsX3_leastFrom ({ frames := 5, cells := 0, slots := 0, locals := 122 } : Room)).room s m ([.ref a_this, .int p1, .int p2, .int p3] : List Value).toArray below meth c H locs 0 0 (MQ below (va_Qi (fun (r : Int32) (_ : Unit) => r = q.1) (fun _ t => rf_Post D A [(a_this, .inr (3, rf_o3 a_this_s a_this_image a_this_read a_this_mind a_this_letters a_this_row a_this_refused a_this_numbers a_this_cost g_this)), (a_this_s, .inl (cA, 22, .inl f_this_s)), (a_this_cost, .inl (cA, 13671, .inl q.2))] t) A) ([.ref a_this, .int p1, .int p2, .int p3] : List Value).toArray s 0 0 A) (F0 m 26 ls [])) → W p l e (headSpec wsX3_leastFrom ({ frames := 5, cells := 0, slots := 0, locals := 122 } : Room)).room s m ([.ref a_this, .int p1, .int p2, .int p3] : List Value).toArray below meth c H locs 0 0 (MQ below (va_Qi (fun (r : Int32) (_ : Unit) => r = q.1) (fun _ t => rf_Post D A [(a_this, .inr (3, rf_o3 a_this_s a_this_image a_this_read a_this_mind a_this_letters a_this_row a_this_refused a_this_numbers a_this_cost g_this)), (a_this_s, .inl (cA, 22, .inl f_this_s)), (a_this_cost, .inl (cA, 13671, .inl q.2))] t) A) ([.ref a_this, .int p1, .int p2, .int p3] : List Value).toArray s 0 0 A) (F0 m 3 ls []) := by
    intro n
    induction n with
    | zero =>
      intro x4 yf_this_cost ql hf H locs ls hP hD hS hl kx
      exact absurd (show (none : Option (Int32 × (Nat → Int32))) = some ql from hf) (fun h9 => by cases h9)
    | succ n ih =>
      intro x4 yf_this_cost ql hf H locs ls hP hD hS hl kx
      rw [f_X3_leastFrom_L3] at hf
      refine lv_iload hx hb dX3_leastFrom_3 (lv_at hl 4 rfl) ?_
      refine lv_sipush (v := 13671) hx hb dX3_leastFrom_5 (by decide) ?_
      refine lv_icmp_ge (tgt := 26) hx hb dX3_leastFrom_8 (by decide) (fun c1 => ?_) (fun c1 => ?_)
      · have hf := rf_ifp hf c1
        obtain rfl := Option.some.inj hf
        exact kx _ _ _ hP hD hS (lv_sub hl [0, 1, 2, 3, 4] rfl)
      · have hf := rf_ifn hf c1
        refine lv_aload_n hx hb dX3_leastFrom_11 rfl (lv_at hl 0 rfl) ?_
        refine va_get (D := D) (ci := 3) (v := .ref a_this_cost) (C := RX3) (T := TX3) (N := 16) hx hb hts jX3_leastFrom_X3 hown hK hP 0 rfl rfl 12 (by decide) (hts _ kX3_leastFrom_0) (fun _ h9 => h9) rfl dX3_leastFrom_12 ?_
        refine lv_iload hx hb dX3_leastFrom_15 (lv_at hl 4 rfl) ?_
        refine lv_ldc hx hb hown (hts _ kX3_leastFrom_1) dX3_leastFrom_17 ?_
        obtain ⟨c2, hf⟩ := rf_chk hf
        refine va_iast hx hb hK hP hD hS 2 0 rfl rfl c2 dX3_leastFrom_19 (fun H locs hP hD hS => ?_)
        have hP : va_P D vwCl [(a_this, .inr (3, rf_o3 a_this_s a_this_image a_this_read a_this_mind a_this_letters a_this_row a_this_refused a_this_numbers a_this_cost g_this)), (a_this_s, .inl (cA, 22, .inl f_this_s)), (a_this_cost, .inl (cA, 13671, .inl (upd yf_this_cost (x4.toNatClampNeg) 1000000000)))] H := hP
        have hD : va_D A [(a_this, .inr (3, rf_o3 a_this_s a_this_image a_this_read a_this_mind a_this_letters a_this_row a_this_refused a_this_numbers a_this_cost g_this)), (a_this_s, .inl (cA, 22, .inl f_this_s)), (a_this_cost, .inl (cA, 13671, .inl (upd yf_this_cost (x4.toNatClampNeg) 1000000000)))] := hD
        obtain ⟨v3, ev3⟩ : ∃ y : Int32, y = x4 + 1 := ⟨_, rfl⟩
        have hf := rf_bindv hf ev3
        refine lv_iinc (v := v3) (lv' := [(4, .int v3), (0, .ref a_this), (1, .int p1), (2, .int p2), (3, .int p3)]) hx hb dX3_leastFrom_20 hl (k := 4) rfl (by rw [ev3]; rfl) (by decide) rfl (fun ls hl => ?_)
        clear ev3
        refine lv_goto (tgt := 3) hx hb dX3_leastFrom_23 (by decide) ?_
        exact ih v3 (upd yf_this_cost (x4.toNatClampNeg) 1000000000) ql hf _ _ _ hP hD hS (lv_sub hl [1, 2, 3, 4, 0] rfl) kx
  have key_89 : ∀ (x4 x5 : Int32) (n : Nat) (x6 : Int32) (yf_this_cost : Nat → Int32) (ql : Int32 × (Nat → Int32)), f_X3_leastFrom_L89 g_this f_this_s p1 p2 p3 x4 x5 n x6 yf_this_cost = some ql → ∀ (H : Heap) (locs : List Loc) (ls : Array Slot), va_P D vwCl [(a_this, .inr (3, rf_o3 a_this_s a_this_image a_this_read a_this_mind a_this_letters a_this_row a_this_refused a_this_numbers a_this_cost g_this)), (a_this_s, .inl (cA, 22, .inl f_this_s)), (a_this_cost, .inl (cA, 13671, .inl yf_this_cost))] H → va_D A [(a_this, .inr (3, rf_o3 a_this_s a_this_image a_this_read a_this_mind a_this_letters a_this_row a_this_refused a_this_numbers a_this_cost g_this)), (a_this_s, .inl (cA, 22, .inl f_this_s)), (a_this_cost, .inl (cA, 13671, .inl yf_this_cost))] → va_S A s.heap H locs → lv_has ls 8 [(0, .ref a_this), (2, .int p2), (3, .int p3), (4, .int x4), (5, .int x5), (6, .int x6)] → (∀ (H : Heap) (locs : List Loc) (ls : Array Slot), va_P D vwCl [(a_this, .inr (3, rf_o3 a_this_s a_this_image a_this_read a_this_mind a_this_letters a_this_row a_this_refused a_this_numbers a_this_cost g_this)), (a_this_s, .inl (cA, 22, .inl f_this_s)), (a_this_cost, .inl (cA, 13671, .inl ql.2))] H → va_D A [(a_this, .inr (3, rf_o3 a_this_s a_this_image a_this_read a_this_mind a_this_letters a_this_row a_this_refused a_this_numbers a_this_cost g_this)), (a_this_s, .inl (cA, 22, .inl f_this_s)), (a_this_cost, .inl (cA, 13671, .inl ql.2))] → va_S A s.heap H locs → lv_has ls 8 [(0, .ref a_this), (2, .int p2), (3, .int p3), (4, .int x4), (5, .int x5), (6, .int ql.1)] → W p l e (headSpec wsX3_leastFrom ({ frames := 5, cells := 0, slots := 0, locals := 122 } : Room)).room s m ([.ref a_this, .int p1, .int p2, .int p3] : List Value).toArray below meth c H locs 0 0 (MQ below (va_Qi (fun (r : Int32) (_ : Unit) => r = q.1) (fun _ t => rf_Post D A [(a_this, .inr (3, rf_o3 a_this_s a_this_image a_this_read a_this_mind a_this_letters a_this_row a_this_refused a_this_numbers a_this_cost g_this)), (a_this_s, .inl (cA, 22, .inl f_this_s)), (a_this_cost, .inl (cA, 13671, .inl q.2))] t) A) ([.ref a_this, .int p1, .int p2, .int p3] : List Value).toArray s 0 0 A) (F0 m 143 ls [])) → W p l e (headSpec wsX3_leastFrom ({ frames := 5, cells := 0, slots := 0, locals := 122 } : Room)).room s m ([.ref a_this, .int p1, .int p2, .int p3] : List Value).toArray below meth c H locs 0 0 (MQ below (va_Qi (fun (r : Int32) (_ : Unit) => r = q.1) (fun _ t => rf_Post D A [(a_this, .inr (3, rf_o3 a_this_s a_this_image a_this_read a_this_mind a_this_letters a_this_row a_this_refused a_this_numbers a_this_cost g_this)), (a_this_s, .inl (cA, 22, .inl f_this_s)), (a_this_cost, .inl (cA, 13671, .inl q.2))] t) A) ([.ref a_this, .int p1, .int p2, .int p3] : List Value).toArray s 0 0 A) (F0 m 89 ls []) := by
    intro x4 x5 n
    induction n with
    | zero =>
      intro x6 yf_this_cost ql hf H locs ls hP hD hS hl kx
      exact absurd (show (none : Option (Int32 × (Nat → Int32))) = some ql from hf) (fun h9 => by cases h9)
    | succ n ih =>
      intro x6 yf_this_cost ql hf H locs ls hP hD hS hl kx
      rw [f_X3_leastFrom_L89] at hf
      refine lv_iload hx hb dX3_leastFrom_89 (lv_at hl 5 rfl) ?_
      refine lv_bipush (v := 7) hx hb dX3_leastFrom_91 (by decide) ?_
      refine lv_icmp_gt (tgt := 143) hx hb dX3_leastFrom_93 (by decide) (fun c4 => ?_) (fun c4 => ?_)
      · have hf := rf_ifp hf c4
        obtain rfl := Option.some.inj hf
        exact kx _ _ _ hP hD hS (lv_sub hl [0, 1, 2, 3, 4, 5] rfl)
      · have hf := rf_ifn hf c4
        refine lv_aload_n hx hb dX3_leastFrom_96 rfl (lv_at hl 0 rfl) ?_
        refine lv_iload hx hb dX3_leastFrom_97 (lv_at hl 4 rfl) ?_
        refine lv_iload hx hb dX3_leastFrom_99 (lv_at hl 5 rfl) ?_
        obtain ⟨q5, hq5, hf⟩ := rf_bindq hf
        refine rf_Vi (As := [.int x5, .int x6]) (rest := []) (wr := [(a_this_cost, .inl (cA, 13671, .inl yf_this_cost))]) (wn := [(a_this, .inr (3, rf_o3 a_this_s a_this_image a_this_read a_this_mind a_this_letters a_this_row a_this_refused a_this_numbers a_this_cost g_this)), (a_this_s, .inl (cA, 22, .inl f_this_s)), (a_this_cost, .inl (cA, 13671, .inl yf_this_cost))]) ⟨hx, hb, hml, hown, hts⟩ hK hP hD hS hA hE (c_X3_roomBy l D cA ad a_this a_this_s a_this_image a_this_read a_this_mind a_this_letters a_this_row a_this_refused a_this_numbers a_this_cost H.size g_this f_this_s x5 x6 q5 hq5) (cwV 2 hts gX3_leastFrom_X3_roomBy rfl rfl rfl hv_X3_roomBy ⟨Nat.le_of_ble_eq_true rfl, Nat.le_of_ble_eq_true rfl⟩) [0, 1] [2] [1, 2, 0] rfl rfl rfl rfl (by decide) rfl rfl 3 0 rfl rfl rfl rfl rfl hl.1 (Nat.le_of_ble_eq_true rfl) dX3_leastFrom_101 ⟨Nat.zero_le _, Nat.zero_le _⟩ (fun H locs hP hD hS => ?_)
        refine lv_istore (lv' := [(7, .int q5), (0, .ref a_this), (2, .int p2), (3, .int p3), (4, .int x4), (5, .int x5), (6, .int x6)]) hx hb dX3_leastFrom_104 hl (by decide) rfl (fun ls hl => ?_)
        refine lv_iload hx hb dX3_leastFrom_106 (lv_at hl 0 rfl) ?_
        refine lv_if_lt (tgt := 137) hx hb dX3_leastFrom_108 (by decide) (fun c6 => ?_) (fun c6 => ?_)
        · have hf := rf_ifp hf c6
          obtain ⟨v7, ev7⟩ : ∃ y : Int32, y = x6 + 1 := ⟨_, rfl⟩
          have hf := rf_bindv hf ev7
          refine lv_iinc (v := v7) (lv' := [(6, .int v7), (7, .int q5), (0, .ref a_this), (2, .int p2), (3, .int p3), (4, .int x4), (5, .int x5)]) hx hb dX3_leastFrom_137 hl (k := 6) rfl (by rw [ev7]; rfl) (by decide) rfl (fun ls hl => ?_)
          clear ev7
          refine lv_goto (tgt := 89) hx hb dX3_leastFrom_140 (by decide) ?_
          exact ih v7 yf_this_cost ql hf _ _ _ hP hD hS (lv_sub hl [2, 3, 4, 5, 6, 0] rfl) kx
        · have hf := rf_ifn hf c6
          refine lv_aload_n hx hb dX3_leastFrom_111 rfl (lv_at hl 1 rfl) ?_
          refine va_get (D := D) (ci := 3) (v := .ref a_this_cost) (C := RX3) (T := TX3) (N := 16) hx hb hts jX3_leastFrom_X3 hown hK hP 0 rfl rfl 12 (by decide) (hts _ kX3_leastFrom_0) (fun _ h9 => h9) rfl dX3_leastFrom_112 ?_
          refine lv_iload hx hb dX3_leastFrom_115 (lv_at hl 0 rfl) ?_
          refine lv_aload_n hx hb dX3_leastFrom_117 rfl (lv_at hl 1 rfl) ?_
          refine va_get (D := D) (ci := 3) (v := .ref a_this_cost) (C := RX3) (T := TX3) (N := 16) hx hb hts jX3_leastFrom_X3 hown hK hP 0 rfl rfl 12 (by decide) (hts _ kX3_leastFrom_0) (fun _ h9 => h9) rfl dX3_leastFrom_118 ?_
          refine lv_iload hx hb dX3_leastFrom_121 (lv_at hl 0 rfl) ?_
          obtain ⟨c8, hf⟩ := rf_chk hf
          refine va_iald hx hb hK hP 2 0 rfl rfl c8 dX3_leastFrom_123 ?_
          refine lv_iload hx hb dX3_leastFrom_124 (lv_at hl 4 rfl) ?_
          refine lv_iload hx hb dX3_leastFrom_126 (lv_at hl 6 rfl) ?_
          refine lv_iload_n hx hb dX3_leastFrom_128 rfl (lv_at hl 3 rfl) ?_
          obtain ⟨q9, hq9, hf⟩ := rf_bindq hf
          refine rf_Si (As := [.int x6, .int p3]) (rest := [.int x4, .int (yf_this_cost (q5.toNatClampNeg)), .int q5, .ref a_this_cost]) (wr := [(a_this, .inr (3, rf_o3 a_this_s a_this_image a_this_read a_this_mind a_this_letters a_this_row a_this_refused a_this_numbers a_this_cost g_this)), (a_this_s, .inl (cA, 22, .inl f_this_s)), (a_this_cost, .inl (cA, 13671, .inl yf_this_cost))]) (wn := [(a_this, .inr (3, rf_o3 a_this_s a_this_image a_this_read a_this_mind a_this_letters a_this_row a_this_refused a_this_numbers a_this_cost g_this)), (a_this_s, .inl (cA, 22, .inl f_this_s)), (a_this_cost, .inl (cA, 13671, .inl yf_this_cost))]) ⟨hx, hb, hml, hown, hts⟩ hK hP hD hS hA hE (c_X3_costOf l D cA ad H.size x6 p3 q9 hq9) (va_cwS 2 hts gX3_leastFrom_X3_costOf rfl rfl rfl hs_X3_costOf ⟨Nat.le_of_ble_eq_true rfl, Nat.le_of_ble_eq_true rfl⟩) [] [0, 1, 2] [0, 1, 2] rfl rfl rfl rfl (by decide) rfl rfl rfl rfl hl.1 (Nat.le_of_ble_eq_true rfl) dX3_leastFrom_129 ⟨Nat.zero_le _, Nat.zero_le _⟩ (fun H locs hP hD hS => ?_)
          refine lv_iadd hx hb dX3_leastFrom_132 ?_
          obtain ⟨q10, hq10, hf⟩ := rf_bindq hf
          refine rf_Si (As := [.int (yf_this_cost (q5.toNatClampNeg)), .int (x4 + q9)]) (rest := [.int q5, .ref a_this_cost]) (wr := [(a_this, .inr (3, rf_o3 a_this_s a_this_image a_this_read a_this_mind a_this_letters a_this_row a_this_refused a_this_numbers a_this_cost g_this)), (a_this_s, .inl (cA, 22, .inl f_this_s)), (a_this_cost, .inl (cA, 13671, .inl yf_this_cost))]) (wn := [(a_this, .inr (3, rf_o3 a_this_s a_this_image a_this_read a_this_mind a_this_letters a_this_row a_this_refused a_this_numbers a_this_cost g_this)), (a_this_s, .inl (cA, 22, .inl f_this_s)), (a_this_cost, .inl (cA, 13671, .inl yf_this_cost))]) ⟨hx, hb, hml, hown, hts⟩ hK hP hD hS hA hE (c_X3_least l D cA ad H.size (yf_this_cost (q5.toNatClampNeg)) (x4 + q9) q10 hq10) (va_cwS 2 hts gX3_leastFrom_X3_least rfl rfl rfl hs_X3_least ⟨Nat.le_of_ble_eq_true rfl, Nat.le_of_ble_eq_true rfl⟩) [] [0, 1, 2] [0, 1, 2] rfl rfl rfl rfl (by decide) rfl rfl rfl rfl hl.1 (Nat.le_of_ble_eq_true rfl) dX3_leastFrom_133 ⟨Nat.zero_le _, Nat.zero_le _⟩ (fun H locs hP hD hS => ?_)
          obtain ⟨c11, hf⟩ := rf_chk hf
          refine va_iast hx hb hK hP hD hS 2 0 rfl rfl c11 dX3_leastFrom_136 (fun H locs hP hD hS => ?_)
          have hP : va_P D vwCl [(a_this, .inr (3, rf_o3 a_this_s a_this_image a_this_read a_this_mind a_this_letters a_this_row a_this_refused a_this_numbers a_this_cost g_this)), (a_this_s, .inl (cA, 22, .inl f_this_s)), (a_this_cost, .inl (cA, 13671, .inl (upd yf_this_cost (q5.toNatClampNeg) q10)))] H := hP
          have hD : va_D A [(a_this, .inr (3, rf_o3 a_this_s a_this_image a_this_read a_this_mind a_this_letters a_this_row a_this_refused a_this_numbers a_this_cost g_this)), (a_this_s, .inl (cA, 22, .inl f_this_s)), (a_this_cost, .inl (cA, 13671, .inl (upd yf_this_cost (q5.toNatClampNeg) q10)))] := hD
          obtain ⟨v12, ev12⟩ : ∃ y : Int32, y = x6 + 1 := ⟨_, rfl⟩
          have hf := rf_bindv hf ev12
          refine lv_iinc (v := v12) (lv' := [(6, .int v12), (7, .int q5), (0, .ref a_this), (2, .int p2), (3, .int p3), (4, .int x4), (5, .int x5)]) hx hb dX3_leastFrom_137 hl (k := 6) rfl (by rw [ev12]; rfl) (by decide) rfl (fun ls hl => ?_)
          clear ev12
          refine lv_goto (tgt := 89) hx hb dX3_leastFrom_140 (by decide) ?_
          exact ih v12 (upd yf_this_cost (q5.toNatClampNeg) q10) ql hf _ _ _ hP hD hS (lv_sub hl [2, 3, 4, 5, 6, 0] rfl) kx
  have key_47 : ∀ (x4 : Int32) (n : Nat) (x5 : Int32) (yf_this_cost : Nat → Int32) (ql : (Int32 × (Nat → Int32)) ⊕ (Int32 × (Nat → Int32))), f_X3_leastFrom_L47 g_this f_this_s p1 p2 p3 x4 n x5 yf_this_cost = some ql → ∀ (H : Heap) (locs : List Loc) (ls : Array Slot), va_P D vwCl [(a_this, .inr (3, rf_o3 a_this_s a_this_image a_this_read a_this_mind a_this_letters a_this_row a_this_refused a_this_numbers a_this_cost g_this)), (a_this_s, .inl (cA, 22, .inl f_this_s)), (a_this_cost, .inl (cA, 13671, .inl yf_this_cost))] H → va_D A [(a_this, .inr (3, rf_o3 a_this_s a_this_image a_this_read a_this_mind a_this_letters a_this_row a_this_refused a_this_numbers a_this_cost g_this)), (a_this_s, .inl (cA, 22, .inl f_this_s)), (a_this_cost, .inl (cA, 13671, .inl yf_this_cost))] → va_S A s.heap H locs → lv_has ls 8 [(0, .ref a_this), (2, .int p2), (3, .int p3), (4, .int x4), (5, .int x5)] → (∀ r : Int32 × (Nat → Int32), ql = .inl r → r = q) → (∀ (x : Int32 × (Nat → Int32)), ql = .inr x → ∀ (H : Heap) (locs : List Loc) (ls : Array Slot), va_P D vwCl [(a_this, .inr (3, rf_o3 a_this_s a_this_image a_this_read a_this_mind a_this_letters a_this_row a_this_refused a_this_numbers a_this_cost g_this)), (a_this_s, .inl (cA, 22, .inl f_this_s)), (a_this_cost, .inl (cA, 13671, .inl x.2))] H → va_D A [(a_this, .inr (3, rf_o3 a_this_s a_this_image a_this_read a_this_mind a_this_letters a_this_row a_this_refused a_this_numbers a_this_cost g_this)), (a_this_s, .inl (cA, 22, .inl f_this_s)), (a_this_cost, .inl (cA, 13671, .inl x.2))] → va_S A s.heap H locs → lv_has ls 8 [(0, .ref a_this), (2, .int p2), (3, .int p3), (4, .int x4), (5, .int x.1)] → W p l e (headSpec wsX3_leastFrom ({ frames := 5, cells := 0, slots := 0, locals := 122 } : Room)).room s m ([.ref a_this, .int p1, .int p2, .int p3] : List Value).toArray below meth c H locs 0 0 (MQ below (va_Qi (fun (r : Int32) (_ : Unit) => r = q.1) (fun _ t => rf_Post D A [(a_this, .inr (3, rf_o3 a_this_s a_this_image a_this_read a_this_mind a_this_letters a_this_row a_this_refused a_this_numbers a_this_cost g_this)), (a_this_s, .inl (cA, 22, .inl f_this_s)), (a_this_cost, .inl (cA, 13671, .inl q.2))] t) A) ([.ref a_this, .int p1, .int p2, .int p3] : List Value).toArray s 0 0 A) (F0 m 149 ls [])) → W p l e (headSpec wsX3_leastFrom ({ frames := 5, cells := 0, slots := 0, locals := 122 } : Room)).room s m ([.ref a_this, .int p1, .int p2, .int p3] : List Value).toArray below meth c H locs 0 0 (MQ below (va_Qi (fun (r : Int32) (_ : Unit) => r = q.1) (fun _ t => rf_Post D A [(a_this, .inr (3, rf_o3 a_this_s a_this_image a_this_read a_this_mind a_this_letters a_this_row a_this_refused a_this_numbers a_this_cost g_this)), (a_this_s, .inl (cA, 22, .inl f_this_s)), (a_this_cost, .inl (cA, 13671, .inl q.2))] t) A) ([.ref a_this, .int p1, .int p2, .int p3] : List Value).toArray s 0 0 A) (F0 m 47 ls []) := by
    intro x4 n
    induction n with
    | zero =>
      intro x5 yf_this_cost ql hf H locs ls hP hD hS hl hret kx
      exact absurd (show (none : Option ((Int32 × (Nat → Int32)) ⊕ (Int32 × (Nat → Int32)))) = some ql from hf) (fun h9 => by cases h9)
    | succ n ih =>
      intro x5 yf_this_cost ql hf H locs ls hP hD hS hl hret kx
      rw [f_X3_leastFrom_L47] at hf
      refine lv_iload hx hb dX3_leastFrom_47 (lv_at hl 4 rfl) ?_
      refine lv_if_lt (tgt := 149) hx hb dX3_leastFrom_49 (by decide) (fun c13 => ?_) (fun c13 => ?_)
      · have hf := rf_ifp hf c13
        exact kx _ (Option.some.inj hf).symm _ _ _ hP hD hS (lv_sub hl [0, 1, 2, 3, 4] rfl)
      · have hf := rf_ifn hf c13
        refine lv_aload_n hx hb dX3_leastFrom_52 rfl (lv_at hl 0 rfl) ?_
        refine va_get (D := D) (ci := 3) (v := .ref a_this_cost) (C := RX3) (T := TX3) (N := 16) hx hb hts jX3_leastFrom_X3 hown hK hP 0 rfl rfl 12 (by decide) (hts _ kX3_leastFrom_0) (fun _ h9 => h9) rfl dX3_leastFrom_53 ?_
        refine lv_iload hx hb dX3_leastFrom_56 (lv_at hl 4 rfl) ?_
        obtain ⟨c14, hf⟩ := rf_chk hf
        refine va_iald hx hb hK hP 2 0 rfl rfl c14 dX3_leastFrom_58 ?_
        refine lv_iload hx hb dX3_leastFrom_59 (lv_at hl 3 rfl) ?_
        refine lv_icmp_eq (tgt := 67) hx hb dX3_leastFrom_61 (by decide) (fun c15 => ?_) (fun c15 => ?_)
        · have hf := rf_ifp hf c15
          refine lv_iload hx hb dX3_leastFrom_67 (lv_at hl 4 rfl) ?_
          refine lv_iconst (v := 3) hx hb dX3_leastFrom_69 (by decide) ?_
          refine lv_idiv hx hb dX3_leastFrom_70 (by decide) ?_
          refine lv_bipush (v := 7) hx hb dX3_leastFrom_71 (by decide) ?_
          refine lv_irem hx hb dX3_leastFrom_73 (by decide) ?_
          refine lv_topi (fun v16 ev16 => ?_)
          have hf := rf_bindv hf ev16
          clear ev16
          refine lv_aload_n hx hb dX3_leastFrom_74 rfl (lv_at hl 0 rfl) ?_
          refine va_get (D := D) (ci := 3) (v := .ref a_this_s) (C := RX3) (T := TX3) (N := 16) hx hb hts jX3_leastFrom_X3 hown hK hP 0 rfl rfl 0 (by decide) (hts _ kX3_leastFrom_2) (fun _ h9 => h9) rfl dX3_leastFrom_75 ?_
          refine lv_iconst (v := 0) hx hb dX3_leastFrom_78 (by decide) ?_
          refine rf_ialoadk hx hb hK hP 1 0 rfl rfl (k := 0) (by decide) (by decide) (by decide) dX3_leastFrom_79 ?_
          refine lv_icmp_ne (tgt := 86) hx hb dX3_leastFrom_80 (by decide) (fun c17 => ?_) (fun c17 => ?_)
          · have hf := rf_ifn hf c17
            refine lv_iconst (v := 0) hx hb dX3_leastFrom_86 (by decide) ?_
            refine lv_istore (lv' := [(6, .int 0), (0, .ref a_this), (2, .int p2), (3, .int p3), (4, .int x4), (5, .int x5)]) hx hb dX3_leastFrom_87 hl (by decide) rfl (fun ls hl => ?_)
            obtain ⟨q18, hq18, hf⟩ := rf_bindq hf
            refine key_89 x4 x5 rf_fu 0 yf_this_cost q18 hq18 _ _ _ hP hD hS (lv_sub hl [1, 2, 3, 4, 5, 0] rfl) (fun H locs ls hP hD hS hl => ?_)
            obtain ⟨v19, ev19⟩ : ∃ y : Int32, y = x5 + (-1) := ⟨_, rfl⟩
            have hf := rf_bindv hf ev19
            refine lv_iinc (v := v19) (lv' := [(5, .int v19), (0, .ref a_this), (2, .int p2), (3, .int p3), (4, .int x4), (6, .int q18.1)]) hx hb dX3_leastFrom_143 hl (k := 4) rfl (by rw [ev19]; rfl) (by decide) rfl (fun ls hl => ?_)
            clear ev19
            refine lv_goto (tgt := 47) hx hb dX3_leastFrom_146 (by decide) ?_
            exact ih v19 q18.2 ql hf _ _ _ hP hD hS (lv_sub hl [1, 2, 3, 4, 0] rfl) hret kx
          · have hf := rf_ifp hf c17
            refine lv_iload hx hb dX3_leastFrom_83 (lv_at hl 3 rfl) ?_
            obtain rfl := hret _ (Option.some.inj hf).symm
            exact W.iret (v := x4) hx hb hr (fun t ht hW => ⟨⟨x4, (), rfl, rfl, rf_mk ht hP hD⟩, hS.F ht⟩) hS.2.2 dX3_leastFrom_85
        · have hf := rf_ifn hf c15
          refine lv_goto (tgt := 143) hx hb dX3_leastFrom_64 (by decide) ?_
          obtain ⟨v20, ev20⟩ : ∃ y : Int32, y = x5 + (-1) := ⟨_, rfl⟩
          have hf := rf_bindv hf ev20
          refine lv_iinc (v := v20) (lv' := [(5, .int v20), (0, .ref a_this), (2, .int p2), (3, .int p3), (4, .int x4)]) hx hb dX3_leastFrom_143 hl (k := 4) rfl (by rw [ev20]; rfl) (by decide) rfl (fun ls hl => ?_)
          clear ev20
          refine lv_goto (tgt := 47) hx hb dX3_leastFrom_146 (by decide) ?_
          exact ih v20 yf_this_cost ql hf _ _ _ hP hD hS (lv_sub hl [1, 2, 3, 4, 0] rfl) hret kx
  have key_36 : ∀ (n : Nat) (x4 : Int32) (yf_this_cost : Nat → Int32) (ql : (Int32 × (Nat → Int32)) ⊕ (Int32 × (Nat → Int32))), f_X3_leastFrom_L36 g_this f_this_s p1 p2 p3 n x4 yf_this_cost = some ql → ∀ (H : Heap) (locs : List Loc) (ls : Array Slot), va_P D vwCl [(a_this, .inr (3, rf_o3 a_this_s a_this_image a_this_read a_this_mind a_this_letters a_this_row a_this_refused a_this_numbers a_this_cost g_this)), (a_this_s, .inl (cA, 22, .inl f_this_s)), (a_this_cost, .inl (cA, 13671, .inl yf_this_cost))] H → va_D A [(a_this, .inr (3, rf_o3 a_this_s a_this_image a_this_read a_this_mind a_this_letters a_this_row a_this_refused a_this_numbers a_this_cost g_this)), (a_this_s, .inl (cA, 22, .inl f_this_s)), (a_this_cost, .inl (cA, 13671, .inl yf_this_cost))] → va_S A s.heap H locs → lv_has ls 8 [(0, .ref a_this), (2, .int p2), (3, .int p3), (4, .int x4)] → (∀ r : Int32 × (Nat → Int32), ql = .inl r → r = q) → (∀ (x : Int32 × (Nat → Int32)), ql = .inr x → ∀ (H : Heap) (locs : List Loc) (ls : Array Slot), va_P D vwCl [(a_this, .inr (3, rf_o3 a_this_s a_this_image a_this_read a_this_mind a_this_letters a_this_row a_this_refused a_this_numbers a_this_cost g_this)), (a_this_s, .inl (cA, 22, .inl f_this_s)), (a_this_cost, .inl (cA, 13671, .inl x.2))] H → va_D A [(a_this, .inr (3, rf_o3 a_this_s a_this_image a_this_read a_this_mind a_this_letters a_this_row a_this_refused a_this_numbers a_this_cost g_this)), (a_this_s, .inl (cA, 22, .inl f_this_s)), (a_this_cost, .inl (cA, 13671, .inl x.2))] → va_S A s.heap H locs → lv_has ls 8 [(0, .ref a_this), (2, .int p2), (3, .int p3), (4, .int x.1)] → W p l e (headSpec wsX3_leastFrom ({ frames := 5, cells := 0, slots := 0, locals := 122 } : Room)).room s m ([.ref a_this, .int p1, .int p2, .int p3] : List Value).toArray below meth c H locs 0 0 (MQ below (va_Qi (fun (r : Int32) (_ : Unit) => r = q.1) (fun _ t => rf_Post D A [(a_this, .inr (3, rf_o3 a_this_s a_this_image a_this_read a_this_mind a_this_letters a_this_row a_this_refused a_this_numbers a_this_cost g_this)), (a_this_s, .inl (cA, 22, .inl f_this_s)), (a_this_cost, .inl (cA, 13671, .inl q.2))] t) A) ([.ref a_this, .int p1, .int p2, .int p3] : List Value).toArray s 0 0 A) (F0 m 155 ls [])) → W p l e (headSpec wsX3_leastFrom ({ frames := 5, cells := 0, slots := 0, locals := 122 } : Room)).room s m ([.ref a_this, .int p1, .int p2, .int p3] : List Value).toArray below meth c H locs 0 0 (MQ below (va_Qi (fun (r : Int32) (_ : Unit) => r = q.1) (fun _ t => rf_Post D A [(a_this, .inr (3, rf_o3 a_this_s a_this_image a_this_read a_this_mind a_this_letters a_this_row a_this_refused a_this_numbers a_this_cost g_this)), (a_this_s, .inl (cA, 22, .inl f_this_s)), (a_this_cost, .inl (cA, 13671, .inl q.2))] t) A) ([.ref a_this, .int p1, .int p2, .int p3] : List Value).toArray s 0 0 A) (F0 m 36 ls []) := by
    intro n
    induction n with
    | zero =>
      intro x4 yf_this_cost ql hf H locs ls hP hD hS hl hret kx
      exact absurd (show (none : Option ((Int32 × (Nat → Int32)) ⊕ (Int32 × (Nat → Int32)))) = some ql from hf) (fun h9 => by cases h9)
    | succ n ih =>
      intro x4 yf_this_cost ql hf H locs ls hP hD hS hl hret kx
      rw [f_X3_leastFrom_L36] at hf
      refine lv_iload hx hb dX3_leastFrom_36 (lv_at hl 3 rfl) ?_
      refine lv_iload_n hx hb dX3_leastFrom_38 rfl (lv_at hl 1 rfl) ?_
      refine lv_icmp_gt (tgt := 155) hx hb dX3_leastFrom_39 (by decide) (fun c21 => ?_) (fun c21 => ?_)
      · have hf := rf_ifp hf c21
        exact kx _ (Option.some.inj hf).symm _ _ _ hP hD hS (lv_sub hl [0, 1, 2, 3] rfl)
      · have hf := rf_ifn hf c21
        refine lv_sipush (v := 13670) hx hb dX3_leastFrom_42 (by decide) ?_
        refine lv_istore (lv' := [(5, .int 13670), (0, .ref a_this), (2, .int p2), (3, .int p3), (4, .int x4)]) hx hb dX3_leastFrom_45 hl (by decide) rfl (fun ls hl => ?_)
        obtain ⟨q22, hq22, hf⟩ := rf_bindq hf
        refine key_47 x4 rf_fu 13670 yf_this_cost q22 hq22 _ _ _ hP hD hS (lv_sub hl [1, 2, 3, 4, 0] rfl) (fun r h9 => ?_) (fun x23 h9 H locs ls hP hD hS hl => ?_)
        · subst h9
          exact hret _ (Option.some.inj hf).symm
        · subst h9
          have hf := rf_sumr hf
          obtain ⟨v24, ev24⟩ : ∃ y : Int32, y = x4 + 1 := ⟨_, rfl⟩
          have hf := rf_bindv hf ev24
          refine lv_iinc (v := v24) (lv' := [(4, .int v24), (0, .ref a_this), (2, .int p2), (3, .int p3), (5, .int x23.1)]) hx hb dX3_leastFrom_149 hl (k := 3) rfl (by rw [ev24]; rfl) (by decide) rfl (fun ls hl => ?_)
          clear ev24
          refine lv_goto (tgt := 36) hx hb dX3_leastFrom_152 (by decide) ?_
          exact ih v24 x23.2 ql hf _ _ _ hP hD hS (lv_sub hl [1, 2, 3, 0] rfl) hret kx
  rw [f_X3_leastFrom] at hf
  refine lv_iconst (v := 0) hx hb dX3_leastFrom_0 (by decide) ?_
  refine lv_istore (lv' := [(4, .int 0), (0, .ref a_this), (1, .int p1), (2, .int p2), (3, .int p3)]) hx hb dX3_leastFrom_1 hl (by decide) rfl (fun ls hl => ?_)
  obtain ⟨q25, hq25, hf⟩ := rf_bindq hf
  refine key_3 rf_fu 0 f_this_cost q25 hq25 _ _ _ hP hD hS (lv_sub hl [1, 2, 3, 4, 0] rfl) (fun H locs ls hP hD hS hl => ?_)
  refine lv_aload_n hx hb dX3_leastFrom_26 rfl (lv_at hl 0 rfl) ?_
  refine va_get (D := D) (ci := 3) (v := .ref a_this_cost) (C := RX3) (T := TX3) (N := 16) hx hb hts jX3_leastFrom_X3 hown hK hP 0 rfl rfl 12 (by decide) (hts _ kX3_leastFrom_0) (fun _ h9 => h9) rfl dX3_leastFrom_27 ?_
  refine lv_iload_n hx hb dX3_leastFrom_30 rfl (lv_at hl 1 rfl) ?_
  refine lv_iconst (v := 0) hx hb dX3_leastFrom_31 (by decide) ?_
  obtain ⟨c26, hf⟩ := rf_chk hf
  refine va_iast hx hb hK hP hD hS 2 0 rfl rfl c26 dX3_leastFrom_32 (fun H locs hP hD hS => ?_)
  have hP : va_P D vwCl [(a_this, .inr (3, rf_o3 a_this_s a_this_image a_this_read a_this_mind a_this_letters a_this_row a_this_refused a_this_numbers a_this_cost g_this)), (a_this_s, .inl (cA, 22, .inl f_this_s)), (a_this_cost, .inl (cA, 13671, .inl (upd q25.2 (p1.toNatClampNeg) 0)))] H := hP
  have hD : va_D A [(a_this, .inr (3, rf_o3 a_this_s a_this_image a_this_read a_this_mind a_this_letters a_this_row a_this_refused a_this_numbers a_this_cost g_this)), (a_this_s, .inl (cA, 22, .inl f_this_s)), (a_this_cost, .inl (cA, 13671, .inl (upd q25.2 (p1.toNatClampNeg) 0)))] := hD
  refine lv_iconst (v := 0) hx hb dX3_leastFrom_33 (by decide) ?_
  refine lv_istore (lv' := [(4, .int 0), (0, .ref a_this), (1, .int p1), (2, .int p2), (3, .int p3)]) hx hb dX3_leastFrom_34 hl (by decide) rfl (fun ls hl => ?_)
  obtain ⟨q27, hq27, hf⟩ := rf_bindq hf
  refine key_36 rf_fu 0 (upd q25.2 (p1.toNatClampNeg) 0) q27 hq27 _ _ _ hP hD hS (lv_sub hl [1, 3, 4, 0] rfl) (fun r h9 => ?_) (fun x28 h9 H locs ls hP hD hS hl => ?_)
  · subst h9
    exact Option.some.inj hf
  · subst h9
    have hf := rf_sumr hf
    refine lv_bipush (v := (-9)) hx hb dX3_leastFrom_155 (by decide) ?_
    obtain rfl := Option.some.inj hf
    exact W.iret (v := (-9)) hx hb hr (fun t ht hW => ⟨⟨(-9), (), rfl, rfl, rf_mk ht hP hD⟩, hS.F ht⟩) hS.2.2 dX3_leastFrom_157
theorem kX3_off_0 : (.fieldLink RX3 9 "RingAndFingerModel" "s" "[I" : Cond) ∈ wsX3_off := by decide +kernel
theorem jX3_off_X3 : ∀ w ∈ u_ws RX3 TX3 16, w ∈ wsX3_off := by decide +kernel
set_option maxHeartbeats 8000000 in
set_option maxRecDepth 100000 in
theorem c_X3_off (l : Launch) (D : va_G) (cA : ClassId) (ad : Nat → Nat) (a_this a_this_s a_this_image a_this_read a_this_mind a_this_letters a_this_row a_this_refused a_this_numbers a_this_cost : Nat) (sz : Nat) (g_this f_this_s f_this_cost : Nat → Int32) (p1 p2 p3 : Int32) (q : Int32 × (Nat → Int32)) (hf : f_X3_off g_this f_this_s f_this_cost p1 p2 p3 = some q) : Met l yX3_off wsX3_off ({ frames := 6, cells := 0, slots := 0, locals := 149 } : Room) (va_Pc [.ref a_this, .int p1, .int p2, .int p3] (rf_Pre D cA ad [(a_this, .inr (3, rf_o3 a_this_s a_this_image a_this_read a_this_mind a_this_letters a_this_row a_this_refused a_this_numbers a_this_cost g_this)), (a_this_s, .inl (cA, 22, .inl f_this_s)), (a_this_cost, .inl (cA, 13671, .inl f_this_cost))] sz)) (va_Qi (fun (r : Int32) (_ : Unit) => r = q.1) (fun _ t => rf_Post D (va_A [(a_this, .inr (3, rf_o3 a_this_s a_this_image a_this_read a_this_mind a_this_letters a_this_row a_this_refused a_this_numbers a_this_cost g_this)), (a_this_s, .inl (cA, 22, .inl f_this_s)), (a_this_cost, .inl (cA, 13671, .inl f_this_cost))] sz) [(a_this, .inr (3, rf_o3 a_this_s a_this_image a_this_read a_this_mind a_this_letters a_this_row a_this_refused a_this_numbers a_this_cost g_this)), (a_this_s, .inl (cA, 22, .inl f_this_s)), (a_this_cost, .inl (cA, 13671, .inl q.2))] t) (va_A [(a_this, .inr (3, rf_o3 a_this_s a_this_image a_this_read a_this_mind a_this_letters a_this_row a_this_refused a_this_numbers a_this_cost g_this)), (a_this_s, .inl (cA, 22, .inl f_this_s)), (a_this_cost, .inl (cA, 13671, .inl f_this_cost))] sz)) 0 0 (va_A [(a_this, .inr (3, rf_o3 a_this_s a_this_image a_this_read a_this_mind a_this_letters a_this_row a_this_refused a_this_numbers a_this_cost g_this)), (a_this_s, .inl (cA, 22, .inl f_this_s)), (a_this_cost, .inl (cA, 13671, .inl f_this_cost))] sz) := by
  refine Met.ofW (cc := cX3_off) (maxL := 9) (ret := (some .int)) (by decide) rfl ?_
  intro p e s m args below meth c s₁ B hml hv
  obtain ⟨rfl, hsz, hP, hK, hD0, hE⟩ := hv
  have hx := B.exec
  have hb := B.bytes
  have hr := B.returns
  have hts := atoms_spec (ws := wsX3_off) B.pre
  have hown : s.vm.findClass RX3 = some m.cls := findClass_of_methodNamed B.named
  have hlocks := B.notSynchronized
  subst hsz
  have hD := hD0.self (sz := s.heap.size)
  generalize hAe : va_A [(a_this, .inr (3, rf_o3 a_this_s a_this_image a_this_read a_this_mind a_this_letters a_this_row a_this_refused a_this_numbers a_this_cost g_this)), (a_this_s, .inl (cA, 22, .inl f_this_s)), (a_this_cost, .inl (cA, 13671, .inl f_this_cost))] s.heap.size = A at hD hE ⊢
  have hA : ∀ q : Nat, s.heap.size ≤ q → A q := fun q h => by rw [← hAe]; exact Or.inr h
  have hS : va_S A s.heap s.heap [] := va_S.rf
  have hP : va_P D vwCl [(a_this, .inr (3, rf_o3 a_this_s a_this_image a_this_read a_this_mind a_this_letters a_this_row a_this_refused a_this_numbers a_this_cost g_this)), (a_this_s, .inl (cA, 22, .inl f_this_s)), (a_this_cost, .inl (cA, 13671, .inl f_this_cost))] s.heap := hP
  have hl := lv_entry ([.ref a_this, .int p1, .int p2, .int p3]) (n := 9) (Nat.le_of_ble_eq_true rfl)
  rw [lg_entry_eq]
  generalize (lg_sl ([.ref a_this, .int p1, .int p2, .int p3]) ++ List.replicate (9 - (lg_sl ([.ref a_this, .int p1, .int p2, .int p3])).length) Slot.unset).toArray = ls at hl ⊢
  have hl : lv_has ls 9 [(0, .ref a_this), (1, .int p1), (2, .int p2), (3, .int p3)] := hl
  have key_67 : ∀ (x4 x5 : Int32) (n : Nat) (x6 : Int32) (yf_this_cost : Nat → Int32) (ql : (Int32 × (Nat → Int32)) ⊕ (Int32 × (Nat → Int32))), f_X3_off_L67 g_this f_this_s p1 p2 p3 x4 x5 n x6 yf_this_cost = some ql → ∀ (H : Heap) (locs : List Loc) (ls : Array Slot), va_P D vwCl [(a_this, .inr (3, rf_o3 a_this_s a_this_image a_this_read a_this_mind a_this_letters a_this_row a_this_refused a_this_numbers a_this_cost g_this)), (a_this_s, .inl (cA, 22, .inl f_this_s)), (a_this_cost, .inl (cA, 13671, .inl yf_this_cost))] H → va_D A [(a_this, .inr (3, rf_o3 a_this_s a_this_image a_this_read a_this_mind a_this_letters a_this_row a_this_refused a_this_numbers a_this_cost g_this)), (a_this_s, .inl (cA, 22, .inl f_this_s)), (a_this_cost, .inl (cA, 13671, .inl yf_this_cost))] → va_S A s.heap H locs → lv_has ls 9 [(0, .ref a_this), (3, .int p3), (4, .int x4), (5, .int x5), (6, .int x6)] → (∀ r : Int32 × (Nat → Int32), ql = .inl r → r = q) → (∀ (x : Int32 × (Nat → Int32)), ql = .inr x → ∀ (H : Heap) (locs : List Loc) (ls : Array Slot), va_P D vwCl [(a_this, .inr (3, rf_o3 a_this_s a_this_image a_this_read a_this_mind a_this_letters a_this_row a_this_refused a_this_numbers a_this_cost g_this)), (a_this_s, .inl (cA, 22, .inl f_this_s)), (a_this_cost, .inl (cA, 13671, .inl x.2))] H → va_D A [(a_this, .inr (3, rf_o3 a_this_s a_this_image a_this_read a_this_mind a_this_letters a_this_row a_this_refused a_this_numbers a_this_cost g_this)), (a_this_s, .inl (cA, 22, .inl f_this_s)), (a_this_cost, .inl (cA, 13671, .inl x.2))] → va_S A s.heap H locs → lv_has ls 9 [(0, .ref a_this), (3, .int p3), (4, .int x4), (5, .int x5), (6, .int x.1)] → W p l e (headSpec wsX3_off ({ frames := 6, cells := 0, slots := 0, locals := 149 } : Room)).room s m ([.ref a_this, .int p1, .int p2, .int p3] : List Value).toArray below meth c H locs 0 0 (MQ below (va_Qi (fun (r : Int32) (_ : Unit) => r = q.1) (fun _ t => rf_Post D A [(a_this, .inr (3, rf_o3 a_this_s a_this_image a_this_read a_this_mind a_this_letters a_this_row a_this_refused a_this_numbers a_this_cost g_this)), (a_this_s, .inl (cA, 22, .inl f_this_s)), (a_this_cost, .inl (cA, 13671, .inl q.2))] t) A) ([.ref a_this, .int p1, .int p2, .int p3] : List Value).toArray s 0 0 A) (F0 m 135 ls [])) → W p l e (headSpec wsX3_off ({ frames := 6, cells := 0, slots := 0, locals := 149 } : Room)).room s m ([.ref a_this, .int p1, .int p2, .int p3] : List Value).toArray below meth c H locs 0 0 (MQ below (va_Qi (fun (r : Int32) (_ : Unit) => r = q.1) (fun _ t => rf_Post D A [(a_this, .inr (3, rf_o3 a_this_s a_this_image a_this_read a_this_mind a_this_letters a_this_row a_this_refused a_this_numbers a_this_cost g_this)), (a_this_s, .inl (cA, 22, .inl f_this_s)), (a_this_cost, .inl (cA, 13671, .inl q.2))] t) A) ([.ref a_this, .int p1, .int p2, .int p3] : List Value).toArray s 0 0 A) (F0 m 67 ls []) := by
    intro x4 x5 n
    induction n with
    | zero =>
      intro x6 yf_this_cost ql hf H locs ls hP hD hS hl hret kx
      exact absurd (show (none : Option ((Int32 × (Nat → Int32)) ⊕ (Int32 × (Nat → Int32)))) = some ql from hf) (fun h9 => by cases h9)
    | succ n ih =>
      intro x6 yf_this_cost ql hf H locs ls hP hD hS hl hret kx
      rw [f_X3_off_L67] at hf
      refine lv_iload hx hb dX3_off_67 (lv_at hl 4 rfl) ?_
      refine lv_bipush (v := 7) hx hb dX3_off_69 (by decide) ?_
      refine lv_icmp_gt (tgt := 135) hx hb dX3_off_71 (by decide) (fun c1 => ?_) (fun c1 => ?_)
      · have hf := rf_ifp hf c1
        exact kx _ (Option.some.inj hf).symm _ _ _ hP hD hS (lv_sub hl [0, 1, 2, 3, 4] rfl)
      · have hf := rf_ifn hf c1
        refine lv_iload hx hb dX3_off_74 (lv_at hl 3 rfl) ?_
        refine lv_iload hx hb dX3_off_76 (lv_at hl 4 rfl) ?_
        refine lv_iload_n hx hb dX3_off_78 rfl (lv_at hl 1 rfl) ?_
        obtain ⟨q2, hq2, hf⟩ := rf_bindq hf
        refine rf_Si (As := [.int x6, .int p3]) (rest := [.int x5]) (wr := [(a_this, .inr (3, rf_o3 a_this_s a_this_image a_this_read a_this_mind a_this_letters a_this_row a_this_refused a_this_numbers a_this_cost g_this)), (a_this_s, .inl (cA, 22, .inl f_this_s)), (a_this_cost, .inl (cA, 13671, .inl yf_this_cost))]) (wn := [(a_this, .inr (3, rf_o3 a_this_s a_this_image a_this_read a_this_mind a_this_letters a_this_row a_this_refused a_this_numbers a_this_cost g_this)), (a_this_s, .inl (cA, 22, .inl f_this_s)), (a_this_cost, .inl (cA, 13671, .inl yf_this_cost))]) ⟨hx, hb, hml, hown, hts⟩ hK hP hD hS hA hE (c_X3_costOf l D cA ad H.size x6 p3 q2 hq2) (va_cwS 2 hts gX3_off_X3_costOf rfl rfl rfl hs_X3_costOf ⟨Nat.le_of_ble_eq_true rfl, Nat.le_of_ble_eq_true rfl⟩) [] [0, 1, 2] [0, 1, 2] rfl rfl rfl rfl (by decide) rfl rfl rfl rfl hl.1 (Nat.le_of_ble_eq_true rfl) dX3_off_79 ⟨Nat.zero_le _, Nat.zero_le _⟩ (fun H locs hP hD hS => ?_)
        refine lv_isub hx hb dX3_off_82 ?_
        refine lv_topi (fun v3 ev3 => ?_)
        have hf := rf_bindv hf ev3
        clear ev3
        refine lv_istore (lv' := [(7, .int v3), (0, .ref a_this), (3, .int p3), (4, .int x4), (5, .int x5), (6, .int x6)]) hx hb dX3_off_83 hl (by decide) rfl (fun ls hl => ?_)
        refine lv_aload_n hx hb dX3_off_85 rfl (lv_at hl 1 rfl) ?_
        refine lv_iload hx hb dX3_off_86 (lv_at hl 3 rfl) ?_
        refine lv_iload hx hb dX3_off_88 (lv_at hl 5 rfl) ?_
        obtain ⟨q4, hq4, hf⟩ := rf_bindq hf
        refine rf_Vi (As := [.int x4, .int x6]) (rest := []) (wr := [(a_this_cost, .inl (cA, 13671, .inl yf_this_cost))]) (wn := [(a_this, .inr (3, rf_o3 a_this_s a_this_image a_this_read a_this_mind a_this_letters a_this_row a_this_refused a_this_numbers a_this_cost g_this)), (a_this_s, .inl (cA, 22, .inl f_this_s)), (a_this_cost, .inl (cA, 13671, .inl yf_this_cost))]) ⟨hx, hb, hml, hown, hts⟩ hK hP hD hS hA hE (c_X3_roomBy l D cA ad a_this a_this_s a_this_image a_this_read a_this_mind a_this_letters a_this_row a_this_refused a_this_numbers a_this_cost H.size g_this f_this_s x4 x6 q4 hq4) (cwV 2 hts gX3_off_X3_roomBy rfl rfl rfl hv_X3_roomBy ⟨Nat.le_of_ble_eq_true rfl, Nat.le_of_ble_eq_true rfl⟩) [0, 1] [2] [1, 2, 0] rfl rfl rfl rfl (by decide) rfl rfl 3 0 rfl rfl rfl rfl rfl hl.1 (Nat.le_of_ble_eq_true rfl) dX3_off_90 ⟨Nat.zero_le _, Nat.zero_le _⟩ (fun H locs hP hD hS => ?_)
        refine lv_istore (lv' := [(8, .int q4), (7, .int v3), (0, .ref a_this), (3, .int p3), (4, .int x4), (5, .int x5), (6, .int x6)]) hx hb dX3_off_93 hl (by decide) rfl (fun ls hl => ?_)
        refine lv_iload hx hb dX3_off_95 (lv_at hl 1 rfl) ?_
        refine lv_if_lt (tgt := 129) hx hb dX3_off_97 (by decide) (fun c5 => ?_) (fun c5 => ?_)
        · have hf := rf_ifp hf c5
          obtain ⟨v6, ev6⟩ : ∃ y : Int32, y = x6 + 1 := ⟨_, rfl⟩
          have hf := rf_bindv hf ev6
          refine lv_iinc (v := v6) (lv' := [(6, .int v6), (8, .int q4), (7, .int v3), (0, .ref a_this), (3, .int p3), (4, .int x4), (5, .int x5)]) hx hb dX3_off_129 hl (k := 6) rfl (by rw [ev6]; rfl) (by decide) rfl (fun ls hl => ?_)
          clear ev6
          refine lv_goto (tgt := 67) hx hb dX3_off_132 (by decide) ?_
          exact ih v6 yf_this_cost ql hf _ _ _ hP hD hS (lv_sub hl [3, 4, 5, 6, 0] rfl) hret kx
        · have hf := rf_ifn hf c5
          refine lv_iload hx hb dX3_off_100 (lv_at hl 0 rfl) ?_
          refine lv_if_lt (tgt := 129) hx hb dX3_off_102 (by decide) (fun c7 => ?_) (fun c7 => ?_)
          · have hf := rf_ifp hf c7
            obtain ⟨v8, ev8⟩ : ∃ y : Int32, y = x6 + 1 := ⟨_, rfl⟩
            have hf := rf_bindv hf ev8
            refine lv_iinc (v := v8) (lv' := [(6, .int v8), (8, .int q4), (7, .int v3), (0, .ref a_this), (3, .int p3), (4, .int x4), (5, .int x5)]) hx hb dX3_off_129 hl (k := 6) rfl (by rw [ev8]; rfl) (by decide) rfl (fun ls hl => ?_)
            clear ev8
            refine lv_goto (tgt := 67) hx hb dX3_off_132 (by decide) ?_
            exact ih v8 yf_this_cost ql hf _ _ _ hP hD hS (lv_sub hl [3, 4, 5, 6, 0] rfl) hret kx
          · have hf := rf_ifn hf c7
            refine lv_iload hx hb dX3_off_105 (lv_at hl 0 rfl) ?_
            refine lv_iload hx hb dX3_off_107 (lv_at hl 4 rfl) ?_
            refine lv_icmp_eq (tgt := 129) hx hb dX3_off_109 (by decide) (fun c9 => ?_) (fun c9 => ?_)
            · have hf := rf_ifp hf c9
              obtain ⟨v10, ev10⟩ : ∃ y : Int32, y = x6 + 1 := ⟨_, rfl⟩
              have hf := rf_bindv hf ev10
              refine lv_iinc (v := v10) (lv' := [(6, .int v10), (8, .int q4), (7, .int v3), (0, .ref a_this), (3, .int p3), (4, .int x4), (5, .int x5)]) hx hb dX3_off_129 hl (k := 6) rfl (by rw [ev10]; rfl) (by decide) rfl (fun ls hl => ?_)
              clear ev10
              refine lv_goto (tgt := 67) hx hb dX3_off_132 (by decide) ?_
              exact ih v10 yf_this_cost ql hf _ _ _ hP hD hS (lv_sub hl [3, 4, 5, 6, 0] rfl) hret kx
            · have hf := rf_ifn hf c9
              refine lv_aload_n hx hb dX3_off_112 rfl (lv_at hl 2 rfl) ?_
              refine lv_iload hx hb dX3_off_113 (lv_at hl 0 rfl) ?_
              refine lv_iload hx hb dX3_off_115 (lv_at hl 1 rfl) ?_
              refine lv_iload_n hx hb dX3_off_117 rfl (lv_at hl 3 rfl) ?_
              obtain ⟨q11, hq11, hf⟩ := rf_bindq hf
              refine rf_Vi (As := [.int q4, .int v3, .int p3]) (rest := []) (wr := []) (wn := [(a_this, .inr (3, rf_o3 a_this_s a_this_image a_this_read a_this_mind a_this_letters a_this_row a_this_refused a_this_numbers a_this_cost g_this)), (a_this_s, .inl (cA, 22, .inl f_this_s)), (a_this_cost, .inl (cA, 13671, .inl q11.2))]) ⟨hx, hb, hml, hown, hts⟩ hK hP hD hS hA hE (c_X3_leastFrom l D cA ad a_this a_this_s a_this_image a_this_read a_this_mind a_this_letters a_this_row a_this_refused a_this_numbers a_this_cost H.size g_this f_this_s yf_this_cost q4 v3 p3 q11 hq11) (cwV 3 hts gX3_off_X3_leastFrom rfl rfl rfl hv_X3_leastFrom ⟨Nat.le_of_ble_eq_true rfl, Nat.le_of_ble_eq_true rfl⟩) [0, 1, 2] [] [0, 1, 2] rfl rfl rfl rfl (by decide) rfl rfl 3 0 rfl rfl rfl rfl rfl hl.1 (Nat.le_of_ble_eq_true rfl) dX3_off_118 ⟨Nat.zero_le _, Nat.zero_le _⟩ (fun H locs hP hD hS => ?_)
              refine lv_iload hx hb dX3_off_121 (lv_at hl 1 rfl) ?_
              refine lv_icmp_ne (tgt := 129) hx hb dX3_off_123 (by decide) (fun c12 => ?_) (fun c12 => ?_)
              · have hf := rf_ifn hf c12
                obtain ⟨v13, ev13⟩ : ∃ y : Int32, y = x6 + 1 := ⟨_, rfl⟩
                have hf := rf_bindv hf ev13
                refine lv_iinc (v := v13) (lv' := [(6, .int v13), (8, .int q4), (7, .int v3), (0, .ref a_this), (3, .int p3), (4, .int x4), (5, .int x5)]) hx hb dX3_off_129 hl (k := 6) rfl (by rw [ev13]; rfl) (by decide) rfl (fun ls hl => ?_)
                clear ev13
                refine lv_goto (tgt := 67) hx hb dX3_off_132 (by decide) ?_
                exact ih v13 q11.2 ql hf _ _ _ hP hD hS (lv_sub hl [3, 4, 5, 6, 0] rfl) hret kx
              · have hf := rf_ifp hf c12
                refine lv_iload hx hb dX3_off_126 (lv_at hl 6 rfl) ?_
                obtain rfl := hret _ (Option.some.inj hf).symm
                exact W.iret (v := x6) hx hb hr (fun t ht hW => ⟨⟨x6, (), rfl, rfl, rf_mk ht hP hD⟩, hS.F ht⟩) hS.2.2 dX3_off_128
  rw [f_X3_off] at hf
  refine lv_aload_n hx hb dX3_off_0 rfl (lv_at hl 0 rfl) ?_
  obtain ⟨q14, hq14, hf⟩ := rf_bindq hf
  refine rf_Vi (As := []) (rest := []) (wr := [(a_this_cost, .inl (cA, 13671, .inl f_this_cost))]) (wn := [(a_this, .inr (3, rf_o3 a_this_s a_this_image a_this_read a_this_mind a_this_letters a_this_row a_this_refused a_this_numbers a_this_cost g_this)), (a_this_s, .inl (cA, 22, .inl f_this_s)), (a_this_cost, .inl (cA, 13671, .inl f_this_cost))]) ⟨hx, hb, hml, hown, hts⟩ hK hP hD hS hA hE (c_X3_isOff l D cA ad a_this a_this_s a_this_image a_this_read a_this_mind a_this_letters a_this_row a_this_refused a_this_numbers a_this_cost s.heap.size g_this f_this_s q14 hq14) (cwV 0 hts gX3_off_X3_isOff rfl rfl rfl hv_X3_isOff ⟨Nat.le_of_ble_eq_true rfl, Nat.le_of_ble_eq_true rfl⟩) [0, 1] [2] [1, 2, 0] rfl rfl rfl rfl (by decide) rfl rfl 3 0 rfl rfl rfl rfl rfl hl.1 (Nat.le_of_ble_eq_true rfl) dX3_off_1 ⟨Nat.zero_le _, Nat.zero_le _⟩ (fun H locs hP hD hS => ?_)
  refine lv_if_eq (tgt := 18) hx hb dX3_off_4 (by decide) (fun c15 => ?_) (fun c15 => ?_)
  · have hf := rf_ifp hf c15
    refine lv_aload_n hx hb dX3_off_18 rfl (lv_at hl 0 rfl) ?_
    refine va_get (D := D) (ci := 3) (v := .ref a_this_s) (C := RX3) (T := TX3) (N := 16) hx hb hts jX3_off_X3 hown hK hP 0 rfl rfl 0 (by decide) (hts _ kX3_off_0) (fun _ h9 => h9) rfl dX3_off_19 ?_
    refine lv_iconst (v := 4) hx hb dX3_off_22 (by decide) ?_
    refine rf_ialoadk hx hb hK hP 1 0 rfl rfl (k := 4) (by decide) (by decide) (by decide) dX3_off_23 ?_
    refine lv_aload_n hx hb dX3_off_24 rfl (lv_at hl 0 rfl) ?_
    refine va_get (D := D) (ci := 3) (v := .ref a_this_s) (C := RX3) (T := TX3) (N := 16) hx hb hts jX3_off_X3 hown hK hP 0 rfl rfl 0 (by decide) (hts _ kX3_off_0) (fun _ h9 => h9) rfl dX3_off_25 ?_
    refine lv_iconst (v := 5) hx hb dX3_off_28 (by decide) ?_
    refine rf_ialoadk hx hb hK hP 1 0 rfl rfl (k := 5) (by decide) (by decide) (by decide) dX3_off_29 ?_
    refine lv_aload_n hx hb dX3_off_30 rfl (lv_at hl 0 rfl) ?_
    refine va_get (D := D) (ci := 3) (v := .ref a_this_s) (C := RX3) (T := TX3) (N := 16) hx hb hts jX3_off_X3 hown hK hP 0 rfl rfl 0 (by decide) (hts _ kX3_off_0) (fun _ h9 => h9) rfl dX3_off_31 ?_
    refine lv_iconst (v := 3) hx hb dX3_off_34 (by decide) ?_
    refine rf_ialoadk hx hb hK hP 1 0 rfl rfl (k := 3) (by decide) (by decide) (by decide) dX3_off_35 ?_
    refine lv_iconst (v := 0) hx hb dX3_off_36 (by decide) ?_
    obtain ⟨q16, hq16, hf⟩ := rf_bindq hf
    refine rf_Si (As := [.int (f_this_s 4), .int (f_this_s 5), .int (f_this_s 3), .int 0]) (rest := []) (wr := [(a_this, .inr (3, rf_o3 a_this_s a_this_image a_this_read a_this_mind a_this_letters a_this_row a_this_refused a_this_numbers a_this_cost g_this)), (a_this_s, .inl (cA, 22, .inl f_this_s)), (a_this_cost, .inl (cA, 13671, .inl f_this_cost))]) (wn := [(a_this, .inr (3, rf_o3 a_this_s a_this_image a_this_read a_this_mind a_this_letters a_this_row a_this_refused a_this_numbers a_this_cost g_this)), (a_this_s, .inl (cA, 22, .inl f_this_s)), (a_this_cost, .inl (cA, 13671, .inl f_this_cost))]) ⟨hx, hb, hml, hown, hts⟩ hK hP hD hS hA hE (c_X3_roomOf l D cA ad H.size (f_this_s 4) (f_this_s 5) (f_this_s 3) 0 q16 hq16) (va_cwS 4 hts gX3_off_X3_roomOf rfl rfl rfl hs_X3_roomOf ⟨Nat.le_of_ble_eq_true rfl, Nat.le_of_ble_eq_true rfl⟩) [] [0, 1, 2] [0, 1, 2] rfl rfl rfl rfl (by decide) rfl rfl rfl rfl hl.1 (Nat.le_of_ble_eq_true rfl) dX3_off_37 ⟨Nat.zero_le _, Nat.zero_le _⟩ (fun H locs hP hD hS => ?_)
    refine lv_istore (lv' := [(4, .int q16), (0, .ref a_this), (1, .int p1), (2, .int p2), (3, .int p3)]) hx hb dX3_off_40 hl (by decide) rfl (fun ls hl => ?_)
    refine lv_aload_n hx hb dX3_off_42 rfl (lv_at hl 1 rfl) ?_
    refine lv_iload hx hb dX3_off_43 (lv_at hl 0 rfl) ?_
    refine lv_iload_n hx hb dX3_off_45 rfl (lv_at hl 3 rfl) ?_
    refine lv_iload_n hx hb dX3_off_46 rfl (lv_at hl 4 rfl) ?_
    obtain ⟨q17, hq17, hf⟩ := rf_bindq hf
    refine rf_Vi (As := [.int q16, .int p2, .int p3]) (rest := []) (wr := []) (wn := [(a_this, .inr (3, rf_o3 a_this_s a_this_image a_this_read a_this_mind a_this_letters a_this_row a_this_refused a_this_numbers a_this_cost g_this)), (a_this_s, .inl (cA, 22, .inl f_this_s)), (a_this_cost, .inl (cA, 13671, .inl q17.2))]) ⟨hx, hb, hml, hown, hts⟩ hK hP hD hS hA hE (c_X3_leastFrom l D cA ad a_this a_this_s a_this_image a_this_read a_this_mind a_this_letters a_this_row a_this_refused a_this_numbers a_this_cost H.size g_this f_this_s f_this_cost q16 p2 p3 q17 hq17) (cwV 3 hts gX3_off_X3_leastFrom rfl rfl rfl hv_X3_leastFrom ⟨Nat.le_of_ble_eq_true rfl, Nat.le_of_ble_eq_true rfl⟩) [0, 1, 2] [] [0, 1, 2] rfl rfl rfl rfl (by decide) rfl rfl 3 0 rfl rfl rfl rfl rfl hl.1 (Nat.le_of_ble_eq_true rfl) dX3_off_47 ⟨Nat.zero_le _, Nat.zero_le _⟩ (fun H locs hP hD hS => ?_)
    refine lv_istore (lv' := [(5, .int q17.1), (4, .int q16), (0, .ref a_this), (1, .int p1), (2, .int p2), (3, .int p3)]) hx hb dX3_off_50 hl (by decide) rfl (fun ls hl => ?_)
    refine lv_iload_n hx hb dX3_off_52 rfl (lv_at hl 3 rfl) ?_
    refine lv_if_eq (tgt := 61) hx hb dX3_off_53 (by decide) (fun c18 => ?_) (fun c18 => ?_)
    · have hf := rf_ifp hf c18
      refine lv_iload hx hb dX3_off_61 (lv_at hl 0 rfl) ?_
      obtain rfl := Option.some.inj hf
      exact W.iret (v := q17.1) hx hb hr (fun t ht hW => ⟨⟨q17.1, (), rfl, rfl, rf_mk ht hP hD⟩, hS.F ht⟩) hS.2.2 dX3_off_63
    · have hf := rf_ifn hf c18
      refine lv_iload hx hb dX3_off_56 (lv_at hl 0 rfl) ?_
      refine lv_if_ge (tgt := 64) hx hb dX3_off_58 (by decide) (fun c19 => ?_) (fun c19 => ?_)
      · have hf := rf_ifp hf c19
        refine lv_iconst (v := 0) hx hb dX3_off_64 (by decide) ?_
        refine lv_istore (lv' := [(6, .int 0), (5, .int q17.1), (4, .int q16), (0, .ref a_this), (1, .int p1), (2, .int p2), (3, .int p3)]) hx hb dX3_off_65 hl (by decide) rfl (fun ls hl => ?_)
        obtain ⟨q20, hq20, hf⟩ := rf_bindq hf
        refine key_67 q16 q17.1 rf_fu 0 q17.2 q20 hq20 _ _ _ hP hD hS (lv_sub hl [3, 6, 2, 1, 0] rfl) (fun r h9 => ?_) (fun x21 h9 H locs ls hP hD hS hl => ?_)
        · subst h9
          exact Option.some.inj hf
        · subst h9
          have hf := rf_sumr hf
          refine lv_bipush (v := (-9)) hx hb dX3_off_135 (by decide) ?_
          obtain rfl := Option.some.inj hf
          exact W.iret (v := (-9)) hx hb hr (fun t ht hW => ⟨⟨(-9), (), rfl, rfl, rf_mk ht hP hD⟩, hS.F ht⟩) hS.2.2 dX3_off_137
      · have hf := rf_ifn hf c19
        refine lv_iload hx hb dX3_off_61 (lv_at hl 0 rfl) ?_
        obtain rfl := Option.some.inj hf
        exact W.iret (v := q17.1) hx hb hr (fun t ht hW => ⟨⟨q17.1, (), rfl, rfl, rf_mk ht hP hD⟩, hS.F ht⟩) hS.2.2 dX3_off_63
  · have hf := rf_ifn hf c15
    refine lv_iload_n hx hb dX3_off_7 rfl (lv_at hl 1 rfl) ?_
    refine lv_if_ne (tgt := 15) hx hb dX3_off_8 (by decide) (fun c22 => ?_) (fun c22 => ?_)
    · have hf := rf_ifn hf c22
      refine lv_bipush (v := (-9)) hx hb dX3_off_15 (by decide) ?_
      obtain rfl := Option.some.inj hf
      exact W.iret (v := (-9)) hx hb hr (fun t ht hW => ⟨⟨(-9), (), rfl, rfl, rf_mk ht hP hD⟩, hS.F ht⟩) hS.2.2 dX3_off_17
    · have hf := rf_ifp hf c22
      refine lv_iconst (v := 0) hx hb dX3_off_11 (by decide) ?_
      refine lv_goto (tgt := 17) hx hb dX3_off_12 (by decide) ?_
      obtain rfl := Option.some.inj hf
      exact W.iret (v := 0) hx hb hr (fun t ht hW => ⟨⟨0, (), rfl, rfl, rf_mk ht hP hD⟩, hS.F ht⟩) hS.2.2 dX3_off_17

set_option maxHeartbeats 8000000 in
set_option maxRecDepth 100000 in
theorem c_X3_soonest (l : Launch) (D : va_G) (cA : ClassId) (ad : Nat → Nat) (a_this a_this_s a_this_image a_this_read a_this_mind a_this_letters a_this_row a_this_refused a_this_numbers a_this_cost : Nat) (sz : Nat) (g_this f_this_s f_this_refused f_this_cost : Nat → Int32) (p1 : Int32) (q : Int32 × (Nat → Int32) × (Nat → Int32)) (hf : f_X3_soonest g_this f_this_s f_this_refused f_this_cost p1 = some q) : Met l yX3_soonest wsX3_soonest ({ frames := 7, cells := 0, slots := 0, locals := 177 } : Room) (va_Pc [.ref a_this, .int p1] (rf_Pre D cA ad [(a_this, .inr (3, rf_o3 a_this_s a_this_image a_this_read a_this_mind a_this_letters a_this_row a_this_refused a_this_numbers a_this_cost g_this)), (a_this_s, .inl (cA, 22, .inl f_this_s)), (a_this_refused, .inl (cA, 7, .inl f_this_refused)), (a_this_cost, .inl (cA, 13671, .inl f_this_cost))] sz)) (va_Qi (fun (r : Int32) (_ : Unit) => r = q.1) (fun _ t => rf_Post D (va_A [(a_this, .inr (3, rf_o3 a_this_s a_this_image a_this_read a_this_mind a_this_letters a_this_row a_this_refused a_this_numbers a_this_cost g_this)), (a_this_s, .inl (cA, 22, .inl f_this_s)), (a_this_refused, .inl (cA, 7, .inl f_this_refused)), (a_this_cost, .inl (cA, 13671, .inl f_this_cost))] sz) [(a_this, .inr (3, rf_o3 a_this_s a_this_image a_this_read a_this_mind a_this_letters a_this_row a_this_refused a_this_numbers a_this_cost g_this)), (a_this_s, .inl (cA, 22, .inl f_this_s)), (a_this_refused, .inl (cA, 7, .inl q.2.1)), (a_this_cost, .inl (cA, 13671, .inl q.2.2))] t) (va_A [(a_this, .inr (3, rf_o3 a_this_s a_this_image a_this_read a_this_mind a_this_letters a_this_row a_this_refused a_this_numbers a_this_cost g_this)), (a_this_s, .inl (cA, 22, .inl f_this_s)), (a_this_refused, .inl (cA, 7, .inl f_this_refused)), (a_this_cost, .inl (cA, 13671, .inl f_this_cost))] sz)) 0 0 (va_A [(a_this, .inr (3, rf_o3 a_this_s a_this_image a_this_read a_this_mind a_this_letters a_this_row a_this_refused a_this_numbers a_this_cost g_this)), (a_this_s, .inl (cA, 22, .inl f_this_s)), (a_this_refused, .inl (cA, 7, .inl f_this_refused)), (a_this_cost, .inl (cA, 13671, .inl f_this_cost))] sz) := by
  refine Met.ofW (cc := cX3_soonest) (maxL := 2) (ret := (some .int)) (by decide) rfl ?_
  intro p e s m args below meth c s₁ B hml hv
  obtain ⟨rfl, hsz, hP, hK, hD0, hE⟩ := hv
  have hx := B.exec
  have hb := B.bytes
  have hr := B.returns
  have hts := atoms_spec (ws := wsX3_soonest) B.pre
  have hown : s.vm.findClass RX3 = some m.cls := findClass_of_methodNamed B.named
  have hlocks := B.notSynchronized
  subst hsz
  have hD := hD0.self (sz := s.heap.size)
  generalize hAe : va_A [(a_this, .inr (3, rf_o3 a_this_s a_this_image a_this_read a_this_mind a_this_letters a_this_row a_this_refused a_this_numbers a_this_cost g_this)), (a_this_s, .inl (cA, 22, .inl f_this_s)), (a_this_refused, .inl (cA, 7, .inl f_this_refused)), (a_this_cost, .inl (cA, 13671, .inl f_this_cost))] s.heap.size = A at hD hE ⊢
  have hA : ∀ q : Nat, s.heap.size ≤ q → A q := fun q h => by rw [← hAe]; exact Or.inr h
  have hS : va_S A s.heap s.heap [] := va_S.rf
  have hP : va_P D vwCl [(a_this, .inr (3, rf_o3 a_this_s a_this_image a_this_read a_this_mind a_this_letters a_this_row a_this_refused a_this_numbers a_this_cost g_this)), (a_this_s, .inl (cA, 22, .inl f_this_s)), (a_this_refused, .inl (cA, 7, .inl f_this_refused)), (a_this_cost, .inl (cA, 13671, .inl f_this_cost))] s.heap := hP
  have hl := lv_entry ([.ref a_this, .int p1]) (n := 2) (Nat.le_of_ble_eq_true rfl)
  rw [lg_entry_eq]
  generalize (lg_sl ([.ref a_this, .int p1]) ++ List.replicate (2 - (lg_sl ([.ref a_this, .int p1])).length) Slot.unset).toArray = ls at hl ⊢
  have hl : lv_has ls 2 [(0, .ref a_this), (1, .int p1)] := hl
  rw [f_X3_soonest] at hf
  refine lv_iload_n hx hb dX3_soonest_0 rfl (lv_at hl 1 rfl) ?_
  refine lv_iconst (v := 0) hx hb dX3_soonest_1 (by decide) ?_
  refine lv_iconst (v := 1) hx hb dX3_soonest_2 (by decide) ?_
  obtain ⟨q1, hq1, hf⟩ := rf_bindq hf
  refine rf_Si (As := [.int p1, .int 0, .int 1]) (rest := []) (wr := [(a_this, .inr (3, rf_o3 a_this_s a_this_image a_this_read a_this_mind a_this_letters a_this_row a_this_refused a_this_numbers a_this_cost g_this)), (a_this_s, .inl (cA, 22, .inl f_this_s)), (a_this_refused, .inl (cA, 7, .inl f_this_refused)), (a_this_cost, .inl (cA, 13671, .inl f_this_cost))]) (wn := [(a_this, .inr (3, rf_o3 a_this_s a_this_image a_this_read a_this_mind a_this_letters a_this_row a_this_refused a_this_numbers a_this_cost g_this)), (a_this_s, .inl (cA, 22, .inl f_this_s)), (a_this_refused, .inl (cA, 7, .inl f_this_refused)), (a_this_cost, .inl (cA, 13671, .inl f_this_cost))]) ⟨hx, hb, hml, hown, hts⟩ hK hP hD hS hA hE (c_X3_isIn l D cA ad s.heap.size p1 0 1 q1 hq1) (va_cwS 3 hts gX3_soonest_X3_isIn rfl rfl rfl hs_X3_isIn ⟨Nat.le_of_ble_eq_true rfl, Nat.le_of_ble_eq_true rfl⟩) [] [0, 1, 2, 3] [0, 1, 2, 3] rfl rfl rfl rfl (by decide) rfl rfl rfl rfl hl.1 (Nat.le_of_ble_eq_true rfl) dX3_soonest_3 ⟨Nat.zero_le _, Nat.zero_le _⟩ (fun H locs hP hD hS => ?_)
  refine lv_if_ne (tgt := 18) hx hb dX3_soonest_6 (by decide) (fun c2 => ?_) (fun c2 => ?_)
  · have hf := rf_ifn hf c2
    refine lv_aload_n hx hb dX3_soonest_18 rfl (lv_at hl 0 rfl) ?_
    refine lv_iload_n hx hb dX3_soonest_19 rfl (lv_at hl 1 rfl) ?_
    refine lv_bipush (v := 120) hx hb dX3_soonest_20 (by decide) ?_
    refine lv_iconst (v := 0) hx hb dX3_soonest_22 (by decide) ?_
    obtain ⟨q3, hq3, hf⟩ := rf_bindq hf
    refine rf_Vi (As := [.int p1, .int 120, .int 0]) (rest := []) (wr := [(a_this_refused, .inl (cA, 7, .inl f_this_refused))]) (wn := [(a_this, .inr (3, rf_o3 a_this_s a_this_image a_this_read a_this_mind a_this_letters a_this_row a_this_refused a_this_numbers a_this_cost g_this)), (a_this_s, .inl (cA, 22, .inl f_this_s)), (a_this_refused, .inl (cA, 7, .inl f_this_refused)), (a_this_cost, .inl (cA, 13671, .inl q3.2))]) ⟨hx, hb, hml, hown, hts⟩ hK hP hD hS hA hE (c_X3_off l D cA ad a_this a_this_s a_this_image a_this_read a_this_mind a_this_letters a_this_row a_this_refused a_this_numbers a_this_cost H.size g_this f_this_s f_this_cost p1 120 0 q3 hq3) (cwV 3 hts gX3_soonest_X3_off rfl rfl rfl hv_X3_off ⟨Nat.le_of_ble_eq_true rfl, Nat.le_of_ble_eq_true rfl⟩) [0, 1, 3] [2] [1, 2, 0, 3] rfl rfl rfl rfl (by decide) rfl rfl 3 0 rfl rfl rfl rfl rfl hl.1 (Nat.le_of_ble_eq_true rfl) dX3_soonest_23 ⟨Nat.zero_le _, Nat.zero_le _⟩ (fun H locs hP hD hS => ?_)
    obtain rfl := Option.some.inj hf
    exact W.iret (v := q3.1) hx hb hr (fun t ht hW => ⟨⟨q3.1, (), rfl, rfl, rf_mk ht hP hD⟩, hS.F ht⟩) hS.2.2 dX3_soonest_26
  · have hf := rf_ifp hf c2
    refine lv_aload_n hx hb dX3_soonest_9 rfl (lv_at hl 0 rfl) ?_
    refine lv_bipush (v := (-2)) hx hb dX3_soonest_10 (by decide) ?_
    obtain ⟨q4, hq4, hf⟩ := rf_bindq hf
    refine rf_Vi (As := [.int (-2)]) (rest := []) (wr := [(a_this_s, .inl (cA, 22, .inl f_this_s)), (a_this_cost, .inl (cA, 13671, .inl f_this_cost))]) (wn := [(a_this, .inr (3, rf_o3 a_this_s a_this_image a_this_read a_this_mind a_this_letters a_this_row a_this_refused a_this_numbers a_this_cost g_this)), (a_this_s, .inl (cA, 22, .inl f_this_s)), (a_this_refused, .inl (cA, 7, .inl q4.2)), (a_this_cost, .inl (cA, 13671, .inl f_this_cost))]) ⟨hx, hb, hml, hown, hts⟩ hK hP hD hS hA hE (c_X3_no l D cA ad a_this a_this_s a_this_image a_this_read a_this_mind a_this_letters a_this_row a_this_refused a_this_numbers a_this_cost H.size g_this f_this_refused (-2) q4 hq4) (cwV 1 hts gX3_soonest_X3_no rfl rfl rfl hv_X3_no ⟨Nat.le_of_ble_eq_true rfl, Nat.le_of_ble_eq_true rfl⟩) [0, 2] [1, 3] [2, 0, 3, 1] rfl rfl rfl rfl (by decide) rfl rfl 3 0 rfl rfl rfl rfl rfl hl.1 (Nat.le_of_ble_eq_true rfl) dX3_soonest_12 ⟨Nat.zero_le _, Nat.zero_le _⟩ (fun H locs hP hD hS => ?_)
    refine lv_goto (tgt := 26) hx hb dX3_soonest_15 (by decide) ?_
    obtain rfl := Option.some.inj hf
    exact W.iret (v := q4.1) hx hb hr (fun t ht hW => ⟨⟨q4.1, (), rfl, rfl, rf_mk ht hP hD⟩, hS.F ht⟩) hS.2.2 dX3_soonest_26

set_option maxHeartbeats 8000000 in
set_option maxRecDepth 100000 in
theorem c_X3_gentlest (l : Launch) (D : va_G) (cA : ClassId) (ad : Nat → Nat) (a_this a_this_s a_this_image a_this_read a_this_mind a_this_letters a_this_row a_this_refused a_this_numbers a_this_cost : Nat) (sz : Nat) (g_this f_this_s f_this_refused f_this_cost : Nat → Int32) (p1 : Int32) (q : Int32 × (Nat → Int32) × (Nat → Int32)) (hf : f_X3_gentlest g_this f_this_s f_this_refused f_this_cost p1 = some q) : Met l yX3_gentlest wsX3_gentlest ({ frames := 7, cells := 0, slots := 0, locals := 177 } : Room) (va_Pc [.ref a_this, .int p1] (rf_Pre D cA ad [(a_this, .inr (3, rf_o3 a_this_s a_this_image a_this_read a_this_mind a_this_letters a_this_row a_this_refused a_this_numbers a_this_cost g_this)), (a_this_s, .inl (cA, 22, .inl f_this_s)), (a_this_refused, .inl (cA, 7, .inl f_this_refused)), (a_this_cost, .inl (cA, 13671, .inl f_this_cost))] sz)) (va_Qi (fun (r : Int32) (_ : Unit) => r = q.1) (fun _ t => rf_Post D (va_A [(a_this, .inr (3, rf_o3 a_this_s a_this_image a_this_read a_this_mind a_this_letters a_this_row a_this_refused a_this_numbers a_this_cost g_this)), (a_this_s, .inl (cA, 22, .inl f_this_s)), (a_this_refused, .inl (cA, 7, .inl f_this_refused)), (a_this_cost, .inl (cA, 13671, .inl f_this_cost))] sz) [(a_this, .inr (3, rf_o3 a_this_s a_this_image a_this_read a_this_mind a_this_letters a_this_row a_this_refused a_this_numbers a_this_cost g_this)), (a_this_s, .inl (cA, 22, .inl f_this_s)), (a_this_refused, .inl (cA, 7, .inl q.2.1)), (a_this_cost, .inl (cA, 13671, .inl q.2.2))] t) (va_A [(a_this, .inr (3, rf_o3 a_this_s a_this_image a_this_read a_this_mind a_this_letters a_this_row a_this_refused a_this_numbers a_this_cost g_this)), (a_this_s, .inl (cA, 22, .inl f_this_s)), (a_this_refused, .inl (cA, 7, .inl f_this_refused)), (a_this_cost, .inl (cA, 13671, .inl f_this_cost))] sz)) 0 0 (va_A [(a_this, .inr (3, rf_o3 a_this_s a_this_image a_this_read a_this_mind a_this_letters a_this_row a_this_refused a_this_numbers a_this_cost g_this)), (a_this_s, .inl (cA, 22, .inl f_this_s)), (a_this_refused, .inl (cA, 7, .inl f_this_refused)), (a_this_cost, .inl (cA, 13671, .inl f_this_cost))] sz) := by
  refine Met.ofW (cc := cX3_gentlest) (maxL := 2) (ret := (some .int)) (by decide) rfl ?_
  intro p e s m args below meth c s₁ B hml hv
  obtain ⟨rfl, hsz, hP, hK, hD0, hE⟩ := hv
  have hx := B.exec
  have hb := B.bytes
  have hr := B.returns
  have hts := atoms_spec (ws := wsX3_gentlest) B.pre
  have hown : s.vm.findClass RX3 = some m.cls := findClass_of_methodNamed B.named
  have hlocks := B.notSynchronized
  subst hsz
  have hD := hD0.self (sz := s.heap.size)
  generalize hAe : va_A [(a_this, .inr (3, rf_o3 a_this_s a_this_image a_this_read a_this_mind a_this_letters a_this_row a_this_refused a_this_numbers a_this_cost g_this)), (a_this_s, .inl (cA, 22, .inl f_this_s)), (a_this_refused, .inl (cA, 7, .inl f_this_refused)), (a_this_cost, .inl (cA, 13671, .inl f_this_cost))] s.heap.size = A at hD hE ⊢
  have hA : ∀ q : Nat, s.heap.size ≤ q → A q := fun q h => by rw [← hAe]; exact Or.inr h
  have hS : va_S A s.heap s.heap [] := va_S.rf
  have hP : va_P D vwCl [(a_this, .inr (3, rf_o3 a_this_s a_this_image a_this_read a_this_mind a_this_letters a_this_row a_this_refused a_this_numbers a_this_cost g_this)), (a_this_s, .inl (cA, 22, .inl f_this_s)), (a_this_refused, .inl (cA, 7, .inl f_this_refused)), (a_this_cost, .inl (cA, 13671, .inl f_this_cost))] s.heap := hP
  have hl := lv_entry ([.ref a_this, .int p1]) (n := 2) (Nat.le_of_ble_eq_true rfl)
  rw [lg_entry_eq]
  generalize (lg_sl ([.ref a_this, .int p1]) ++ List.replicate (2 - (lg_sl ([.ref a_this, .int p1])).length) Slot.unset).toArray = ls at hl ⊢
  have hl : lv_has ls 2 [(0, .ref a_this), (1, .int p1)] := hl
  rw [f_X3_gentlest] at hf
  refine lv_iload_n hx hb dX3_gentlest_0 rfl (lv_at hl 1 rfl) ?_
  refine lv_iconst (v := 0) hx hb dX3_gentlest_1 (by decide) ?_
  refine lv_iconst (v := 1) hx hb dX3_gentlest_2 (by decide) ?_
  obtain ⟨q1, hq1, hf⟩ := rf_bindq hf
  refine rf_Si (As := [.int p1, .int 0, .int 1]) (rest := []) (wr := [(a_this, .inr (3, rf_o3 a_this_s a_this_image a_this_read a_this_mind a_this_letters a_this_row a_this_refused a_this_numbers a_this_cost g_this)), (a_this_s, .inl (cA, 22, .inl f_this_s)), (a_this_refused, .inl (cA, 7, .inl f_this_refused)), (a_this_cost, .inl (cA, 13671, .inl f_this_cost))]) (wn := [(a_this, .inr (3, rf_o3 a_this_s a_this_image a_this_read a_this_mind a_this_letters a_this_row a_this_refused a_this_numbers a_this_cost g_this)), (a_this_s, .inl (cA, 22, .inl f_this_s)), (a_this_refused, .inl (cA, 7, .inl f_this_refused)), (a_this_cost, .inl (cA, 13671, .inl f_this_cost))]) ⟨hx, hb, hml, hown, hts⟩ hK hP hD hS hA hE (c_X3_isIn l D cA ad s.heap.size p1 0 1 q1 hq1) (va_cwS 3 hts gX3_gentlest_X3_isIn rfl rfl rfl hs_X3_isIn ⟨Nat.le_of_ble_eq_true rfl, Nat.le_of_ble_eq_true rfl⟩) [] [0, 1, 2, 3] [0, 1, 2, 3] rfl rfl rfl rfl (by decide) rfl rfl rfl rfl hl.1 (Nat.le_of_ble_eq_true rfl) dX3_gentlest_3 ⟨Nat.zero_le _, Nat.zero_le _⟩ (fun H locs hP hD hS => ?_)
  refine lv_if_ne (tgt := 18) hx hb dX3_gentlest_6 (by decide) (fun c2 => ?_) (fun c2 => ?_)
  · have hf := rf_ifn hf c2
    refine lv_aload_n hx hb dX3_gentlest_18 rfl (lv_at hl 0 rfl) ?_
    refine lv_iload_n hx hb dX3_gentlest_19 rfl (lv_at hl 1 rfl) ?_
    refine lv_bipush (v := 60) hx hb dX3_gentlest_20 (by decide) ?_
    refine lv_iconst (v := 1) hx hb dX3_gentlest_22 (by decide) ?_
    obtain ⟨q3, hq3, hf⟩ := rf_bindq hf
    refine rf_Vi (As := [.int p1, .int 60, .int 1]) (rest := []) (wr := [(a_this_refused, .inl (cA, 7, .inl f_this_refused))]) (wn := [(a_this, .inr (3, rf_o3 a_this_s a_this_image a_this_read a_this_mind a_this_letters a_this_row a_this_refused a_this_numbers a_this_cost g_this)), (a_this_s, .inl (cA, 22, .inl f_this_s)), (a_this_refused, .inl (cA, 7, .inl f_this_refused)), (a_this_cost, .inl (cA, 13671, .inl q3.2))]) ⟨hx, hb, hml, hown, hts⟩ hK hP hD hS hA hE (c_X3_off l D cA ad a_this a_this_s a_this_image a_this_read a_this_mind a_this_letters a_this_row a_this_refused a_this_numbers a_this_cost H.size g_this f_this_s f_this_cost p1 60 1 q3 hq3) (cwV 3 hts gX3_gentlest_X3_off rfl rfl rfl hv_X3_off ⟨Nat.le_of_ble_eq_true rfl, Nat.le_of_ble_eq_true rfl⟩) [0, 1, 3] [2] [1, 2, 0, 3] rfl rfl rfl rfl (by decide) rfl rfl 3 0 rfl rfl rfl rfl rfl hl.1 (Nat.le_of_ble_eq_true rfl) dX3_gentlest_23 ⟨Nat.zero_le _, Nat.zero_le _⟩ (fun H locs hP hD hS => ?_)
    obtain rfl := Option.some.inj hf
    exact W.iret (v := q3.1) hx hb hr (fun t ht hW => ⟨⟨q3.1, (), rfl, rfl, rf_mk ht hP hD⟩, hS.F ht⟩) hS.2.2 dX3_gentlest_26
  · have hf := rf_ifp hf c2
    refine lv_aload_n hx hb dX3_gentlest_9 rfl (lv_at hl 0 rfl) ?_
    refine lv_bipush (v := (-2)) hx hb dX3_gentlest_10 (by decide) ?_
    obtain ⟨q4, hq4, hf⟩ := rf_bindq hf
    refine rf_Vi (As := [.int (-2)]) (rest := []) (wr := [(a_this_s, .inl (cA, 22, .inl f_this_s)), (a_this_cost, .inl (cA, 13671, .inl f_this_cost))]) (wn := [(a_this, .inr (3, rf_o3 a_this_s a_this_image a_this_read a_this_mind a_this_letters a_this_row a_this_refused a_this_numbers a_this_cost g_this)), (a_this_s, .inl (cA, 22, .inl f_this_s)), (a_this_refused, .inl (cA, 7, .inl q4.2)), (a_this_cost, .inl (cA, 13671, .inl f_this_cost))]) ⟨hx, hb, hml, hown, hts⟩ hK hP hD hS hA hE (c_X3_no l D cA ad a_this a_this_s a_this_image a_this_read a_this_mind a_this_letters a_this_row a_this_refused a_this_numbers a_this_cost H.size g_this f_this_refused (-2) q4 hq4) (cwV 1 hts gX3_gentlest_X3_no rfl rfl rfl hv_X3_no ⟨Nat.le_of_ble_eq_true rfl, Nat.le_of_ble_eq_true rfl⟩) [0, 2] [1, 3] [2, 0, 3, 1] rfl rfl rfl rfl (by decide) rfl rfl 3 0 rfl rfl rfl rfl rfl hl.1 (Nat.le_of_ble_eq_true rfl) dX3_gentlest_12 ⟨Nat.zero_le _, Nat.zero_le _⟩ (fun H locs hP hD hS => ?_)
    refine lv_goto (tgt := 26) hx hb dX3_gentlest_15 (by decide) ?_
    obtain rfl := Option.some.inj hf
    exact W.iret (v := q4.1) hx hb hr (fun t ht hW => ⟨⟨q4.1, (), rfl, rfl, rf_mk ht hP hD⟩, hS.F ht⟩) hS.2.2 dX3_gentlest_26
theorem kX3_danger_0 : (.fieldLink RX3 9 "RingAndFingerModel" "s" "[I" : Cond) ∈ wsX3_danger := by decide +kernel
theorem jX3_danger_X3 : ∀ w ∈ u_ws RX3 TX3 16, w ∈ wsX3_danger := by decide +kernel
set_option maxHeartbeats 8000000 in
set_option maxRecDepth 100000 in
theorem c_X3_danger (l : Launch) (D : va_G) (cA : ClassId) (ad : Nat → Nat) (a_this a_this_s a_this_image a_this_read a_this_mind a_this_letters a_this_row a_this_refused a_this_numbers a_this_cost : Nat) (sz : Nat) (g_this f_this_s f_this_refused : Nat → Int32) (p1 : Int32) (q : Int32 × (Nat → Int32)) (hf : f_X3_danger g_this f_this_s f_this_refused p1 = some q) : Met l yX3_danger wsX3_danger ({ frames := 1, cells := 0, slots := 0, locals := 21 } : Room) (va_Pc [.ref a_this, .int p1] (rf_Pre D cA ad [(a_this, .inr (3, rf_o3 a_this_s a_this_image a_this_read a_this_mind a_this_letters a_this_row a_this_refused a_this_numbers a_this_cost g_this)), (a_this_s, .inl (cA, 22, .inl f_this_s)), (a_this_refused, .inl (cA, 7, .inl f_this_refused))] sz)) (va_Qi (fun (r : Int32) (_ : Unit) => r = q.1) (fun _ t => rf_Post D (va_A [(a_this, .inr (3, rf_o3 a_this_s a_this_image a_this_read a_this_mind a_this_letters a_this_row a_this_refused a_this_numbers a_this_cost g_this)), (a_this_s, .inl (cA, 22, .inl f_this_s)), (a_this_refused, .inl (cA, 7, .inl f_this_refused))] sz) [(a_this, .inr (3, rf_o3 a_this_s a_this_image a_this_read a_this_mind a_this_letters a_this_row a_this_refused a_this_numbers a_this_cost g_this)), (a_this_s, .inl (cA, 22, .inl f_this_s)), (a_this_refused, .inl (cA, 7, .inl q.2))] t) (va_A [(a_this, .inr (3, rf_o3 a_this_s a_this_image a_this_read a_this_mind a_this_letters a_this_row a_this_refused a_this_numbers a_this_cost g_this)), (a_this_s, .inl (cA, 22, .inl f_this_s)), (a_this_refused, .inl (cA, 7, .inl f_this_refused))] sz)) 0 0 (va_A [(a_this, .inr (3, rf_o3 a_this_s a_this_image a_this_read a_this_mind a_this_letters a_this_row a_this_refused a_this_numbers a_this_cost g_this)), (a_this_s, .inl (cA, 22, .inl f_this_s)), (a_this_refused, .inl (cA, 7, .inl f_this_refused))] sz) := by
  refine Met.ofW (cc := cX3_danger) (maxL := 2) (ret := (some .int)) (by decide) rfl ?_
  intro p e s m args below meth c s₁ B hml hv
  obtain ⟨rfl, hsz, hP, hK, hD0, hE⟩ := hv
  have hx := B.exec
  have hb := B.bytes
  have hr := B.returns
  have hts := atoms_spec (ws := wsX3_danger) B.pre
  have hown : s.vm.findClass RX3 = some m.cls := findClass_of_methodNamed B.named
  have hlocks := B.notSynchronized
  subst hsz
  have hD := hD0.self (sz := s.heap.size)
  generalize hAe : va_A [(a_this, .inr (3, rf_o3 a_this_s a_this_image a_this_read a_this_mind a_this_letters a_this_row a_this_refused a_this_numbers a_this_cost g_this)), (a_this_s, .inl (cA, 22, .inl f_this_s)), (a_this_refused, .inl (cA, 7, .inl f_this_refused))] s.heap.size = A at hD hE ⊢
  have hA : ∀ q : Nat, s.heap.size ≤ q → A q := fun q h => by rw [← hAe]; exact Or.inr h
  have hS : va_S A s.heap s.heap [] := va_S.rf
  have hP : va_P D vwCl [(a_this, .inr (3, rf_o3 a_this_s a_this_image a_this_read a_this_mind a_this_letters a_this_row a_this_refused a_this_numbers a_this_cost g_this)), (a_this_s, .inl (cA, 22, .inl f_this_s)), (a_this_refused, .inl (cA, 7, .inl f_this_refused))] s.heap := hP
  have hl := lv_entry ([.ref a_this, .int p1]) (n := 2) (Nat.le_of_ble_eq_true rfl)
  rw [lg_entry_eq]
  generalize (lg_sl ([.ref a_this, .int p1]) ++ List.replicate (2 - (lg_sl ([.ref a_this, .int p1])).length) Slot.unset).toArray = ls at hl ⊢
  have hl : lv_has ls 2 [(0, .ref a_this), (1, .int p1)] := hl
  rw [f_X3_danger] at hf
  refine lv_iload_n hx hb dX3_danger_0 rfl (lv_at hl 1 rfl) ?_
  refine lv_if_ge (tgt := 11) hx hb dX3_danger_1 (by decide) (fun c1 => ?_) (fun c1 => ?_)
  · have hf := rf_ifp hf c1
    refine lv_iload_n hx hb dX3_danger_11 rfl (lv_at hl 1 rfl) ?_
    refine lv_bipush (v := 9) hx hb dX3_danger_12 (by decide) ?_
    refine lv_icmp_le (tgt := 24) hx hb dX3_danger_14 (by decide) (fun c2 => ?_) (fun c2 => ?_)
    · have hf := rf_ifp hf c2
      refine lv_iconst (v := 0) hx hb dX3_danger_24 (by decide) ?_
      refine lv_bipush (v := 99) hx hb dX3_danger_25 (by decide) ?_
      refine lv_aload_n hx hb dX3_danger_27 rfl (lv_at hl 0 rfl) ?_
      refine va_get (D := D) (ci := 3) (v := .ref a_this_s) (C := RX3) (T := TX3) (N := 16) hx hb hts jX3_danger_X3 hown hK hP 0 rfl rfl 0 (by decide) (hts _ kX3_danger_0) (fun _ h9 => h9) rfl dX3_danger_28 ?_
      refine lv_bipush (v := 6) hx hb dX3_danger_31 (by decide) ?_
      refine rf_ialoadk hx hb hK hP 1 0 rfl rfl (k := 6) (by decide) (by decide) (by decide) dX3_danger_33 ?_
      refine lv_iconst (v := 5) hx hb dX3_danger_34 (by decide) ?_
      refine lv_iload_n hx hb dX3_danger_35 rfl (lv_at hl 1 rfl) ?_
      refine lv_imul hx hb dX3_danger_36 ?_
      refine lv_iadd hx hb dX3_danger_37 ?_
      obtain ⟨q3, hq3, hf⟩ := rf_bindq hf
      refine rf_Si (As := [.int 99, .int ((f_this_s 6) + (5 * p1))]) (rest := [.int 0]) (wr := [(a_this, .inr (3, rf_o3 a_this_s a_this_image a_this_read a_this_mind a_this_letters a_this_row a_this_refused a_this_numbers a_this_cost g_this)), (a_this_s, .inl (cA, 22, .inl f_this_s)), (a_this_refused, .inl (cA, 7, .inl f_this_refused))]) (wn := [(a_this, .inr (3, rf_o3 a_this_s a_this_image a_this_read a_this_mind a_this_letters a_this_row a_this_refused a_this_numbers a_this_cost g_this)), (a_this_s, .inl (cA, 22, .inl f_this_s)), (a_this_refused, .inl (cA, 7, .inl f_this_refused))]) ⟨hx, hb, hml, hown, hts⟩ hK hP hD hS hA hE (c_X3_least l D cA ad s.heap.size 99 ((f_this_s 6) + (5 * p1)) q3 hq3) (va_cwS 2 hts gX3_danger_X3_least rfl rfl rfl hs_X3_least ⟨Nat.le_of_ble_eq_true rfl, Nat.le_of_ble_eq_true rfl⟩) [] [0, 1, 2] [0, 1, 2] rfl rfl rfl rfl (by decide) rfl rfl rfl rfl hl.1 (Nat.le_of_ble_eq_true rfl) dX3_danger_38 ⟨Nat.zero_le _, Nat.zero_le _⟩ (fun H locs hP hD hS => ?_)
      refine lv_bipush (v := 9) hx hb dX3_danger_41 (by decide) ?_
      refine lv_isub hx hb dX3_danger_43 ?_
      obtain ⟨q4, hq4, hf⟩ := rf_bindq hf
      refine rf_Si (As := [.int 0, .int (q3 - 9)]) (rest := []) (wr := [(a_this, .inr (3, rf_o3 a_this_s a_this_image a_this_read a_this_mind a_this_letters a_this_row a_this_refused a_this_numbers a_this_cost g_this)), (a_this_s, .inl (cA, 22, .inl f_this_s)), (a_this_refused, .inl (cA, 7, .inl f_this_refused))]) (wn := [(a_this, .inr (3, rf_o3 a_this_s a_this_image a_this_read a_this_mind a_this_letters a_this_row a_this_refused a_this_numbers a_this_cost g_this)), (a_this_s, .inl (cA, 22, .inl f_this_s)), (a_this_refused, .inl (cA, 7, .inl f_this_refused))]) ⟨hx, hb, hml, hown, hts⟩ hK hP hD hS hA hE (c_X3_most l D cA ad H.size 0 (q3 - 9) q4 hq4) (va_cwS 2 hts gX3_danger_X3_most rfl rfl rfl hs_X3_most ⟨Nat.le_of_ble_eq_true rfl, Nat.le_of_ble_eq_true rfl⟩) [] [0, 1, 2] [0, 1, 2] rfl rfl rfl rfl (by decide) rfl rfl rfl rfl hl.1 (Nat.le_of_ble_eq_true rfl) dX3_danger_44 ⟨Nat.zero_le _, Nat.zero_le _⟩ (fun H locs hP hD hS => ?_)
      obtain rfl := Option.some.inj hf
      exact W.iret (v := q4) hx hb hr (fun t ht hW => ⟨⟨q4, (), rfl, rfl, rf_mk ht hP hD⟩, hS.F ht⟩) hS.2.2 dX3_danger_47
    · have hf := rf_ifn hf c2
      refine lv_aload_n hx hb dX3_danger_17 rfl (lv_at hl 0 rfl) ?_
      refine lv_bipush (v := (-6)) hx hb dX3_danger_18 (by decide) ?_
      obtain ⟨q5, hq5, hf⟩ := rf_bindq hf
      refine rf_Vi (As := [.int (-6)]) (rest := []) (wr := [(a_this_s, .inl (cA, 22, .inl f_this_s))]) (wn := [(a_this, .inr (3, rf_o3 a_this_s a_this_image a_this_read a_this_mind a_this_letters a_this_row a_this_refused a_this_numbers a_this_cost g_this)), (a_this_s, .inl (cA, 22, .inl f_this_s)), (a_this_refused, .inl (cA, 7, .inl q5.2))]) ⟨hx, hb, hml, hown, hts⟩ hK hP hD hS hA hE (c_X3_no l D cA ad a_this a_this_s a_this_image a_this_read a_this_mind a_this_letters a_this_row a_this_refused a_this_numbers a_this_cost s.heap.size g_this f_this_refused (-6) q5 hq5) (cwV 1 hts gX3_danger_X3_no rfl rfl rfl hv_X3_no ⟨Nat.le_of_ble_eq_true rfl, Nat.le_of_ble_eq_true rfl⟩) [0, 2] [1] [1, 0, 2] rfl rfl rfl rfl (by decide) rfl rfl 3 0 rfl rfl rfl rfl rfl hl.1 (Nat.le_of_ble_eq_true rfl) dX3_danger_20 ⟨Nat.zero_le _, Nat.zero_le _⟩ (fun H locs hP hD hS => ?_)
      obtain rfl := Option.some.inj hf
      exact W.iret (v := q5.1) hx hb hr (fun t ht hW => ⟨⟨q5.1, (), rfl, rfl, rf_mk ht hP hD⟩, hS.F ht⟩) hS.2.2 dX3_danger_23
  · have hf := rf_ifn hf c1
    refine lv_aload_n hx hb dX3_danger_4 rfl (lv_at hl 0 rfl) ?_
    refine lv_bipush (v := (-4)) hx hb dX3_danger_5 (by decide) ?_
    obtain ⟨q6, hq6, hf⟩ := rf_bindq hf
    refine rf_Vi (As := [.int (-4)]) (rest := []) (wr := [(a_this_s, .inl (cA, 22, .inl f_this_s))]) (wn := [(a_this, .inr (3, rf_o3 a_this_s a_this_image a_this_read a_this_mind a_this_letters a_this_row a_this_refused a_this_numbers a_this_cost g_this)), (a_this_s, .inl (cA, 22, .inl f_this_s)), (a_this_refused, .inl (cA, 7, .inl q6.2))]) ⟨hx, hb, hml, hown, hts⟩ hK hP hD hS hA hE (c_X3_no l D cA ad a_this a_this_s a_this_image a_this_read a_this_mind a_this_letters a_this_row a_this_refused a_this_numbers a_this_cost s.heap.size g_this f_this_refused (-4) q6 hq6) (cwV 1 hts gX3_danger_X3_no rfl rfl rfl hv_X3_no ⟨Nat.le_of_ble_eq_true rfl, Nat.le_of_ble_eq_true rfl⟩) [0, 2] [1] [1, 0, 2] rfl rfl rfl rfl (by decide) rfl rfl 3 0 rfl rfl rfl rfl rfl hl.1 (Nat.le_of_ble_eq_true rfl) dX3_danger_7 ⟨Nat.zero_le _, Nat.zero_le _⟩ (fun H locs hP hD hS => ?_)
    obtain rfl := Option.some.inj hf
    exact W.iret (v := q6.1) hx hb hr (fun t ht hW => ⟨⟨q6.1, (), rfl, rfl, rf_mk ht hP hD⟩, hS.F ht⟩) hS.2.2 dX3_danger_10
theorem kX3_areHeats_0 : (.fieldLink RX3 161 "RingAndFingerModel" "rowMany" "I" : Cond) ∈ wsX3_areHeats := by decide +kernel
theorem kX3_areHeats_1 : (.fieldLink RX3 25 "RingAndFingerModel" "row" "[I" : Cond) ∈ wsX3_areHeats := by decide +kernel
theorem jX3_areHeats_X3 : ∀ w ∈ u_ws RX3 TX3 16, w ∈ wsX3_areHeats := by decide +kernel
set_option maxHeartbeats 8000000 in
set_option maxRecDepth 100000 in
theorem c_X3_areHeats (l : Launch) (D : va_G) (cA : ClassId) (ad : Nat → Nat) (a_this a_this_s a_this_image a_this_read a_this_mind a_this_letters a_this_row a_this_refused a_this_numbers a_this_cost : Nat) (sz : Nat) (g_this f_this_row : Nat → Int32) (q : Int32) (hf : f_X3_areHeats g_this f_this_row = some q) : Met l yX3_areHeats wsX3_areHeats ({ frames := 0, cells := 0, slots := 0, locals := 0 } : Room) (va_Pc [.ref a_this] (rf_Pre D cA ad [(a_this, .inr (3, rf_o3 a_this_s a_this_image a_this_read a_this_mind a_this_letters a_this_row a_this_refused a_this_numbers a_this_cost g_this)), (a_this_row, .inl (cA, 12, .inl f_this_row))] sz)) (va_Qi (fun (r : Int32) (_ : Unit) => r = q) (fun _ t => rf_Post D (va_A [(a_this, .inr (3, rf_o3 a_this_s a_this_image a_this_read a_this_mind a_this_letters a_this_row a_this_refused a_this_numbers a_this_cost g_this)), (a_this_row, .inl (cA, 12, .inl f_this_row))] sz) [(a_this, .inr (3, rf_o3 a_this_s a_this_image a_this_read a_this_mind a_this_letters a_this_row a_this_refused a_this_numbers a_this_cost g_this)), (a_this_row, .inl (cA, 12, .inl f_this_row))] t) (va_A [(a_this, .inr (3, rf_o3 a_this_s a_this_image a_this_read a_this_mind a_this_letters a_this_row a_this_refused a_this_numbers a_this_cost g_this)), (a_this_row, .inl (cA, 12, .inl f_this_row))] sz)) 0 0 (va_A [(a_this, .inr (3, rf_o3 a_this_s a_this_image a_this_read a_this_mind a_this_letters a_this_row a_this_refused a_this_numbers a_this_cost g_this)), (a_this_row, .inl (cA, 12, .inl f_this_row))] sz) := by
  refine Met.ofW (cc := cX3_areHeats) (maxL := 2) (ret := (some .boolean)) (by decide) rfl ?_
  intro p e s m args below meth c s₁ B hml hv
  obtain ⟨rfl, hsz, hP, hK, hD0, hE⟩ := hv
  have hx := B.exec
  have hb := B.bytes
  have hr := B.returns
  have hts := atoms_spec (ws := wsX3_areHeats) B.pre
  have hown : s.vm.findClass RX3 = some m.cls := findClass_of_methodNamed B.named
  have hlocks := B.notSynchronized
  subst hsz
  have hD := hD0.self (sz := s.heap.size)
  generalize hAe : va_A [(a_this, .inr (3, rf_o3 a_this_s a_this_image a_this_read a_this_mind a_this_letters a_this_row a_this_refused a_this_numbers a_this_cost g_this)), (a_this_row, .inl (cA, 12, .inl f_this_row))] s.heap.size = A at hD hE ⊢
  have hA : ∀ q : Nat, s.heap.size ≤ q → A q := fun q h => by rw [← hAe]; exact Or.inr h
  have hS : va_S A s.heap s.heap [] := va_S.rf
  have hP : va_P D vwCl [(a_this, .inr (3, rf_o3 a_this_s a_this_image a_this_read a_this_mind a_this_letters a_this_row a_this_refused a_this_numbers a_this_cost g_this)), (a_this_row, .inl (cA, 12, .inl f_this_row))] s.heap := hP
  have hl := lv_entry ([.ref a_this]) (n := 2) (Nat.le_of_ble_eq_true rfl)
  rw [lg_entry_eq]
  generalize (lg_sl ([.ref a_this]) ++ List.replicate (2 - (lg_sl ([.ref a_this])).length) Slot.unset).toArray = ls at hl ⊢
  have hl : lv_has ls 2 [(0, .ref a_this)] := hl
  have key_2 : ∀ (n : Nat) (x1 : Int32) (ql : (Int32) ⊕ (Int32)), f_X3_areHeats_L2 g_this f_this_row n x1 = some ql → ∀ (H : Heap) (locs : List Loc) (ls : Array Slot), va_P D vwCl [(a_this, .inr (3, rf_o3 a_this_s a_this_image a_this_read a_this_mind a_this_letters a_this_row a_this_refused a_this_numbers a_this_cost g_this)), (a_this_row, .inl (cA, 12, .inl f_this_row))] H → va_D A [(a_this, .inr (3, rf_o3 a_this_s a_this_image a_this_read a_this_mind a_this_letters a_this_row a_this_refused a_this_numbers a_this_cost g_this)), (a_this_row, .inl (cA, 12, .inl f_this_row))] → va_S A s.heap H locs → lv_has ls 2 [(0, .ref a_this), (1, .int x1)] → (∀ r : Int32, ql = .inl r → r = q) → (∀ (x : Int32), ql = .inr x → ∀ (H : Heap) (locs : List Loc) (ls : Array Slot), va_P D vwCl [(a_this, .inr (3, rf_o3 a_this_s a_this_image a_this_read a_this_mind a_this_letters a_this_row a_this_refused a_this_numbers a_this_cost g_this)), (a_this_row, .inl (cA, 12, .inl f_this_row))] H → va_D A [(a_this, .inr (3, rf_o3 a_this_s a_this_image a_this_read a_this_mind a_this_letters a_this_row a_this_refused a_this_numbers a_this_cost g_this)), (a_this_row, .inl (cA, 12, .inl f_this_row))] → va_S A s.heap H locs → lv_has ls 2 [(0, .ref a_this), (1, .int x)] → W p l e (headSpec wsX3_areHeats ({ frames := 0, cells := 0, slots := 0, locals := 0 } : Room)).room s m ([.ref a_this] : List Value).toArray below meth c H locs 0 0 (MQ below (va_Qi (fun (r : Int32) (_ : Unit) => r = q) (fun _ t => rf_Post D A [(a_this, .inr (3, rf_o3 a_this_s a_this_image a_this_read a_this_mind a_this_letters a_this_row a_this_refused a_this_numbers a_this_cost g_this)), (a_this_row, .inl (cA, 12, .inl f_this_row))] t) A) ([.ref a_this] : List Value).toArray s 0 0 A) (F0 m 29 ls [])) → W p l e (headSpec wsX3_areHeats ({ frames := 0, cells := 0, slots := 0, locals := 0 } : Room)).room s m ([.ref a_this] : List Value).toArray below meth c H locs 0 0 (MQ below (va_Qi (fun (r : Int32) (_ : Unit) => r = q) (fun _ t => rf_Post D A [(a_this, .inr (3, rf_o3 a_this_s a_this_image a_this_read a_this_mind a_this_letters a_this_row a_this_refused a_this_numbers a_this_cost g_this)), (a_this_row, .inl (cA, 12, .inl f_this_row))] t) A) ([.ref a_this] : List Value).toArray s 0 0 A) (F0 m 2 ls []) := by
    intro n
    induction n with
    | zero =>
      intro x1 ql hf H locs ls hP hD hS hl hret kx
      exact absurd (show (none : Option ((Int32) ⊕ (Int32))) = some ql from hf) (fun h9 => by cases h9)
    | succ n ih =>
      intro x1 ql hf H locs ls hP hD hS hl hret kx
      rw [f_X3_areHeats_L2] at hf
      refine lv_iload_n hx hb dX3_areHeats_2 rfl (lv_at hl 1 rfl) ?_
      refine lv_aload_n hx hb dX3_areHeats_3 rfl (lv_at hl 0 rfl) ?_
      refine va_get (D := D) (ci := 3) (v := .int (g_this 2)) (C := RX3) (T := TX3) (N := 16) hx hb hts jX3_areHeats_X3 hown hK hP 0 rfl rfl 9 (by decide) (hts _ kX3_areHeats_0) (fun _ h9 => h9) rfl dX3_areHeats_4 ?_
      refine lv_icmp_ge (tgt := 29) hx hb dX3_areHeats_7 (by decide) (fun c1 => ?_) (fun c1 => ?_)
      · have hf := rf_ifp hf c1
        exact kx _ (Option.some.inj hf).symm _ _ _ hP hD hS (lv_sub hl [0, 1] rfl)
      · have hf := rf_ifn hf c1
        refine lv_aload_n hx hb dX3_areHeats_10 rfl (lv_at hl 0 rfl) ?_
        refine va_get (D := D) (ci := 3) (v := .ref a_this_row) (C := RX3) (T := TX3) (N := 16) hx hb hts jX3_areHeats_X3 hown hK hP 0 rfl rfl 6 (by decide) (hts _ kX3_areHeats_1) (fun _ h9 => h9) rfl dX3_areHeats_11 ?_
        refine lv_iload_n hx hb dX3_areHeats_14 rfl (lv_at hl 1 rfl) ?_
        obtain ⟨c2, hf⟩ := rf_chk hf
        refine va_iald hx hb hK hP 1 0 rfl rfl c2 dX3_areHeats_15 ?_
        refine lv_bipush (v := 9) hx hb dX3_areHeats_16 (by decide) ?_
        refine lv_icmp_le (tgt := 23) hx hb dX3_areHeats_18 (by decide) (fun c3 => ?_) (fun c3 => ?_)
        · have hf := rf_ifp hf c3
          obtain ⟨v4, ev4⟩ : ∃ y : Int32, y = x1 + 1 := ⟨_, rfl⟩
          have hf := rf_bindv hf ev4
          refine lv_iinc (v := v4) (lv' := [(1, .int v4), (0, .ref a_this)]) hx hb dX3_areHeats_23 hl (k := 1) rfl (by rw [ev4]; rfl) (by decide) rfl (fun ls hl => ?_)
          clear ev4
          refine lv_goto (tgt := 2) hx hb dX3_areHeats_26 (by decide) ?_
          exact ih v4 ql hf _ _ _ hP hD hS (lv_sub hl [1, 0] rfl) hret kx
        · have hf := rf_ifn hf c3
          refine lv_iconst (v := 0) hx hb dX3_areHeats_21 (by decide) ?_
          obtain rfl := hret _ (Option.some.inj hf).symm
          exact W.zret (v := 0) hx hb hr rfl (fun t ht hW => ⟨⟨0, (), rfl, rfl, rf_mk ht hP hD⟩, hS.F ht⟩) hS.2.2 dX3_areHeats_22
  rw [f_X3_areHeats] at hf
  refine lv_iconst (v := 0) hx hb dX3_areHeats_0 (by decide) ?_
  refine lv_istore_n (lv' := [(1, .int 0), (0, .ref a_this)]) hx hb dX3_areHeats_1 rfl hl (by decide) rfl (fun ls hl => ?_)
  obtain ⟨q5, hq5, hf⟩ := rf_bindq hf
  refine key_2 rf_fu 0 q5 hq5 _ _ _ hP hD hS (lv_sub hl [1, 0] rfl) (fun r h9 => ?_) (fun x6 h9 H locs ls hP hD hS hl => ?_)
  · subst h9
    exact Option.some.inj hf
  · subst h9
    have hf := rf_sumr hf
    refine lv_aload_n hx hb dX3_areHeats_29 rfl (lv_at hl 0 rfl) ?_
    refine va_get (D := D) (ci := 3) (v := .int (g_this 2)) (C := RX3) (T := TX3) (N := 16) hx hb hts jX3_areHeats_X3 hown hK hP 0 rfl rfl 9 (by decide) (hts _ kX3_areHeats_0) (fun _ h9 => h9) rfl dX3_areHeats_30 ?_
    refine lv_bipush (v := 12) hx hb dX3_areHeats_33 (by decide) ?_
    refine lv_icmp_ne (tgt := 42) hx hb dX3_areHeats_35 (by decide) (fun c7 => ?_) (fun c7 => ?_)
    · have hf := rf_ifn hf c7
      refine lv_iconst (v := 0) hx hb dX3_areHeats_42 (by decide) ?_
      obtain rfl := Option.some.inj hf
      exact W.zret (v := 0) hx hb hr rfl (fun t ht hW => ⟨⟨0, (), rfl, rfl, rf_mk ht hP hD⟩, hS.F ht⟩) hS.2.2 dX3_areHeats_43
    · have hf := rf_ifp hf c7
      refine lv_iconst (v := 1) hx hb dX3_areHeats_38 (by decide) ?_
      refine lv_goto (tgt := 43) hx hb dX3_areHeats_39 (by decide) ?_
      obtain rfl := Option.some.inj hf
      exact W.zret (v := 1) hx hb hr rfl (fun t ht hW => ⟨⟨1, (), rfl, rfl, rf_mk ht hP hD⟩, hS.F ht⟩) hS.2.2 dX3_areHeats_43
theorem kX3_sticksIn_0 : (.fieldLink RX3 9 "RingAndFingerModel" "s" "[I" : Cond) ∈ wsX3_sticksIn := by decide +kernel
theorem kX3_sticksIn_1 : (.fieldLink RX3 25 "RingAndFingerModel" "row" "[I" : Cond) ∈ wsX3_sticksIn := by decide +kernel
theorem jX3_sticksIn_X3 : ∀ w ∈ u_ws RX3 TX3 16, w ∈ wsX3_sticksIn := by decide +kernel
set_option maxHeartbeats 8000000 in
set_option maxRecDepth 100000 in
theorem c_X3_sticksIn (l : Launch) (D : va_G) (cA : ClassId) (ad : Nat → Nat) (a_this a_this_s a_this_image a_this_read a_this_mind a_this_letters a_this_row a_this_refused a_this_numbers a_this_cost : Nat) (sz : Nat) (g_this f_this_s f_this_row : Nat → Int32) (p1 p2 : Int32) (q : Int32) (hf : f_X3_sticksIn g_this f_this_s f_this_row p1 p2 = some q) : Met l yX3_sticksIn wsX3_sticksIn ({ frames := 3, cells := 0, slots := 0, locals := 71 } : Room) (va_Pc [.ref a_this, .int p1, .int p2] (rf_Pre D cA ad [(a_this, .inr (3, rf_o3 a_this_s a_this_image a_this_read a_this_mind a_this_letters a_this_row a_this_refused a_this_numbers a_this_cost g_this)), (a_this_s, .inl (cA, 22, .inl f_this_s)), (a_this_row, .inl (cA, 12, .inl f_this_row))] sz)) (va_Qi (fun (r : Int32) (_ : Unit) => r = q) (fun _ t => rf_Post D (va_A [(a_this, .inr (3, rf_o3 a_this_s a_this_image a_this_read a_this_mind a_this_letters a_this_row a_this_refused a_this_numbers a_this_cost g_this)), (a_this_s, .inl (cA, 22, .inl f_this_s)), (a_this_row, .inl (cA, 12, .inl f_this_row))] sz) [(a_this, .inr (3, rf_o3 a_this_s a_this_image a_this_read a_this_mind a_this_letters a_this_row a_this_refused a_this_numbers a_this_cost g_this)), (a_this_s, .inl (cA, 22, .inl f_this_s)), (a_this_row, .inl (cA, 12, .inl f_this_row))] t) (va_A [(a_this, .inr (3, rf_o3 a_this_s a_this_image a_this_read a_this_mind a_this_letters a_this_row a_this_refused a_this_numbers a_this_cost g_this)), (a_this_s, .inl (cA, 22, .inl f_this_s)), (a_this_row, .inl (cA, 12, .inl f_this_row))] sz)) 0 0 (va_A [(a_this, .inr (3, rf_o3 a_this_s a_this_image a_this_read a_this_mind a_this_letters a_this_row a_this_refused a_this_numbers a_this_cost g_this)), (a_this_s, .inl (cA, 22, .inl f_this_s)), (a_this_row, .inl (cA, 12, .inl f_this_row))] sz) := by
  refine Met.ofW (cc := cX3_sticksIn) (maxL := 5) (ret := (some .boolean)) (by decide) rfl ?_
  intro p e s m args below meth c s₁ B hml hv
  obtain ⟨rfl, hsz, hP, hK, hD0, hE⟩ := hv
  have hx := B.exec
  have hb := B.bytes
  have hr := B.returns
  have hts := atoms_spec (ws := wsX3_sticksIn) B.pre
  have hown : s.vm.findClass RX3 = some m.cls := findClass_of_methodNamed B.named
  have hlocks := B.notSynchronized
  subst hsz
  have hD := hD0.self (sz := s.heap.size)
  generalize hAe : va_A [(a_this, .inr (3, rf_o3 a_this_s a_this_image a_this_read a_this_mind a_this_letters a_this_row a_this_refused a_this_numbers a_this_cost g_this)), (a_this_s, .inl (cA, 22, .inl f_this_s)), (a_this_row, .inl (cA, 12, .inl f_this_row))] s.heap.size = A at hD hE ⊢
  have hA : ∀ q : Nat, s.heap.size ≤ q → A q := fun q h => by rw [← hAe]; exact Or.inr h
  have hS : va_S A s.heap s.heap [] := va_S.rf
  have hP : va_P D vwCl [(a_this, .inr (3, rf_o3 a_this_s a_this_image a_this_read a_this_mind a_this_letters a_this_row a_this_refused a_this_numbers a_this_cost g_this)), (a_this_s, .inl (cA, 22, .inl f_this_s)), (a_this_row, .inl (cA, 12, .inl f_this_row))] s.heap := hP
  have hl := lv_entry ([.ref a_this, .int p1, .int p2]) (n := 5) (Nat.le_of_ble_eq_true rfl)
  rw [lg_entry_eq]
  generalize (lg_sl ([.ref a_this, .int p1, .int p2]) ++ List.replicate (5 - (lg_sl ([.ref a_this, .int p1, .int p2])).length) Slot.unset).toArray = ls at hl ⊢
  have hl : lv_has ls 5 [(0, .ref a_this), (1, .int p1), (2, .int p2)] := hl
  have key_10 : ∀ (x3 : Int32) (n : Nat) (x4 : Int32) (ql : (Int32) ⊕ (Int32)), f_X3_sticksIn_L10 g_this f_this_s f_this_row p1 p2 x3 n x4 = some ql → ∀ (H : Heap) (locs : List Loc) (ls : Array Slot), va_P D vwCl [(a_this, .inr (3, rf_o3 a_this_s a_this_image a_this_read a_this_mind a_this_letters a_this_row a_this_refused a_this_numbers a_this_cost g_this)), (a_this_s, .inl (cA, 22, .inl f_this_s)), (a_this_row, .inl (cA, 12, .inl f_this_row))] H → va_D A [(a_this, .inr (3, rf_o3 a_this_s a_this_image a_this_read a_this_mind a_this_letters a_this_row a_this_refused a_this_numbers a_this_cost g_this)), (a_this_s, .inl (cA, 22, .inl f_this_s)), (a_this_row, .inl (cA, 12, .inl f_this_row))] → va_S A s.heap H locs → lv_has ls 5 [(0, .ref a_this), (2, .int p2), (3, .int x3), (4, .int x4)] → (∀ r : Int32, ql = .inl r → r = q) → (∀ (x : Int32), ql = .inr x → ∀ (H : Heap) (locs : List Loc) (ls : Array Slot), va_P D vwCl [(a_this, .inr (3, rf_o3 a_this_s a_this_image a_this_read a_this_mind a_this_letters a_this_row a_this_refused a_this_numbers a_this_cost g_this)), (a_this_s, .inl (cA, 22, .inl f_this_s)), (a_this_row, .inl (cA, 12, .inl f_this_row))] H → va_D A [(a_this, .inr (3, rf_o3 a_this_s a_this_image a_this_read a_this_mind a_this_letters a_this_row a_this_refused a_this_numbers a_this_cost g_this)), (a_this_s, .inl (cA, 22, .inl f_this_s)), (a_this_row, .inl (cA, 12, .inl f_this_row))] → va_S A s.heap H locs → lv_has ls 5 [(0, .ref a_this), (2, .int p2), (3, .int x3), (4, .int x)] → W p l e (headSpec wsX3_sticksIn ({ frames := 3, cells := 0, slots := 0, locals := 71 } : Room)).room s m ([.ref a_this, .int p1, .int p2] : List Value).toArray below meth c H locs 0 0 (MQ below (va_Qi (fun (r : Int32) (_ : Unit) => r = q) (fun _ t => rf_Post D A [(a_this, .inr (3, rf_o3 a_this_s a_this_image a_this_read a_this_mind a_this_letters a_this_row a_this_refused a_this_numbers a_this_cost g_this)), (a_this_s, .inl (cA, 22, .inl f_this_s)), (a_this_row, .inl (cA, 12, .inl f_this_row))] t) A) ([.ref a_this, .int p1, .int p2] : List Value).toArray s 0 0 A) (F0 m 49 ls [])) → W p l e (headSpec wsX3_sticksIn ({ frames := 3, cells := 0, slots := 0, locals := 71 } : Room)).room s m ([.ref a_this, .int p1, .int p2] : List Value).toArray below meth c H locs 0 0 (MQ below (va_Qi (fun (r : Int32) (_ : Unit) => r = q) (fun _ t => rf_Post D A [(a_this, .inr (3, rf_o3 a_this_s a_this_image a_this_read a_this_mind a_this_letters a_this_row a_this_refused a_this_numbers a_this_cost g_this)), (a_this_s, .inl (cA, 22, .inl f_this_s)), (a_this_row, .inl (cA, 12, .inl f_this_row))] t) A) ([.ref a_this, .int p1, .int p2] : List Value).toArray s 0 0 A) (F0 m 10 ls []) := by
    intro x3 n
    induction n with
    | zero =>
      intro x4 ql hf H locs ls hP hD hS hl hret kx
      exact absurd (show (none : Option ((Int32) ⊕ (Int32))) = some ql from hf) (fun h9 => by cases h9)
    | succ n ih =>
      intro x4 ql hf H locs ls hP hD hS hl hret kx
      rw [f_X3_sticksIn_L10] at hf
      refine lv_iload hx hb dX3_sticksIn_10 (lv_at hl 3 rfl) ?_
      refine lv_aload_n hx hb dX3_sticksIn_12 rfl (lv_at hl 0 rfl) ?_
      refine va_get (D := D) (ci := 3) (v := .ref a_this_s) (C := RX3) (T := TX3) (N := 16) hx hb hts jX3_sticksIn_X3 hown hK hP 0 rfl rfl 0 (by decide) (hts _ kX3_sticksIn_0) (fun _ h9 => h9) rfl dX3_sticksIn_13 ?_
      refine lv_iconst (v := 0) hx hb dX3_sticksIn_16 (by decide) ?_
      refine rf_ialoadk hx hb hK hP 1 0 rfl rfl (k := 0) (by decide) (by decide) (by decide) dX3_sticksIn_17 ?_
      refine lv_icmp_ge (tgt := 49) hx hb dX3_sticksIn_18 (by decide) (fun c1 => ?_) (fun c1 => ?_)
      · have hf := rf_ifp hf c1
        exact kx _ (Option.some.inj hf).symm _ _ _ hP hD hS (lv_sub hl [0, 1, 2, 3] rfl)
      · have hf := rf_ifn hf c1
        refine lv_aload_n hx hb dX3_sticksIn_21 rfl (lv_at hl 0 rfl) ?_
        refine lv_iload hx hb dX3_sticksIn_22 (lv_at hl 3 rfl) ?_
        refine lv_iconst (v := 2) hx hb dX3_sticksIn_24 (by decide) ?_
        refine lv_iload_n hx hb dX3_sticksIn_25 rfl (lv_at hl 2 rfl) ?_
        refine lv_imul hx hb dX3_sticksIn_26 ?_
        refine lv_bipush (v := 9) hx hb dX3_sticksIn_27 (by decide) ?_
        refine lv_iload_n hx hb dX3_sticksIn_29 rfl (lv_at hl 2 rfl) ?_
        refine lv_isub hx hb dX3_sticksIn_30 ?_
        refine lv_iload_n hx hb dX3_sticksIn_31 rfl (lv_at hl 2 rfl) ?_
        obtain ⟨q2, hq2, hf⟩ := rf_bindq hf
        refine rf_Vi (As := [.int x4, .int (2 * x3), .int (9 - x3), .int x3]) (rest := []) (wr := [(a_this_row, .inl (cA, 12, .inl f_this_row))]) (wn := [(a_this, .inr (3, rf_o3 a_this_s a_this_image a_this_read a_this_mind a_this_letters a_this_row a_this_refused a_this_numbers a_this_cost g_this)), (a_this_s, .inl (cA, 22, .inl f_this_s)), (a_this_row, .inl (cA, 12, .inl f_this_row))]) ⟨hx, hb, hml, hown, hts⟩ hK hP hD hS hA hE (c_X3_partBy l D cA ad a_this a_this_s a_this_image a_this_read a_this_mind a_this_letters a_this_row a_this_refused a_this_numbers a_this_cost H.size g_this f_this_s x4 (2 * x3) (9 - x3) x3 q2 hq2) (cwV 4 hts gX3_sticksIn_X3_partBy rfl rfl rfl hv_X3_partBy ⟨Nat.le_of_ble_eq_true rfl, Nat.le_of_ble_eq_true rfl⟩) [0, 1] [2] [1, 2, 0] rfl rfl rfl rfl (by decide) rfl rfl 3 0 rfl rfl rfl rfl rfl hl.1 (Nat.le_of_ble_eq_true rfl) dX3_sticksIn_32 ⟨Nat.zero_le _, Nat.zero_le _⟩ (fun H locs hP hD hS => ?_)
        refine lv_iload_n hx hb dX3_sticksIn_35 rfl (lv_at hl 1 rfl) ?_
        refine lv_iconst (v := 4) hx hb dX3_sticksIn_36 (by decide) ?_
        refine lv_iadd hx hb dX3_sticksIn_37 ?_
        refine lv_icmp_le (tgt := 43) hx hb dX3_sticksIn_38 (by decide) (fun c3 => ?_) (fun c3 => ?_)
        · have hf := rf_ifp hf c3
          obtain ⟨v4, ev4⟩ : ∃ y : Int32, y = x4 + 1 := ⟨_, rfl⟩
          have hf := rf_bindv hf ev4
          refine lv_iinc (v := v4) (lv' := [(4, .int v4), (0, .ref a_this), (2, .int p2), (3, .int x3)]) hx hb dX3_sticksIn_43 hl (k := 3) rfl (by rw [ev4]; rfl) (by decide) rfl (fun ls hl => ?_)
          clear ev4
          refine lv_goto (tgt := 10) hx hb dX3_sticksIn_46 (by decide) ?_
          exact ih v4 ql hf _ _ _ hP hD hS (lv_sub hl [1, 2, 3, 0] rfl) hret kx
        · have hf := rf_ifn hf c3
          refine lv_iconst (v := 1) hx hb dX3_sticksIn_41 (by decide) ?_
          obtain rfl := hret _ (Option.some.inj hf).symm
          exact W.zret (v := 1) hx hb hr rfl (fun t ht hW => ⟨⟨1, (), rfl, rfl, rf_mk ht hP hD⟩, hS.F ht⟩) hS.2.2 dX3_sticksIn_42
  rw [f_X3_sticksIn] at hf
  refine lv_aload_n hx hb dX3_sticksIn_0 rfl (lv_at hl 0 rfl) ?_
  refine va_get (D := D) (ci := 3) (v := .ref a_this_row) (C := RX3) (T := TX3) (N := 16) hx hb hts jX3_sticksIn_X3 hown hK hP 0 rfl rfl 6 (by decide) (hts _ kX3_sticksIn_1) (fun _ h9 => h9) rfl dX3_sticksIn_1 ?_
  refine lv_iload_n hx hb dX3_sticksIn_4 rfl (lv_at hl 1 rfl) ?_
  obtain ⟨c5, hf⟩ := rf_chk hf
  refine va_iald hx hb hK hP 2 0 rfl rfl c5 dX3_sticksIn_5 ?_
  refine lv_topi (fun v6 ev6 => ?_)
  have hf := rf_bindv hf ev6
  clear ev6
  refine lv_istore_n (lv' := [(3, .int v6), (0, .ref a_this), (1, .int p1), (2, .int p2)]) hx hb dX3_sticksIn_6 rfl hl (by decide) rfl (fun ls hl => ?_)
  refine lv_iconst (v := 0) hx hb dX3_sticksIn_7 (by decide) ?_
  refine lv_istore (lv' := [(4, .int 0), (3, .int v6), (0, .ref a_this), (1, .int p1), (2, .int p2)]) hx hb dX3_sticksIn_8 hl (by decide) rfl (fun ls hl => ?_)
  obtain ⟨q7, hq7, hf⟩ := rf_bindq hf
  refine key_10 v6 rf_fu 0 q7 hq7 _ _ _ hP hD hS (lv_sub hl [2, 4, 1, 0] rfl) (fun r h9 => ?_) (fun x8 h9 H locs ls hP hD hS hl => ?_)
  · subst h9
    exact Option.some.inj hf
  · subst h9
    have hf := rf_sumr hf
    refine lv_iconst (v := 0) hx hb dX3_sticksIn_49 (by decide) ?_
    obtain rfl := Option.some.inj hf
    exact W.zret (v := 0) hx hb hr rfl (fun t ht hW => ⟨⟨0, (), rfl, rfl, rf_mk ht hP hD⟩, hS.F ht⟩) hS.2.2 dX3_sticksIn_50
theorem kX3_fallsIn_0 : (.fieldLink RX3 9 "RingAndFingerModel" "s" "[I" : Cond) ∈ wsX3_fallsIn := by decide +kernel
theorem kX3_fallsIn_1 : (.fieldLink RX3 25 "RingAndFingerModel" "row" "[I" : Cond) ∈ wsX3_fallsIn := by decide +kernel
theorem jX3_fallsIn_X3 : ∀ w ∈ u_ws RX3 TX3 16, w ∈ wsX3_fallsIn := by decide +kernel
set_option maxHeartbeats 8000000 in
set_option maxRecDepth 100000 in
theorem c_X3_fallsIn (l : Launch) (D : va_G) (cA : ClassId) (ad : Nat → Nat) (a_this a_this_s a_this_image a_this_read a_this_mind a_this_letters a_this_row a_this_refused a_this_numbers a_this_cost : Nat) (sz : Nat) (g_this f_this_s f_this_row : Nat → Int32) (p1 p2 : Int32) (q : Int32) (hf : f_X3_fallsIn g_this f_this_s f_this_row p1 p2 = some q) : Met l yX3_fallsIn wsX3_fallsIn ({ frames := 3, cells := 0, slots := 0, locals := 71 } : Room) (va_Pc [.ref a_this, .int p1, .int p2] (rf_Pre D cA ad [(a_this, .inr (3, rf_o3 a_this_s a_this_image a_this_read a_this_mind a_this_letters a_this_row a_this_refused a_this_numbers a_this_cost g_this)), (a_this_s, .inl (cA, 22, .inl f_this_s)), (a_this_row, .inl (cA, 12, .inl f_this_row))] sz)) (va_Qi (fun (r : Int32) (_ : Unit) => r = q) (fun _ t => rf_Post D (va_A [(a_this, .inr (3, rf_o3 a_this_s a_this_image a_this_read a_this_mind a_this_letters a_this_row a_this_refused a_this_numbers a_this_cost g_this)), (a_this_s, .inl (cA, 22, .inl f_this_s)), (a_this_row, .inl (cA, 12, .inl f_this_row))] sz) [(a_this, .inr (3, rf_o3 a_this_s a_this_image a_this_read a_this_mind a_this_letters a_this_row a_this_refused a_this_numbers a_this_cost g_this)), (a_this_s, .inl (cA, 22, .inl f_this_s)), (a_this_row, .inl (cA, 12, .inl f_this_row))] t) (va_A [(a_this, .inr (3, rf_o3 a_this_s a_this_image a_this_read a_this_mind a_this_letters a_this_row a_this_refused a_this_numbers a_this_cost g_this)), (a_this_s, .inl (cA, 22, .inl f_this_s)), (a_this_row, .inl (cA, 12, .inl f_this_row))] sz)) 0 0 (va_A [(a_this, .inr (3, rf_o3 a_this_s a_this_image a_this_read a_this_mind a_this_letters a_this_row a_this_refused a_this_numbers a_this_cost g_this)), (a_this_s, .inl (cA, 22, .inl f_this_s)), (a_this_row, .inl (cA, 12, .inl f_this_row))] sz) := by
  refine Met.ofW (cc := cX3_fallsIn) (maxL := 5) (ret := (some .boolean)) (by decide) rfl ?_
  intro p e s m args below meth c s₁ B hml hv
  obtain ⟨rfl, hsz, hP, hK, hD0, hE⟩ := hv
  have hx := B.exec
  have hb := B.bytes
  have hr := B.returns
  have hts := atoms_spec (ws := wsX3_fallsIn) B.pre
  have hown : s.vm.findClass RX3 = some m.cls := findClass_of_methodNamed B.named
  have hlocks := B.notSynchronized
  subst hsz
  have hD := hD0.self (sz := s.heap.size)
  generalize hAe : va_A [(a_this, .inr (3, rf_o3 a_this_s a_this_image a_this_read a_this_mind a_this_letters a_this_row a_this_refused a_this_numbers a_this_cost g_this)), (a_this_s, .inl (cA, 22, .inl f_this_s)), (a_this_row, .inl (cA, 12, .inl f_this_row))] s.heap.size = A at hD hE ⊢
  have hA : ∀ q : Nat, s.heap.size ≤ q → A q := fun q h => by rw [← hAe]; exact Or.inr h
  have hS : va_S A s.heap s.heap [] := va_S.rf
  have hP : va_P D vwCl [(a_this, .inr (3, rf_o3 a_this_s a_this_image a_this_read a_this_mind a_this_letters a_this_row a_this_refused a_this_numbers a_this_cost g_this)), (a_this_s, .inl (cA, 22, .inl f_this_s)), (a_this_row, .inl (cA, 12, .inl f_this_row))] s.heap := hP
  have hl := lv_entry ([.ref a_this, .int p1, .int p2]) (n := 5) (Nat.le_of_ble_eq_true rfl)
  rw [lg_entry_eq]
  generalize (lg_sl ([.ref a_this, .int p1, .int p2]) ++ List.replicate (5 - (lg_sl ([.ref a_this, .int p1, .int p2])).length) Slot.unset).toArray = ls at hl ⊢
  have hl : lv_has ls 5 [(0, .ref a_this), (1, .int p1), (2, .int p2)] := hl
  have key_10 : ∀ (x3 : Int32) (n : Nat) (x4 : Int32) (ql : (Int32) ⊕ (Int32)), f_X3_fallsIn_L10 g_this f_this_s f_this_row p1 p2 x3 n x4 = some ql → ∀ (H : Heap) (locs : List Loc) (ls : Array Slot), va_P D vwCl [(a_this, .inr (3, rf_o3 a_this_s a_this_image a_this_read a_this_mind a_this_letters a_this_row a_this_refused a_this_numbers a_this_cost g_this)), (a_this_s, .inl (cA, 22, .inl f_this_s)), (a_this_row, .inl (cA, 12, .inl f_this_row))] H → va_D A [(a_this, .inr (3, rf_o3 a_this_s a_this_image a_this_read a_this_mind a_this_letters a_this_row a_this_refused a_this_numbers a_this_cost g_this)), (a_this_s, .inl (cA, 22, .inl f_this_s)), (a_this_row, .inl (cA, 12, .inl f_this_row))] → va_S A s.heap H locs → lv_has ls 5 [(0, .ref a_this), (2, .int p2), (3, .int x3), (4, .int x4)] → (∀ r : Int32, ql = .inl r → r = q) → (∀ (x : Int32), ql = .inr x → ∀ (H : Heap) (locs : List Loc) (ls : Array Slot), va_P D vwCl [(a_this, .inr (3, rf_o3 a_this_s a_this_image a_this_read a_this_mind a_this_letters a_this_row a_this_refused a_this_numbers a_this_cost g_this)), (a_this_s, .inl (cA, 22, .inl f_this_s)), (a_this_row, .inl (cA, 12, .inl f_this_row))] H → va_D A [(a_this, .inr (3, rf_o3 a_this_s a_this_image a_this_read a_this_mind a_this_letters a_this_row a_this_refused a_this_numbers a_this_cost g_this)), (a_this_s, .inl (cA, 22, .inl f_this_s)), (a_this_row, .inl (cA, 12, .inl f_this_row))] → va_S A s.heap H locs → lv_has ls 5 [(0, .ref a_this), (2, .int p2), (3, .int x3), (4, .int x)] → W p l e (headSpec wsX3_fallsIn ({ frames := 3, cells := 0, slots := 0, locals := 71 } : Room)).room s m ([.ref a_this, .int p1, .int p2] : List Value).toArray below meth c H locs 0 0 (MQ below (va_Qi (fun (r : Int32) (_ : Unit) => r = q) (fun _ t => rf_Post D A [(a_this, .inr (3, rf_o3 a_this_s a_this_image a_this_read a_this_mind a_this_letters a_this_row a_this_refused a_this_numbers a_this_cost g_this)), (a_this_s, .inl (cA, 22, .inl f_this_s)), (a_this_row, .inl (cA, 12, .inl f_this_row))] t) A) ([.ref a_this, .int p1, .int p2] : List Value).toArray s 0 0 A) (F0 m 50 ls [])) → W p l e (headSpec wsX3_fallsIn ({ frames := 3, cells := 0, slots := 0, locals := 71 } : Room)).room s m ([.ref a_this, .int p1, .int p2] : List Value).toArray below meth c H locs 0 0 (MQ below (va_Qi (fun (r : Int32) (_ : Unit) => r = q) (fun _ t => rf_Post D A [(a_this, .inr (3, rf_o3 a_this_s a_this_image a_this_read a_this_mind a_this_letters a_this_row a_this_refused a_this_numbers a_this_cost g_this)), (a_this_s, .inl (cA, 22, .inl f_this_s)), (a_this_row, .inl (cA, 12, .inl f_this_row))] t) A) ([.ref a_this, .int p1, .int p2] : List Value).toArray s 0 0 A) (F0 m 10 ls []) := by
    intro x3 n
    induction n with
    | zero =>
      intro x4 ql hf H locs ls hP hD hS hl hret kx
      exact absurd (show (none : Option ((Int32) ⊕ (Int32))) = some ql from hf) (fun h9 => by cases h9)
    | succ n ih =>
      intro x4 ql hf H locs ls hP hD hS hl hret kx
      rw [f_X3_fallsIn_L10] at hf
      refine lv_iload hx hb dX3_fallsIn_10 (lv_at hl 3 rfl) ?_
      refine lv_aload_n hx hb dX3_fallsIn_12 rfl (lv_at hl 0 rfl) ?_
      refine va_get (D := D) (ci := 3) (v := .ref a_this_s) (C := RX3) (T := TX3) (N := 16) hx hb hts jX3_fallsIn_X3 hown hK hP 0 rfl rfl 0 (by decide) (hts _ kX3_fallsIn_0) (fun _ h9 => h9) rfl dX3_fallsIn_13 ?_
      refine lv_iconst (v := 0) hx hb dX3_fallsIn_16 (by decide) ?_
      refine rf_ialoadk hx hb hK hP 1 0 rfl rfl (k := 0) (by decide) (by decide) (by decide) dX3_fallsIn_17 ?_
      refine lv_icmp_ge (tgt := 50) hx hb dX3_fallsIn_18 (by decide) (fun c1 => ?_) (fun c1 => ?_)
      · have hf := rf_ifp hf c1
        exact kx _ (Option.some.inj hf).symm _ _ _ hP hD hS (lv_sub hl [0, 1, 2, 3] rfl)
      · have hf := rf_ifn hf c1
        refine lv_aload_n hx hb dX3_fallsIn_21 rfl (lv_at hl 0 rfl) ?_
        refine lv_iload hx hb dX3_fallsIn_22 (lv_at hl 3 rfl) ?_
        refine lv_iconst (v := 2) hx hb dX3_fallsIn_24 (by decide) ?_
        refine lv_iload_n hx hb dX3_fallsIn_25 rfl (lv_at hl 2 rfl) ?_
        refine lv_imul hx hb dX3_fallsIn_26 ?_
        refine lv_bipush (v := 9) hx hb dX3_fallsIn_27 (by decide) ?_
        refine lv_iload_n hx hb dX3_fallsIn_29 rfl (lv_at hl 2 rfl) ?_
        refine lv_isub hx hb dX3_fallsIn_30 ?_
        refine lv_iload_n hx hb dX3_fallsIn_31 rfl (lv_at hl 2 rfl) ?_
        obtain ⟨q2, hq2, hf⟩ := rf_bindq hf
        refine rf_Vi (As := [.int x4, .int (2 * x3), .int (9 - x3), .int x3]) (rest := []) (wr := [(a_this_row, .inl (cA, 12, .inl f_this_row))]) (wn := [(a_this, .inr (3, rf_o3 a_this_s a_this_image a_this_read a_this_mind a_this_letters a_this_row a_this_refused a_this_numbers a_this_cost g_this)), (a_this_s, .inl (cA, 22, .inl f_this_s)), (a_this_row, .inl (cA, 12, .inl f_this_row))]) ⟨hx, hb, hml, hown, hts⟩ hK hP hD hS hA hE (c_X3_partBy l D cA ad a_this a_this_s a_this_image a_this_read a_this_mind a_this_letters a_this_row a_this_refused a_this_numbers a_this_cost H.size g_this f_this_s x4 (2 * x3) (9 - x3) x3 q2 hq2) (cwV 4 hts gX3_fallsIn_X3_partBy rfl rfl rfl hv_X3_partBy ⟨Nat.le_of_ble_eq_true rfl, Nat.le_of_ble_eq_true rfl⟩) [0, 1] [2] [1, 2, 0] rfl rfl rfl rfl (by decide) rfl rfl 3 0 rfl rfl rfl rfl rfl hl.1 (Nat.le_of_ble_eq_true rfl) dX3_fallsIn_32 ⟨Nat.zero_le _, Nat.zero_le _⟩ (fun H locs hP hD hS => ?_)
        refine lv_iload_n hx hb dX3_fallsIn_35 rfl (lv_at hl 1 rfl) ?_
        refine lv_bipush (v := 9) hx hb dX3_fallsIn_36 (by decide) ?_
        refine lv_isub hx hb dX3_fallsIn_38 ?_
        refine lv_icmp_lt (tgt := 44) hx hb dX3_fallsIn_39 (by decide) (fun c3 => ?_) (fun c3 => ?_)
        · have hf := rf_ifp hf c3
          obtain ⟨v4, ev4⟩ : ∃ y : Int32, y = x4 + 1 := ⟨_, rfl⟩
          have hf := rf_bindv hf ev4
          refine lv_iinc (v := v4) (lv' := [(4, .int v4), (0, .ref a_this), (2, .int p2), (3, .int x3)]) hx hb dX3_fallsIn_44 hl (k := 3) rfl (by rw [ev4]; rfl) (by decide) rfl (fun ls hl => ?_)
          clear ev4
          refine lv_goto (tgt := 10) hx hb dX3_fallsIn_47 (by decide) ?_
          exact ih v4 ql hf _ _ _ hP hD hS (lv_sub hl [1, 2, 3, 0] rfl) hret kx
        · have hf := rf_ifn hf c3
          refine lv_iconst (v := 0) hx hb dX3_fallsIn_42 (by decide) ?_
          obtain rfl := hret _ (Option.some.inj hf).symm
          exact W.zret (v := 0) hx hb hr rfl (fun t ht hW => ⟨⟨0, (), rfl, rfl, rf_mk ht hP hD⟩, hS.F ht⟩) hS.2.2 dX3_fallsIn_43
  rw [f_X3_fallsIn] at hf
  refine lv_aload_n hx hb dX3_fallsIn_0 rfl (lv_at hl 0 rfl) ?_
  refine va_get (D := D) (ci := 3) (v := .ref a_this_row) (C := RX3) (T := TX3) (N := 16) hx hb hts jX3_fallsIn_X3 hown hK hP 0 rfl rfl 6 (by decide) (hts _ kX3_fallsIn_1) (fun _ h9 => h9) rfl dX3_fallsIn_1 ?_
  refine lv_iload_n hx hb dX3_fallsIn_4 rfl (lv_at hl 1 rfl) ?_
  obtain ⟨c5, hf⟩ := rf_chk hf
  refine va_iald hx hb hK hP 2 0 rfl rfl c5 dX3_fallsIn_5 ?_
  refine lv_topi (fun v6 ev6 => ?_)
  have hf := rf_bindv hf ev6
  clear ev6
  refine lv_istore_n (lv' := [(3, .int v6), (0, .ref a_this), (1, .int p1), (2, .int p2)]) hx hb dX3_fallsIn_6 rfl hl (by decide) rfl (fun ls hl => ?_)
  refine lv_iconst (v := 0) hx hb dX3_fallsIn_7 (by decide) ?_
  refine lv_istore (lv' := [(4, .int 0), (3, .int v6), (0, .ref a_this), (1, .int p1), (2, .int p2)]) hx hb dX3_fallsIn_8 hl (by decide) rfl (fun ls hl => ?_)
  obtain ⟨q7, hq7, hf⟩ := rf_bindq hf
  refine key_10 v6 rf_fu 0 q7 hq7 _ _ _ hP hD hS (lv_sub hl [2, 4, 1, 0] rfl) (fun r h9 => ?_) (fun x8 h9 H locs ls hP hD hS hl => ?_)
  · subst h9
    exact Option.some.inj hf
  · subst h9
    have hf := rf_sumr hf
    refine lv_iconst (v := 1) hx hb dX3_fallsIn_50 (by decide) ?_
    obtain rfl := Option.some.inj hf
    exact W.zret (v := 1) hx hb hr rfl (fun t ht hW => ⟨⟨1, (), rfl, rfl, rf_mk ht hP hD⟩, hS.F ht⟩) hS.2.2 dX3_fallsIn_51

set_option maxHeartbeats 8000000 in
set_option maxRecDepth 100000 in
theorem c_X3_wrongSize (l : Launch) (D : va_G) (cA : ClassId) (ad : Nat → Nat) (a_this a_this_s a_this_image a_this_read a_this_mind a_this_letters a_this_row a_this_refused a_this_numbers a_this_cost : Nat) (sz : Nat) (g_this f_this_row : Nat → Int32) (p1 : Int32) (q : Int32) (hf : f_X3_wrongSize g_this f_this_row p1 = some q) : Met l yX3_wrongSize wsX3_wrongSize ({ frames := 1, cells := 0, slots := 0, locals := 21 } : Room) (va_Pc [.ref a_this, .int p1] (rf_Pre D cA ad [(a_this, .inr (3, rf_o3 a_this_s a_this_image a_this_read a_this_mind a_this_letters a_this_row a_this_refused a_this_numbers a_this_cost g_this)), (a_this_row, .inl (cA, 12, .inl f_this_row))] sz)) (va_Qi (fun (r : Int32) (_ : Unit) => r = q) (fun _ t => rf_Post D (va_A [(a_this, .inr (3, rf_o3 a_this_s a_this_image a_this_read a_this_mind a_this_letters a_this_row a_this_refused a_this_numbers a_this_cost g_this)), (a_this_row, .inl (cA, 12, .inl f_this_row))] sz) [(a_this, .inr (3, rf_o3 a_this_s a_this_image a_this_read a_this_mind a_this_letters a_this_row a_this_refused a_this_numbers a_this_cost g_this)), (a_this_row, .inl (cA, 12, .inl f_this_row))] t) (va_A [(a_this, .inr (3, rf_o3 a_this_s a_this_image a_this_read a_this_mind a_this_letters a_this_row a_this_refused a_this_numbers a_this_cost g_this)), (a_this_row, .inl (cA, 12, .inl f_this_row))] sz)) 0 0 (va_A [(a_this, .inr (3, rf_o3 a_this_s a_this_image a_this_read a_this_mind a_this_letters a_this_row a_this_refused a_this_numbers a_this_cost g_this)), (a_this_row, .inl (cA, 12, .inl f_this_row))] sz) := by
  refine Met.ofW (cc := cX3_wrongSize) (maxL := 2) (ret := (some .int)) (by decide) rfl ?_
  intro p e s m args below meth c s₁ B hml hv
  obtain ⟨rfl, hsz, hP, hK, hD0, hE⟩ := hv
  have hx := B.exec
  have hb := B.bytes
  have hr := B.returns
  have hts := atoms_spec (ws := wsX3_wrongSize) B.pre
  have hown : s.vm.findClass RX3 = some m.cls := findClass_of_methodNamed B.named
  have hlocks := B.notSynchronized
  subst hsz
  have hD := hD0.self (sz := s.heap.size)
  generalize hAe : va_A [(a_this, .inr (3, rf_o3 a_this_s a_this_image a_this_read a_this_mind a_this_letters a_this_row a_this_refused a_this_numbers a_this_cost g_this)), (a_this_row, .inl (cA, 12, .inl f_this_row))] s.heap.size = A at hD hE ⊢
  have hA : ∀ q : Nat, s.heap.size ≤ q → A q := fun q h => by rw [← hAe]; exact Or.inr h
  have hS : va_S A s.heap s.heap [] := va_S.rf
  have hP : va_P D vwCl [(a_this, .inr (3, rf_o3 a_this_s a_this_image a_this_read a_this_mind a_this_letters a_this_row a_this_refused a_this_numbers a_this_cost g_this)), (a_this_row, .inl (cA, 12, .inl f_this_row))] s.heap := hP
  have hl := lv_entry ([.ref a_this, .int p1]) (n := 2) (Nat.le_of_ble_eq_true rfl)
  rw [lg_entry_eq]
  generalize (lg_sl ([.ref a_this, .int p1]) ++ List.replicate (2 - (lg_sl ([.ref a_this, .int p1])).length) Slot.unset).toArray = ls at hl ⊢
  have hl : lv_has ls 2 [(0, .ref a_this), (1, .int p1)] := hl
  rw [f_X3_wrongSize] at hf
  refine lv_iload_n hx hb dX3_wrongSize_0 rfl (lv_at hl 1 rfl) ?_
  refine lv_bipush (v := 100) hx hb dX3_wrongSize_1 (by decide) ?_
  refine lv_icmp_ge (tgt := 11) hx hb dX3_wrongSize_3 (by decide) (fun c1 => ?_) (fun c1 => ?_)
  · have hf := rf_ifp hf c1
    refine lv_iload_n hx hb dX3_wrongSize_11 rfl (lv_at hl 1 rfl) ?_
    refine lv_sipush (v := 250) hx hb dX3_wrongSize_12 (by decide) ?_
    refine lv_icmp_le (tgt := 23) hx hb dX3_wrongSize_15 (by decide) (fun c2 => ?_) (fun c2 => ?_)
    · have hf := rf_ifp hf c2
      refine lv_aload_n hx hb dX3_wrongSize_23 rfl (lv_at hl 0 rfl) ?_
      obtain ⟨q3, hq3, hf⟩ := rf_bindq hf
      refine rf_Vi (As := []) (rest := []) (wr := []) (wn := [(a_this, .inr (3, rf_o3 a_this_s a_this_image a_this_read a_this_mind a_this_letters a_this_row a_this_refused a_this_numbers a_this_cost g_this)), (a_this_row, .inl (cA, 12, .inl f_this_row))]) ⟨hx, hb, hml, hown, hts⟩ hK hP hD hS hA hE (c_X3_areHeats l D cA ad a_this a_this_s a_this_image a_this_read a_this_mind a_this_letters a_this_row a_this_refused a_this_numbers a_this_cost s.heap.size g_this f_this_row q3 hq3) (cwV 0 hts gX3_wrongSize_X3_areHeats rfl rfl rfl hv_X3_areHeats ⟨Nat.le_of_ble_eq_true rfl, Nat.le_of_ble_eq_true rfl⟩) [0, 1] [] [0, 1] rfl rfl rfl rfl (by decide) rfl rfl 3 0 rfl rfl rfl rfl rfl hl.1 (Nat.le_of_ble_eq_true rfl) dX3_wrongSize_24 ⟨Nat.zero_le _, Nat.zero_le _⟩ (fun H locs hP hD hS => ?_)
      refine lv_if_eq (tgt := 34) hx hb dX3_wrongSize_27 (by decide) (fun c4 => ?_) (fun c4 => ?_)
      · have hf := rf_ifp hf c4
        refine lv_bipush (v := (-3)) hx hb dX3_wrongSize_34 (by decide) ?_
        obtain rfl := Option.some.inj hf
        exact W.iret (v := (-3)) hx hb hr (fun t ht hW => ⟨⟨(-3), (), rfl, rfl, rf_mk ht hP hD⟩, hS.F ht⟩) hS.2.2 dX3_wrongSize_36
      · have hf := rf_ifn hf c4
        refine lv_iconst (v := 0) hx hb dX3_wrongSize_30 (by decide) ?_
        refine lv_goto (tgt := 36) hx hb dX3_wrongSize_31 (by decide) ?_
        obtain rfl := Option.some.inj hf
        exact W.iret (v := 0) hx hb hr (fun t ht hW => ⟨⟨0, (), rfl, rfl, rf_mk ht hP hD⟩, hS.F ht⟩) hS.2.2 dX3_wrongSize_36
    · have hf := rf_ifn hf c2
      refine lv_bipush (v := (-6)) hx hb dX3_wrongSize_18 (by decide) ?_
      refine lv_goto (tgt := 36) hx hb dX3_wrongSize_20 (by decide) ?_
      obtain rfl := Option.some.inj hf
      exact W.iret (v := (-6)) hx hb hr (fun t ht hW => ⟨⟨(-6), (), rfl, rfl, rf_mk ht hP hD⟩, hS.F ht⟩) hS.2.2 dX3_wrongSize_36
  · have hf := rf_ifn hf c1
    refine lv_bipush (v := (-4)) hx hb dX3_wrongSize_6 (by decide) ?_
    refine lv_goto (tgt := 36) hx hb dX3_wrongSize_8 (by decide) ?_
    obtain rfl := Option.some.inj hf
    exact W.iret (v := (-4)) hx hb hr (fun t ht hW => ⟨⟨(-4), (), rfl, rfl, rf_mk ht hP hD⟩, hS.F ht⟩) hS.2.2 dX3_wrongSize_36

set_option maxHeartbeats 8000000 in
set_option maxRecDepth 100000 in
theorem c_X3_sticks (l : Launch) (D : va_G) (cA : ClassId) (ad : Nat → Nat) (a_this a_this_s a_this_image a_this_read a_this_mind a_this_letters a_this_row a_this_refused a_this_numbers a_this_cost : Nat) (sz : Nat) (g_this f_this_s f_this_row f_this_refused : Nat → Int32) (p1 : Int32) (q : Int32 × (Nat → Int32)) (hf : f_X3_sticks g_this f_this_s f_this_row f_this_refused p1 = some q) : Met l yX3_sticks wsX3_sticks ({ frames := 4, cells := 0, slots := 0, locals := 95 } : Room) (va_Pc [.ref a_this, .int p1] (rf_Pre D cA ad [(a_this, .inr (3, rf_o3 a_this_s a_this_image a_this_read a_this_mind a_this_letters a_this_row a_this_refused a_this_numbers a_this_cost g_this)), (a_this_s, .inl (cA, 22, .inl f_this_s)), (a_this_row, .inl (cA, 12, .inl f_this_row)), (a_this_refused, .inl (cA, 7, .inl f_this_refused))] sz)) (va_Qi (fun (r : Int32) (_ : Unit) => r = q.1) (fun _ t => rf_Post D (va_A [(a_this, .inr (3, rf_o3 a_this_s a_this_image a_this_read a_this_mind a_this_letters a_this_row a_this_refused a_this_numbers a_this_cost g_this)), (a_this_s, .inl (cA, 22, .inl f_this_s)), (a_this_row, .inl (cA, 12, .inl f_this_row)), (a_this_refused, .inl (cA, 7, .inl f_this_refused))] sz) [(a_this, .inr (3, rf_o3 a_this_s a_this_image a_this_read a_this_mind a_this_letters a_this_row a_this_refused a_this_numbers a_this_cost g_this)), (a_this_s, .inl (cA, 22, .inl f_this_s)), (a_this_row, .inl (cA, 12, .inl f_this_row)), (a_this_refused, .inl (cA, 7, .inl q.2))] t) (va_A [(a_this, .inr (3, rf_o3 a_this_s a_this_image a_this_read a_this_mind a_this_letters a_this_row a_this_refused a_this_numbers a_this_cost g_this)), (a_this_s, .inl (cA, 22, .inl f_this_s)), (a_this_row, .inl (cA, 12, .inl f_this_row)), (a_this_refused, .inl (cA, 7, .inl f_this_refused))] sz)) 0 0 (va_A [(a_this, .inr (3, rf_o3 a_this_s a_this_image a_this_read a_this_mind a_this_letters a_this_row a_this_refused a_this_numbers a_this_cost g_this)), (a_this_s, .inl (cA, 22, .inl f_this_s)), (a_this_row, .inl (cA, 12, .inl f_this_row)), (a_this_refused, .inl (cA, 7, .inl f_this_refused))] sz) := by
  refine Met.ofW (cc := cX3_sticks) (maxL := 5) (ret := (some .int)) (by decide) rfl ?_
  intro p e s m args below meth c s₁ B hml hv
  obtain ⟨rfl, hsz, hP, hK, hD0, hE⟩ := hv
  have hx := B.exec
  have hb := B.bytes
  have hr := B.returns
  have hts := atoms_spec (ws := wsX3_sticks) B.pre
  have hown : s.vm.findClass RX3 = some m.cls := findClass_of_methodNamed B.named
  have hlocks := B.notSynchronized
  subst hsz
  have hD := hD0.self (sz := s.heap.size)
  generalize hAe : va_A [(a_this, .inr (3, rf_o3 a_this_s a_this_image a_this_read a_this_mind a_this_letters a_this_row a_this_refused a_this_numbers a_this_cost g_this)), (a_this_s, .inl (cA, 22, .inl f_this_s)), (a_this_row, .inl (cA, 12, .inl f_this_row)), (a_this_refused, .inl (cA, 7, .inl f_this_refused))] s.heap.size = A at hD hE ⊢
  have hA : ∀ q : Nat, s.heap.size ≤ q → A q := fun q h => by rw [← hAe]; exact Or.inr h
  have hS : va_S A s.heap s.heap [] := va_S.rf
  have hP : va_P D vwCl [(a_this, .inr (3, rf_o3 a_this_s a_this_image a_this_read a_this_mind a_this_letters a_this_row a_this_refused a_this_numbers a_this_cost g_this)), (a_this_s, .inl (cA, 22, .inl f_this_s)), (a_this_row, .inl (cA, 12, .inl f_this_row)), (a_this_refused, .inl (cA, 7, .inl f_this_refused))] s.heap := hP
  have hl := lv_entry ([.ref a_this, .int p1]) (n := 5) (Nat.le_of_ble_eq_true rfl)
  rw [lg_entry_eq]
  generalize (lg_sl ([.ref a_this, .int p1]) ++ List.replicate (5 - (lg_sl ([.ref a_this, .int p1])).length) Slot.unset).toArray = ls at hl ⊢
  have hl : lv_has ls 5 [(0, .ref a_this), (1, .int p1)] := hl
  have key_21 : ∀ (yf_this_refused : Nat → Int32) (n : Nat) (x3 x4 : Int32) (ql : Int32 × Int32), f_X3_sticks_L21 g_this f_this_s f_this_row p1 yf_this_refused n x3 x4 = some ql → ∀ (H : Heap) (locs : List Loc) (ls : Array Slot), va_P D vwCl [(a_this, .inr (3, rf_o3 a_this_s a_this_image a_this_read a_this_mind a_this_letters a_this_row a_this_refused a_this_numbers a_this_cost g_this)), (a_this_s, .inl (cA, 22, .inl f_this_s)), (a_this_row, .inl (cA, 12, .inl f_this_row)), (a_this_refused, .inl (cA, 7, .inl yf_this_refused))] H → va_D A [(a_this, .inr (3, rf_o3 a_this_s a_this_image a_this_read a_this_mind a_this_letters a_this_row a_this_refused a_this_numbers a_this_cost g_this)), (a_this_s, .inl (cA, 22, .inl f_this_s)), (a_this_row, .inl (cA, 12, .inl f_this_row)), (a_this_refused, .inl (cA, 7, .inl yf_this_refused))] → va_S A s.heap H locs → lv_has ls 5 [(0, .ref a_this), (1, .int p1), (3, .int x3), (4, .int x4)] → (∀ (H : Heap) (locs : List Loc) (ls : Array Slot), va_P D vwCl [(a_this, .inr (3, rf_o3 a_this_s a_this_image a_this_read a_this_mind a_this_letters a_this_row a_this_refused a_this_numbers a_this_cost g_this)), (a_this_s, .inl (cA, 22, .inl f_this_s)), (a_this_row, .inl (cA, 12, .inl f_this_row)), (a_this_refused, .inl (cA, 7, .inl yf_this_refused))] H → va_D A [(a_this, .inr (3, rf_o3 a_this_s a_this_image a_this_read a_this_mind a_this_letters a_this_row a_this_refused a_this_numbers a_this_cost g_this)), (a_this_s, .inl (cA, 22, .inl f_this_s)), (a_this_row, .inl (cA, 12, .inl f_this_row)), (a_this_refused, .inl (cA, 7, .inl yf_this_refused))] → va_S A s.heap H locs → lv_has ls 5 [(0, .ref a_this), (1, .int p1), (3, .int ql.1), (4, .int ql.2)] → W p l e (headSpec wsX3_sticks ({ frames := 4, cells := 0, slots := 0, locals := 95 } : Room)).room s m ([.ref a_this, .int p1] : List Value).toArray below meth c H locs 0 0 (MQ below (va_Qi (fun (r : Int32) (_ : Unit) => r = q.1) (fun _ t => rf_Post D A [(a_this, .inr (3, rf_o3 a_this_s a_this_image a_this_read a_this_mind a_this_letters a_this_row a_this_refused a_this_numbers a_this_cost g_this)), (a_this_s, .inl (cA, 22, .inl f_this_s)), (a_this_row, .inl (cA, 12, .inl f_this_row)), (a_this_refused, .inl (cA, 7, .inl q.2))] t) A) ([.ref a_this, .int p1] : List Value).toArray s 0 0 A) (F0 m 55 ls [])) → W p l e (headSpec wsX3_sticks ({ frames := 4, cells := 0, slots := 0, locals := 95 } : Room)).room s m ([.ref a_this, .int p1] : List Value).toArray below meth c H locs 0 0 (MQ below (va_Qi (fun (r : Int32) (_ : Unit) => r = q.1) (fun _ t => rf_Post D A [(a_this, .inr (3, rf_o3 a_this_s a_this_image a_this_read a_this_mind a_this_letters a_this_row a_this_refused a_this_numbers a_this_cost g_this)), (a_this_s, .inl (cA, 22, .inl f_this_s)), (a_this_row, .inl (cA, 12, .inl f_this_row)), (a_this_refused, .inl (cA, 7, .inl q.2))] t) A) ([.ref a_this, .int p1] : List Value).toArray s 0 0 A) (F0 m 21 ls []) := by
    intro yf_this_refused n
    induction n with
    | zero =>
      intro x3 x4 ql hf H locs ls hP hD hS hl kx
      exact absurd (show (none : Option (Int32 × Int32)) = some ql from hf) (fun h9 => by cases h9)
    | succ n ih =>
      intro x3 x4 ql hf H locs ls hP hD hS hl kx
      rw [f_X3_sticks_L21] at hf
      refine lv_iload hx hb dX3_sticks_21 (lv_at hl 3 rfl) ?_
      refine lv_bipush (v := 12) hx hb dX3_sticks_23 (by decide) ?_
      refine lv_icmp_ge (tgt := 55) hx hb dX3_sticks_25 (by decide) (fun c1 => ?_) (fun c1 => ?_)
      · have hf := rf_ifp hf c1
        obtain rfl := Option.some.inj hf
        exact kx _ _ _ hP hD hS (lv_sub hl [0, 1, 2, 3] rfl)
      · have hf := rf_ifn hf c1
        refine lv_iload_n hx hb dX3_sticks_28 rfl (lv_at hl 2 rfl) ?_
        refine lv_aload_n hx hb dX3_sticks_29 rfl (lv_at hl 0 rfl) ?_
        refine lv_iload hx hb dX3_sticks_30 (lv_at hl 3 rfl) ?_
        refine lv_iload_n hx hb dX3_sticks_32 rfl (lv_at hl 1 rfl) ?_
        obtain ⟨q2, hq2, hf⟩ := rf_bindq hf
        refine rf_Vi (As := [.int x4, .int p1]) (rest := [.int x3]) (wr := [(a_this_refused, .inl (cA, 7, .inl yf_this_refused))]) (wn := [(a_this, .inr (3, rf_o3 a_this_s a_this_image a_this_read a_this_mind a_this_letters a_this_row a_this_refused a_this_numbers a_this_cost g_this)), (a_this_s, .inl (cA, 22, .inl f_this_s)), (a_this_row, .inl (cA, 12, .inl f_this_row)), (a_this_refused, .inl (cA, 7, .inl yf_this_refused))]) ⟨hx, hb, hml, hown, hts⟩ hK hP hD hS hA hE (c_X3_sticksIn l D cA ad a_this a_this_s a_this_image a_this_read a_this_mind a_this_letters a_this_row a_this_refused a_this_numbers a_this_cost H.size g_this f_this_s f_this_row x4 p1 q2 hq2) (cwV 2 hts gX3_sticks_X3_sticksIn rfl rfl rfl hv_X3_sticksIn ⟨Nat.le_of_ble_eq_true rfl, Nat.le_of_ble_eq_true rfl⟩) [0, 1, 2] [3] [1, 2, 3, 0] rfl rfl rfl rfl (by decide) rfl rfl 3 0 rfl rfl rfl rfl rfl hl.1 (Nat.le_of_ble_eq_true rfl) dX3_sticks_33 ⟨Nat.zero_le _, Nat.zero_le _⟩ (fun H locs hP hD hS => ?_)
        refine lv_if_eq (tgt := 46) hx hb dX3_sticks_36 (by decide) (fun c3 => ?_) (fun c3 => ?_)
        · have hf := rf_ifp hf c3
          refine lv_iconst (v := 0) hx hb dX3_sticks_46 (by decide) ?_
          refine lv_ior hx hb dX3_sticks_47 ?_
          refine lv_topi (fun v4 ev4 => ?_)
          have hf := rf_bindv hf ev4
          clear ev4
          refine lv_istore_n (lv' := [(3, .int v4), (0, .ref a_this), (1, .int p1), (4, .int x4)]) hx hb dX3_sticks_48 rfl hl (by decide) rfl (fun ls hl => ?_)
          obtain ⟨v5, ev5⟩ : ∃ y : Int32, y = x4 + 1 := ⟨_, rfl⟩
          have hf := rf_bindv hf ev5
          refine lv_iinc (v := v5) (lv' := [(4, .int v5), (3, .int v4), (0, .ref a_this), (1, .int p1)]) hx hb dX3_sticks_49 hl (k := 3) rfl (by rw [ev5]; rfl) (by decide) rfl (fun ls hl => ?_)
          clear ev5
          refine lv_goto (tgt := 21) hx hb dX3_sticks_52 (by decide) ?_
          exact ih v4 v5 ql hf _ _ _ hP hD hS (lv_sub hl [2, 3, 1, 0] rfl) kx
        · have hf := rf_ifn hf c3
          refine lv_iconst (v := 1) hx hb dX3_sticks_39 (by decide) ?_
          refine lv_iload hx hb dX3_sticks_40 (lv_at hl 3 rfl) ?_
          refine lv_ishl hx hb dX3_sticks_42 ?_
          refine lv_goto (tgt := 47) hx hb dX3_sticks_43 (by decide) ?_
          refine lv_ior hx hb dX3_sticks_47 ?_
          refine lv_topi (fun v6 ev6 => ?_)
          have hf := rf_bindv hf ev6
          clear ev6
          refine lv_istore_n (lv' := [(3, .int v6), (0, .ref a_this), (1, .int p1), (4, .int x4)]) hx hb dX3_sticks_48 rfl hl (by decide) rfl (fun ls hl => ?_)
          obtain ⟨v7, ev7⟩ : ∃ y : Int32, y = x4 + 1 := ⟨_, rfl⟩
          have hf := rf_bindv hf ev7
          refine lv_iinc (v := v7) (lv' := [(4, .int v7), (3, .int v6), (0, .ref a_this), (1, .int p1)]) hx hb dX3_sticks_49 hl (k := 3) rfl (by rw [ev7]; rfl) (by decide) rfl (fun ls hl => ?_)
          clear ev7
          refine lv_goto (tgt := 21) hx hb dX3_sticks_52 (by decide) ?_
          exact ih v6 v7 ql hf _ _ _ hP hD hS (lv_sub hl [2, 3, 1, 0] rfl) kx
  rw [f_X3_sticks] at hf
  refine lv_aload_n hx hb dX3_sticks_0 rfl (lv_at hl 0 rfl) ?_
  refine lv_iload_n hx hb dX3_sticks_1 rfl (lv_at hl 1 rfl) ?_
  obtain ⟨q8, hq8, hf⟩ := rf_bindq hf
  refine rf_Vi (As := [.int p1]) (rest := []) (wr := [(a_this_s, .inl (cA, 22, .inl f_this_s)), (a_this_refused, .inl (cA, 7, .inl f_this_refused))]) (wn := [(a_this, .inr (3, rf_o3 a_this_s a_this_image a_this_read a_this_mind a_this_letters a_this_row a_this_refused a_this_numbers a_this_cost g_this)), (a_this_s, .inl (cA, 22, .inl f_this_s)), (a_this_row, .inl (cA, 12, .inl f_this_row)), (a_this_refused, .inl (cA, 7, .inl f_this_refused))]) ⟨hx, hb, hml, hown, hts⟩ hK hP hD hS hA hE (c_X3_wrongSize l D cA ad a_this a_this_s a_this_image a_this_read a_this_mind a_this_letters a_this_row a_this_refused a_this_numbers a_this_cost s.heap.size g_this f_this_row p1 q8 hq8) (cwV 1 hts gX3_sticks_X3_wrongSize rfl rfl rfl hv_X3_wrongSize ⟨Nat.le_of_ble_eq_true rfl, Nat.le_of_ble_eq_true rfl⟩) [0, 2] [1, 3] [2, 0, 3, 1] rfl rfl rfl rfl (by decide) rfl rfl 3 0 rfl rfl rfl rfl rfl hl.1 (Nat.le_of_ble_eq_true rfl) dX3_sticks_2 ⟨Nat.zero_le _, Nat.zero_le _⟩ (fun H locs hP hD hS => ?_)
  refine lv_istore_n (lv' := [(2, .int q8), (0, .ref a_this), (1, .int p1)]) hx hb dX3_sticks_5 rfl hl (by decide) rfl (fun ls hl => ?_)
  refine lv_iload_n hx hb dX3_sticks_6 rfl (lv_at hl 0 rfl) ?_
  refine lv_if_eq (tgt := 16) hx hb dX3_sticks_7 (by decide) (fun c9 => ?_) (fun c9 => ?_)
  · have hf := rf_ifp hf c9
    refine lv_iconst (v := 0) hx hb dX3_sticks_16 (by decide) ?_
    refine lv_istore_n (lv' := [(3, .int 0), (2, .int q8), (0, .ref a_this), (1, .int p1)]) hx hb dX3_sticks_17 rfl hl (by decide) rfl (fun ls hl => ?_)
    refine lv_iconst (v := 0) hx hb dX3_sticks_18 (by decide) ?_
    refine lv_istore (lv' := [(4, .int 0), (3, .int 0), (2, .int q8), (0, .ref a_this), (1, .int p1)]) hx hb dX3_sticks_19 hl (by decide) rfl (fun ls hl => ?_)
    obtain ⟨q10, hq10, hf⟩ := rf_bindq hf
    refine key_21 f_this_refused rf_fu 0 0 q10 hq10 _ _ _ hP hD hS (lv_sub hl [3, 4, 1, 0] rfl) (fun H locs ls hP hD hS hl => ?_)
    refine lv_iload_n hx hb dX3_sticks_55 rfl (lv_at hl 2 rfl) ?_
    obtain rfl := Option.some.inj hf
    exact W.iret (v := q10.1) hx hb hr (fun t ht hW => ⟨⟨q10.1, (), rfl, rfl, rf_mk ht hP hD⟩, hS.F ht⟩) hS.2.2 dX3_sticks_56
  · have hf := rf_ifn hf c9
    refine lv_aload_n hx hb dX3_sticks_10 rfl (lv_at hl 1 rfl) ?_
    refine lv_iload_n hx hb dX3_sticks_11 rfl (lv_at hl 0 rfl) ?_
    obtain ⟨q11, hq11, hf⟩ := rf_bindq hf
    refine rf_Vi (As := [.int q8]) (rest := []) (wr := [(a_this_s, .inl (cA, 22, .inl f_this_s)), (a_this_row, .inl (cA, 12, .inl f_this_row))]) (wn := [(a_this, .inr (3, rf_o3 a_this_s a_this_image a_this_read a_this_mind a_this_letters a_this_row a_this_refused a_this_numbers a_this_cost g_this)), (a_this_s, .inl (cA, 22, .inl f_this_s)), (a_this_row, .inl (cA, 12, .inl f_this_row)), (a_this_refused, .inl (cA, 7, .inl q11.2))]) ⟨hx, hb, hml, hown, hts⟩ hK hP hD hS hA hE (c_X3_no l D cA ad a_this a_this_s a_this_image a_this_read a_this_mind a_this_letters a_this_row a_this_refused a_this_numbers a_this_cost H.size g_this f_this_refused q8 q11 hq11) (cwV 1 hts gX3_sticks_X3_no rfl rfl rfl hv_X3_no ⟨Nat.le_of_ble_eq_true rfl, Nat.le_of_ble_eq_true rfl⟩) [0, 3] [1, 2] [2, 0, 1, 3] rfl rfl rfl rfl (by decide) rfl rfl 3 0 rfl rfl rfl rfl rfl hl.1 (Nat.le_of_ble_eq_true rfl) dX3_sticks_12 ⟨Nat.zero_le _, Nat.zero_le _⟩ (fun H locs hP hD hS => ?_)
    obtain rfl := Option.some.inj hf
    exact W.iret (v := q11.1) hx hb hr (fun t ht hW => ⟨⟨q11.1, (), rfl, rfl, rf_mk ht hP hD⟩, hS.F ht⟩) hS.2.2 dX3_sticks_15

set_option maxHeartbeats 8000000 in
set_option maxRecDepth 100000 in
theorem c_X3_falls (l : Launch) (D : va_G) (cA : ClassId) (ad : Nat → Nat) (a_this a_this_s a_this_image a_this_read a_this_mind a_this_letters a_this_row a_this_refused a_this_numbers a_this_cost : Nat) (sz : Nat) (g_this f_this_s f_this_row f_this_refused : Nat → Int32) (p1 : Int32) (q : Int32 × (Nat → Int32)) (hf : f_X3_falls g_this f_this_s f_this_row f_this_refused p1 = some q) : Met l yX3_falls wsX3_falls ({ frames := 4, cells := 0, slots := 0, locals := 95 } : Room) (va_Pc [.ref a_this, .int p1] (rf_Pre D cA ad [(a_this, .inr (3, rf_o3 a_this_s a_this_image a_this_read a_this_mind a_this_letters a_this_row a_this_refused a_this_numbers a_this_cost g_this)), (a_this_s, .inl (cA, 22, .inl f_this_s)), (a_this_row, .inl (cA, 12, .inl f_this_row)), (a_this_refused, .inl (cA, 7, .inl f_this_refused))] sz)) (va_Qi (fun (r : Int32) (_ : Unit) => r = q.1) (fun _ t => rf_Post D (va_A [(a_this, .inr (3, rf_o3 a_this_s a_this_image a_this_read a_this_mind a_this_letters a_this_row a_this_refused a_this_numbers a_this_cost g_this)), (a_this_s, .inl (cA, 22, .inl f_this_s)), (a_this_row, .inl (cA, 12, .inl f_this_row)), (a_this_refused, .inl (cA, 7, .inl f_this_refused))] sz) [(a_this, .inr (3, rf_o3 a_this_s a_this_image a_this_read a_this_mind a_this_letters a_this_row a_this_refused a_this_numbers a_this_cost g_this)), (a_this_s, .inl (cA, 22, .inl f_this_s)), (a_this_row, .inl (cA, 12, .inl f_this_row)), (a_this_refused, .inl (cA, 7, .inl q.2))] t) (va_A [(a_this, .inr (3, rf_o3 a_this_s a_this_image a_this_read a_this_mind a_this_letters a_this_row a_this_refused a_this_numbers a_this_cost g_this)), (a_this_s, .inl (cA, 22, .inl f_this_s)), (a_this_row, .inl (cA, 12, .inl f_this_row)), (a_this_refused, .inl (cA, 7, .inl f_this_refused))] sz)) 0 0 (va_A [(a_this, .inr (3, rf_o3 a_this_s a_this_image a_this_read a_this_mind a_this_letters a_this_row a_this_refused a_this_numbers a_this_cost g_this)), (a_this_s, .inl (cA, 22, .inl f_this_s)), (a_this_row, .inl (cA, 12, .inl f_this_row)), (a_this_refused, .inl (cA, 7, .inl f_this_refused))] sz) := by
  refine Met.ofW (cc := cX3_falls) (maxL := 5) (ret := (some .int)) (by decide) rfl ?_
  intro p e s m args below meth c s₁ B hml hv
  obtain ⟨rfl, hsz, hP, hK, hD0, hE⟩ := hv
  have hx := B.exec
  have hb := B.bytes
  have hr := B.returns
  have hts := atoms_spec (ws := wsX3_falls) B.pre
  have hown : s.vm.findClass RX3 = some m.cls := findClass_of_methodNamed B.named
  have hlocks := B.notSynchronized
  subst hsz
  have hD := hD0.self (sz := s.heap.size)
  generalize hAe : va_A [(a_this, .inr (3, rf_o3 a_this_s a_this_image a_this_read a_this_mind a_this_letters a_this_row a_this_refused a_this_numbers a_this_cost g_this)), (a_this_s, .inl (cA, 22, .inl f_this_s)), (a_this_row, .inl (cA, 12, .inl f_this_row)), (a_this_refused, .inl (cA, 7, .inl f_this_refused))] s.heap.size = A at hD hE ⊢
  have hA : ∀ q : Nat, s.heap.size ≤ q → A q := fun q h => by rw [← hAe]; exact Or.inr h
  have hS : va_S A s.heap s.heap [] := va_S.rf
  have hP : va_P D vwCl [(a_this, .inr (3, rf_o3 a_this_s a_this_image a_this_read a_this_mind a_this_letters a_this_row a_this_refused a_this_numbers a_this_cost g_this)), (a_this_s, .inl (cA, 22, .inl f_this_s)), (a_this_row, .inl (cA, 12, .inl f_this_row)), (a_this_refused, .inl (cA, 7, .inl f_this_refused))] s.heap := hP
  have hl := lv_entry ([.ref a_this, .int p1]) (n := 5) (Nat.le_of_ble_eq_true rfl)
  rw [lg_entry_eq]
  generalize (lg_sl ([.ref a_this, .int p1]) ++ List.replicate (5 - (lg_sl ([.ref a_this, .int p1])).length) Slot.unset).toArray = ls at hl ⊢
  have hl : lv_has ls 5 [(0, .ref a_this), (1, .int p1)] := hl
  have key_21 : ∀ (yf_this_refused : Nat → Int32) (n : Nat) (x3 x4 : Int32) (ql : Int32 × Int32), f_X3_falls_L21 g_this f_this_s f_this_row p1 yf_this_refused n x3 x4 = some ql → ∀ (H : Heap) (locs : List Loc) (ls : Array Slot), va_P D vwCl [(a_this, .inr (3, rf_o3 a_this_s a_this_image a_this_read a_this_mind a_this_letters a_this_row a_this_refused a_this_numbers a_this_cost g_this)), (a_this_s, .inl (cA, 22, .inl f_this_s)), (a_this_row, .inl (cA, 12, .inl f_this_row)), (a_this_refused, .inl (cA, 7, .inl yf_this_refused))] H → va_D A [(a_this, .inr (3, rf_o3 a_this_s a_this_image a_this_read a_this_mind a_this_letters a_this_row a_this_refused a_this_numbers a_this_cost g_this)), (a_this_s, .inl (cA, 22, .inl f_this_s)), (a_this_row, .inl (cA, 12, .inl f_this_row)), (a_this_refused, .inl (cA, 7, .inl yf_this_refused))] → va_S A s.heap H locs → lv_has ls 5 [(0, .ref a_this), (1, .int p1), (3, .int x3), (4, .int x4)] → (∀ (H : Heap) (locs : List Loc) (ls : Array Slot), va_P D vwCl [(a_this, .inr (3, rf_o3 a_this_s a_this_image a_this_read a_this_mind a_this_letters a_this_row a_this_refused a_this_numbers a_this_cost g_this)), (a_this_s, .inl (cA, 22, .inl f_this_s)), (a_this_row, .inl (cA, 12, .inl f_this_row)), (a_this_refused, .inl (cA, 7, .inl yf_this_refused))] H → va_D A [(a_this, .inr (3, rf_o3 a_this_s a_this_image a_this_read a_this_mind a_this_letters a_this_row a_this_refused a_this_numbers a_this_cost g_this)), (a_this_s, .inl (cA, 22, .inl f_this_s)), (a_this_row, .inl (cA, 12, .inl f_this_row)), (a_this_refused, .inl (cA, 7, .inl yf_this_refused))] → va_S A s.heap H locs → lv_has ls 5 [(0, .ref a_this), (1, .int p1), (3, .int ql.1), (4, .int ql.2)] → W p l e (headSpec wsX3_falls ({ frames := 4, cells := 0, slots := 0, locals := 95 } : Room)).room s m ([.ref a_this, .int p1] : List Value).toArray below meth c H locs 0 0 (MQ below (va_Qi (fun (r : Int32) (_ : Unit) => r = q.1) (fun _ t => rf_Post D A [(a_this, .inr (3, rf_o3 a_this_s a_this_image a_this_read a_this_mind a_this_letters a_this_row a_this_refused a_this_numbers a_this_cost g_this)), (a_this_s, .inl (cA, 22, .inl f_this_s)), (a_this_row, .inl (cA, 12, .inl f_this_row)), (a_this_refused, .inl (cA, 7, .inl q.2))] t) A) ([.ref a_this, .int p1] : List Value).toArray s 0 0 A) (F0 m 55 ls [])) → W p l e (headSpec wsX3_falls ({ frames := 4, cells := 0, slots := 0, locals := 95 } : Room)).room s m ([.ref a_this, .int p1] : List Value).toArray below meth c H locs 0 0 (MQ below (va_Qi (fun (r : Int32) (_ : Unit) => r = q.1) (fun _ t => rf_Post D A [(a_this, .inr (3, rf_o3 a_this_s a_this_image a_this_read a_this_mind a_this_letters a_this_row a_this_refused a_this_numbers a_this_cost g_this)), (a_this_s, .inl (cA, 22, .inl f_this_s)), (a_this_row, .inl (cA, 12, .inl f_this_row)), (a_this_refused, .inl (cA, 7, .inl q.2))] t) A) ([.ref a_this, .int p1] : List Value).toArray s 0 0 A) (F0 m 21 ls []) := by
    intro yf_this_refused n
    induction n with
    | zero =>
      intro x3 x4 ql hf H locs ls hP hD hS hl kx
      exact absurd (show (none : Option (Int32 × Int32)) = some ql from hf) (fun h9 => by cases h9)
    | succ n ih =>
      intro x3 x4 ql hf H locs ls hP hD hS hl kx
      rw [f_X3_falls_L21] at hf
      refine lv_iload hx hb dX3_falls_21 (lv_at hl 3 rfl) ?_
      refine lv_bipush (v := 12) hx hb dX3_falls_23 (by decide) ?_
      refine lv_icmp_ge (tgt := 55) hx hb dX3_falls_25 (by decide) (fun c1 => ?_) (fun c1 => ?_)
      · have hf := rf_ifp hf c1
        obtain rfl := Option.some.inj hf
        exact kx _ _ _ hP hD hS (lv_sub hl [0, 1, 2, 3] rfl)
      · have hf := rf_ifn hf c1
        refine lv_iload_n hx hb dX3_falls_28 rfl (lv_at hl 2 rfl) ?_
        refine lv_aload_n hx hb dX3_falls_29 rfl (lv_at hl 0 rfl) ?_
        refine lv_iload hx hb dX3_falls_30 (lv_at hl 3 rfl) ?_
        refine lv_iload_n hx hb dX3_falls_32 rfl (lv_at hl 1 rfl) ?_
        obtain ⟨q2, hq2, hf⟩ := rf_bindq hf
        refine rf_Vi (As := [.int x4, .int p1]) (rest := [.int x3]) (wr := [(a_this_refused, .inl (cA, 7, .inl yf_this_refused))]) (wn := [(a_this, .inr (3, rf_o3 a_this_s a_this_image a_this_read a_this_mind a_this_letters a_this_row a_this_refused a_this_numbers a_this_cost g_this)), (a_this_s, .inl (cA, 22, .inl f_this_s)), (a_this_row, .inl (cA, 12, .inl f_this_row)), (a_this_refused, .inl (cA, 7, .inl yf_this_refused))]) ⟨hx, hb, hml, hown, hts⟩ hK hP hD hS hA hE (c_X3_fallsIn l D cA ad a_this a_this_s a_this_image a_this_read a_this_mind a_this_letters a_this_row a_this_refused a_this_numbers a_this_cost H.size g_this f_this_s f_this_row x4 p1 q2 hq2) (cwV 2 hts gX3_falls_X3_fallsIn rfl rfl rfl hv_X3_fallsIn ⟨Nat.le_of_ble_eq_true rfl, Nat.le_of_ble_eq_true rfl⟩) [0, 1, 2] [3] [1, 2, 3, 0] rfl rfl rfl rfl (by decide) rfl rfl 3 0 rfl rfl rfl rfl rfl hl.1 (Nat.le_of_ble_eq_true rfl) dX3_falls_33 ⟨Nat.zero_le _, Nat.zero_le _⟩ (fun H locs hP hD hS => ?_)
        refine lv_if_eq (tgt := 46) hx hb dX3_falls_36 (by decide) (fun c3 => ?_) (fun c3 => ?_)
        · have hf := rf_ifp hf c3
          refine lv_iconst (v := 0) hx hb dX3_falls_46 (by decide) ?_
          refine lv_ior hx hb dX3_falls_47 ?_
          refine lv_topi (fun v4 ev4 => ?_)
          have hf := rf_bindv hf ev4
          clear ev4
          refine lv_istore_n (lv' := [(3, .int v4), (0, .ref a_this), (1, .int p1), (4, .int x4)]) hx hb dX3_falls_48 rfl hl (by decide) rfl (fun ls hl => ?_)
          obtain ⟨v5, ev5⟩ : ∃ y : Int32, y = x4 + 1 := ⟨_, rfl⟩
          have hf := rf_bindv hf ev5
          refine lv_iinc (v := v5) (lv' := [(4, .int v5), (3, .int v4), (0, .ref a_this), (1, .int p1)]) hx hb dX3_falls_49 hl (k := 3) rfl (by rw [ev5]; rfl) (by decide) rfl (fun ls hl => ?_)
          clear ev5
          refine lv_goto (tgt := 21) hx hb dX3_falls_52 (by decide) ?_
          exact ih v4 v5 ql hf _ _ _ hP hD hS (lv_sub hl [2, 3, 1, 0] rfl) kx
        · have hf := rf_ifn hf c3
          refine lv_iconst (v := 1) hx hb dX3_falls_39 (by decide) ?_
          refine lv_iload hx hb dX3_falls_40 (lv_at hl 3 rfl) ?_
          refine lv_ishl hx hb dX3_falls_42 ?_
          refine lv_goto (tgt := 47) hx hb dX3_falls_43 (by decide) ?_
          refine lv_ior hx hb dX3_falls_47 ?_
          refine lv_topi (fun v6 ev6 => ?_)
          have hf := rf_bindv hf ev6
          clear ev6
          refine lv_istore_n (lv' := [(3, .int v6), (0, .ref a_this), (1, .int p1), (4, .int x4)]) hx hb dX3_falls_48 rfl hl (by decide) rfl (fun ls hl => ?_)
          obtain ⟨v7, ev7⟩ : ∃ y : Int32, y = x4 + 1 := ⟨_, rfl⟩
          have hf := rf_bindv hf ev7
          refine lv_iinc (v := v7) (lv' := [(4, .int v7), (3, .int v6), (0, .ref a_this), (1, .int p1)]) hx hb dX3_falls_49 hl (k := 3) rfl (by rw [ev7]; rfl) (by decide) rfl (fun ls hl => ?_)
          clear ev7
          refine lv_goto (tgt := 21) hx hb dX3_falls_52 (by decide) ?_
          exact ih v6 v7 ql hf _ _ _ hP hD hS (lv_sub hl [2, 3, 1, 0] rfl) kx
  rw [f_X3_falls] at hf
  refine lv_aload_n hx hb dX3_falls_0 rfl (lv_at hl 0 rfl) ?_
  refine lv_iload_n hx hb dX3_falls_1 rfl (lv_at hl 1 rfl) ?_
  obtain ⟨q8, hq8, hf⟩ := rf_bindq hf
  refine rf_Vi (As := [.int p1]) (rest := []) (wr := [(a_this_s, .inl (cA, 22, .inl f_this_s)), (a_this_refused, .inl (cA, 7, .inl f_this_refused))]) (wn := [(a_this, .inr (3, rf_o3 a_this_s a_this_image a_this_read a_this_mind a_this_letters a_this_row a_this_refused a_this_numbers a_this_cost g_this)), (a_this_s, .inl (cA, 22, .inl f_this_s)), (a_this_row, .inl (cA, 12, .inl f_this_row)), (a_this_refused, .inl (cA, 7, .inl f_this_refused))]) ⟨hx, hb, hml, hown, hts⟩ hK hP hD hS hA hE (c_X3_wrongSize l D cA ad a_this a_this_s a_this_image a_this_read a_this_mind a_this_letters a_this_row a_this_refused a_this_numbers a_this_cost s.heap.size g_this f_this_row p1 q8 hq8) (cwV 1 hts gX3_falls_X3_wrongSize rfl rfl rfl hv_X3_wrongSize ⟨Nat.le_of_ble_eq_true rfl, Nat.le_of_ble_eq_true rfl⟩) [0, 2] [1, 3] [2, 0, 3, 1] rfl rfl rfl rfl (by decide) rfl rfl 3 0 rfl rfl rfl rfl rfl hl.1 (Nat.le_of_ble_eq_true rfl) dX3_falls_2 ⟨Nat.zero_le _, Nat.zero_le _⟩ (fun H locs hP hD hS => ?_)
  refine lv_istore_n (lv' := [(2, .int q8), (0, .ref a_this), (1, .int p1)]) hx hb dX3_falls_5 rfl hl (by decide) rfl (fun ls hl => ?_)
  refine lv_iload_n hx hb dX3_falls_6 rfl (lv_at hl 0 rfl) ?_
  refine lv_if_eq (tgt := 16) hx hb dX3_falls_7 (by decide) (fun c9 => ?_) (fun c9 => ?_)
  · have hf := rf_ifp hf c9
    refine lv_iconst (v := 0) hx hb dX3_falls_16 (by decide) ?_
    refine lv_istore_n (lv' := [(3, .int 0), (2, .int q8), (0, .ref a_this), (1, .int p1)]) hx hb dX3_falls_17 rfl hl (by decide) rfl (fun ls hl => ?_)
    refine lv_iconst (v := 0) hx hb dX3_falls_18 (by decide) ?_
    refine lv_istore (lv' := [(4, .int 0), (3, .int 0), (2, .int q8), (0, .ref a_this), (1, .int p1)]) hx hb dX3_falls_19 hl (by decide) rfl (fun ls hl => ?_)
    obtain ⟨q10, hq10, hf⟩ := rf_bindq hf
    refine key_21 f_this_refused rf_fu 0 0 q10 hq10 _ _ _ hP hD hS (lv_sub hl [3, 4, 1, 0] rfl) (fun H locs ls hP hD hS hl => ?_)
    refine lv_iload_n hx hb dX3_falls_55 rfl (lv_at hl 2 rfl) ?_
    obtain rfl := Option.some.inj hf
    exact W.iret (v := q10.1) hx hb hr (fun t ht hW => ⟨⟨q10.1, (), rfl, rfl, rf_mk ht hP hD⟩, hS.F ht⟩) hS.2.2 dX3_falls_56
  · have hf := rf_ifn hf c9
    refine lv_aload_n hx hb dX3_falls_10 rfl (lv_at hl 1 rfl) ?_
    refine lv_iload_n hx hb dX3_falls_11 rfl (lv_at hl 0 rfl) ?_
    obtain ⟨q11, hq11, hf⟩ := rf_bindq hf
    refine rf_Vi (As := [.int q8]) (rest := []) (wr := [(a_this_s, .inl (cA, 22, .inl f_this_s)), (a_this_row, .inl (cA, 12, .inl f_this_row))]) (wn := [(a_this, .inr (3, rf_o3 a_this_s a_this_image a_this_read a_this_mind a_this_letters a_this_row a_this_refused a_this_numbers a_this_cost g_this)), (a_this_s, .inl (cA, 22, .inl f_this_s)), (a_this_row, .inl (cA, 12, .inl f_this_row)), (a_this_refused, .inl (cA, 7, .inl q11.2))]) ⟨hx, hb, hml, hown, hts⟩ hK hP hD hS hA hE (c_X3_no l D cA ad a_this a_this_s a_this_image a_this_read a_this_mind a_this_letters a_this_row a_this_refused a_this_numbers a_this_cost H.size g_this f_this_refused q8 q11 hq11) (cwV 1 hts gX3_falls_X3_no rfl rfl rfl hv_X3_no ⟨Nat.le_of_ble_eq_true rfl, Nat.le_of_ble_eq_true rfl⟩) [0, 3] [1, 2] [2, 0, 1, 3] rfl rfl rfl rfl (by decide) rfl rfl 3 0 rfl rfl rfl rfl rfl hl.1 (Nat.le_of_ble_eq_true rfl) dX3_falls_12 ⟨Nat.zero_le _, Nat.zero_le _⟩ (fun H locs hP hD hS => ?_)
    obtain rfl := Option.some.inj hf
    exact W.iret (v := q11.1) hx hb hr (fun t ht hW => ⟨⟨q11.1, (), rfl, rfl, rf_mk ht hP hD⟩, hS.F ht⟩) hS.2.2 dX3_falls_15
theorem kX3_finds_0 : (.fieldLink RX3 179 "RingAndFingerModel" "bestCost" "I" : Cond) ∈ wsX3_finds := by decide +kernel
theorem kX3_finds_1 : (.fieldLink RX3 176 "RingAndFingerModel" "bestSize" "I" : Cond) ∈ wsX3_finds := by decide +kernel
theorem kX3_finds_2 : (.constant RX3 41 (1000000000) : Cond) ∈ wsX3_finds := by decide +kernel
theorem jX3_finds_X3 : ∀ w ∈ u_ws RX3 TX3 16, w ∈ wsX3_finds := by decide +kernel
set_option maxHeartbeats 8000000 in
set_option maxRecDepth 100000 in
theorem c_X3_finds (l : Launch) (D : va_G) (cA : ClassId) (ad : Nat → Nat) (a_this a_this_s a_this_image a_this_read a_this_mind a_this_letters a_this_row a_this_refused a_this_numbers a_this_cost : Nat) (sz : Nat) (g_this f_this_s f_this_row : Nat → Int32) (p1 p2 p3 : Int32) (q : (Nat → Int32)) (hf : f_X3_finds g_this f_this_s f_this_row p1 p2 p3 = some q) : Met l yX3_finds wsX3_finds ({ frames := 4, cells := 0, slots := 0, locals := 95 } : Room) (va_Pc [.ref a_this, .int p1, .int p2, .int p3] (rf_Pre D cA ad [(a_this, .inr (3, rf_o3 a_this_s a_this_image a_this_read a_this_mind a_this_letters a_this_row a_this_refused a_this_numbers a_this_cost g_this)), (a_this_s, .inl (cA, 22, .inl f_this_s)), (a_this_row, .inl (cA, 12, .inl f_this_row))] sz)) (va_Qv (fun (_ : Unit) => True) (fun _ t => rf_Post D (va_A [(a_this, .inr (3, rf_o3 a_this_s a_this_image a_this_read a_this_mind a_this_letters a_this_row a_this_refused a_this_numbers a_this_cost g_this)), (a_this_s, .inl (cA, 22, .inl f_this_s)), (a_this_row, .inl (cA, 12, .inl f_this_row))] sz) [(a_this, .inr (3, rf_o3 a_this_s a_this_image a_this_read a_this_mind a_this_letters a_this_row a_this_refused a_this_numbers a_this_cost q)), (a_this_s, .inl (cA, 22, .inl f_this_s)), (a_this_row, .inl (cA, 12, .inl f_this_row))] t) (va_A [(a_this, .inr (3, rf_o3 a_this_s a_this_image a_this_read a_this_mind a_this_letters a_this_row a_this_refused a_this_numbers a_this_cost g_this)), (a_this_s, .inl (cA, 22, .inl f_this_s)), (a_this_row, .inl (cA, 12, .inl f_this_row))] sz)) 0 0 (va_A [(a_this, .inr (3, rf_o3 a_this_s a_this_image a_this_read a_this_mind a_this_letters a_this_row a_this_refused a_this_numbers a_this_cost g_this)), (a_this_s, .inl (cA, 22, .inl f_this_s)), (a_this_row, .inl (cA, 12, .inl f_this_row))] sz) := by
  refine Met.ofW (cc := cX3_finds) (maxL := 7) (ret := none) (by decide) rfl ?_
  intro p e s m args below meth c s₁ B hml hv
  obtain ⟨rfl, hsz, hP, hK, hD0, hE⟩ := hv
  have hx := B.exec
  have hb := B.bytes
  have hr := B.returns
  have hts := atoms_spec (ws := wsX3_finds) B.pre
  have hown : s.vm.findClass RX3 = some m.cls := findClass_of_methodNamed B.named
  have hlocks := B.notSynchronized
  subst hsz
  have hD := hD0.self (sz := s.heap.size)
  generalize hAe : va_A [(a_this, .inr (3, rf_o3 a_this_s a_this_image a_this_read a_this_mind a_this_letters a_this_row a_this_refused a_this_numbers a_this_cost g_this)), (a_this_s, .inl (cA, 22, .inl f_this_s)), (a_this_row, .inl (cA, 12, .inl f_this_row))] s.heap.size = A at hD hE ⊢
  have hA : ∀ q : Nat, s.heap.size ≤ q → A q := fun q h => by rw [← hAe]; exact Or.inr h
  have hS : va_S A s.heap s.heap [] := va_S.rf
  have hP : va_P D vwCl [(a_this, .inr (3, rf_o3 a_this_s a_this_image a_this_read a_this_mind a_this_letters a_this_row a_this_refused a_this_numbers a_this_cost g_this)), (a_this_s, .inl (cA, 22, .inl f_this_s)), (a_this_row, .inl (cA, 12, .inl f_this_row))] s.heap := hP
  have hl := lv_entry ([.ref a_this, .int p1, .int p2, .int p3]) (n := 7) (Nat.le_of_ble_eq_true rfl)
  rw [lg_entry_eq]
  generalize (lg_sl ([.ref a_this, .int p1, .int p2, .int p3]) ++ List.replicate (7 - (lg_sl ([.ref a_this, .int p1, .int p2, .int p3])).length) Slot.unset).toArray = ls at hl ⊢
  have hl : lv_has ls 7 [(0, .ref a_this), (1, .int p1), (2, .int p2), (3, .int p3)] := hl
  have key_30 : ∀ (x4 : Int32) (yg_this : Nat → Int32) (n : Nat) (x5 x6 : Int32) (ql : Int32 × Int32), f_X3_finds_L30 f_this_s f_this_row p1 p2 p3 x4 yg_this n x5 x6 = some ql → ∀ (H : Heap) (locs : List Loc) (ls : Array Slot), va_P D vwCl [(a_this, .inr (3, rf_o3 a_this_s a_this_image a_this_read a_this_mind a_this_letters a_this_row a_this_refused a_this_numbers a_this_cost yg_this)), (a_this_s, .inl (cA, 22, .inl f_this_s)), (a_this_row, .inl (cA, 12, .inl f_this_row))] H → va_D A [(a_this, .inr (3, rf_o3 a_this_s a_this_image a_this_read a_this_mind a_this_letters a_this_row a_this_refused a_this_numbers a_this_cost yg_this)), (a_this_s, .inl (cA, 22, .inl f_this_s)), (a_this_row, .inl (cA, 12, .inl f_this_row))] → va_S A s.heap H locs → lv_has ls 7 [(0, .ref a_this), (1, .int p1), (2, .int p2), (3, .int p3), (4, .int x4), (5, .int x5), (6, .int x6)] → (∀ (H : Heap) (locs : List Loc) (ls : Array Slot), va_P D vwCl [(a_this, .inr (3, rf_o3 a_this_s a_this_image a_this_read a_this_mind a_this_letters a_this_row a_this_refused a_this_numbers a_this_cost yg_this)), (a_this_s, .inl (cA, 22, .inl f_this_s)), (a_this_row, .inl (cA, 12, .inl f_this_row))] H → va_D A [(a_this, .inr (3, rf_o3 a_this_s a_this_image a_this_read a_this_mind a_this_letters a_this_row a_this_refused a_this_numbers a_this_cost yg_this)), (a_this_s, .inl (cA, 22, .inl f_this_s)), (a_this_row, .inl (cA, 12, .inl f_this_row))] → va_S A s.heap H locs → lv_has ls 7 [(0, .ref a_this), (1, .int p1), (2, .int p2), (3, .int p3), (4, .int x4), (5, .int ql.1), (6, .int ql.2)] → W p l e (headSpec wsX3_finds ({ frames := 4, cells := 0, slots := 0, locals := 95 } : Room)).room s m ([.ref a_this, .int p1, .int p2, .int p3] : List Value).toArray below meth c H locs 0 0 (MQ below (va_Qv (fun (_ : Unit) => True) (fun _ t => rf_Post D A [(a_this, .inr (3, rf_o3 a_this_s a_this_image a_this_read a_this_mind a_this_letters a_this_row a_this_refused a_this_numbers a_this_cost q)), (a_this_s, .inl (cA, 22, .inl f_this_s)), (a_this_row, .inl (cA, 12, .inl f_this_row))] t) A) ([.ref a_this, .int p1, .int p2, .int p3] : List Value).toArray s 0 0 A) (F0 m 91 ls [])) → W p l e (headSpec wsX3_finds ({ frames := 4, cells := 0, slots := 0, locals := 95 } : Room)).room s m ([.ref a_this, .int p1, .int p2, .int p3] : List Value).toArray below meth c H locs 0 0 (MQ below (va_Qv (fun (_ : Unit) => True) (fun _ t => rf_Post D A [(a_this, .inr (3, rf_o3 a_this_s a_this_image a_this_read a_this_mind a_this_letters a_this_row a_this_refused a_this_numbers a_this_cost q)), (a_this_s, .inl (cA, 22, .inl f_this_s)), (a_this_row, .inl (cA, 12, .inl f_this_row))] t) A) ([.ref a_this, .int p1, .int p2, .int p3] : List Value).toArray s 0 0 A) (F0 m 30 ls []) := by
    intro x4 yg_this n
    induction n with
    | zero =>
      intro x5 x6 ql hf H locs ls hP hD hS hl kx
      exact absurd (show (none : Option (Int32 × Int32)) = some ql from hf) (fun h9 => by cases h9)
    | succ n ih =>
      intro x5 x6 ql hf H locs ls hP hD hS hl kx
      rw [f_X3_finds_L30] at hf
      refine lv_iload hx hb dX3_finds_30 (lv_at hl 6 rfl) ?_
      refine lv_bipush (v := 12) hx hb dX3_finds_32 (by decide) ?_
      refine lv_icmp_ge (tgt := 91) hx hb dX3_finds_34 (by decide) (fun c1 => ?_) (fun c1 => ?_)
      · have hf := rf_ifp hf c1
        obtain rfl := Option.some.inj hf
        exact kx _ _ _ hP hD hS (lv_sub hl [0, 1, 2, 3, 4, 5, 6] rfl)
      · have hf := rf_ifn hf c1
        refine lv_iload_n hx hb dX3_finds_37 rfl (lv_at hl 1 rfl) ?_
        refine lv_iload hx hb dX3_finds_38 (lv_at hl 6 rfl) ?_
        refine lv_ishr hx hb dX3_finds_40 ?_
        refine lv_iconst (v := 1) hx hb dX3_finds_41 (by decide) ?_
        refine lv_iand hx hb dX3_finds_42 ?_
        refine lv_iconst (v := 1) hx hb dX3_finds_43 (by decide) ?_
        refine lv_icmp_ne (tgt := 85) hx hb dX3_finds_44 (by decide) (fun c2 => ?_) (fun c2 => ?_)
        · have hf := rf_ifn hf c2
          obtain ⟨v3, ev3⟩ : ∃ y : Int32, y = x6 + 1 := ⟨_, rfl⟩
          have hf := rf_bindv hf ev3
          refine lv_iinc (v := v3) (lv' := [(6, .int v3), (0, .ref a_this), (1, .int p1), (2, .int p2), (3, .int p3), (4, .int x4), (5, .int x5)]) hx hb dX3_finds_85 hl (k := 6) rfl (by rw [ev3]; rfl) (by decide) rfl (fun ls hl => ?_)
          clear ev3
          refine lv_goto (tgt := 30) hx hb dX3_finds_88 (by decide) ?_
          exact ih x5 v3 ql hf _ _ _ hP hD hS (lv_sub hl [1, 2, 3, 4, 5, 6, 0] rfl) kx
        · have hf := rf_ifp hf c2
          refine lv_iload hx hb dX3_finds_47 (lv_at hl 5 rfl) ?_
          refine lv_aload_n hx hb dX3_finds_49 rfl (lv_at hl 0 rfl) ?_
          refine lv_iload hx hb dX3_finds_50 (lv_at hl 6 rfl) ?_
          refine lv_iload hx hb dX3_finds_52 (lv_at hl 4 rfl) ?_
          obtain ⟨q4, hq4, hf⟩ := rf_bindq hf
          refine rf_Vi (As := [.int x6, .int x4]) (rest := [.int x5]) (wr := []) (wn := [(a_this, .inr (3, rf_o3 a_this_s a_this_image a_this_read a_this_mind a_this_letters a_this_row a_this_refused a_this_numbers a_this_cost yg_this)), (a_this_s, .inl (cA, 22, .inl f_this_s)), (a_this_row, .inl (cA, 12, .inl f_this_row))]) ⟨hx, hb, hml, hown, hts⟩ hK hP hD hS hA hE (c_X3_sticksIn l D cA ad a_this a_this_s a_this_image a_this_read a_this_mind a_this_letters a_this_row a_this_refused a_this_numbers a_this_cost H.size yg_this f_this_s f_this_row x6 x4 q4 hq4) (cwV 2 hts gX3_finds_X3_sticksIn rfl rfl rfl hv_X3_sticksIn ⟨Nat.le_of_ble_eq_true rfl, Nat.le_of_ble_eq_true rfl⟩) [0, 1, 2] [] [0, 1, 2] rfl rfl rfl rfl (by decide) rfl rfl 3 0 rfl rfl rfl rfl rfl hl.1 (Nat.le_of_ble_eq_true rfl) dX3_finds_54 ⟨Nat.zero_le _, Nat.zero_le _⟩ (fun H locs hP hD hS => ?_)
          refine lv_if_eq (tgt := 64) hx hb dX3_finds_57 (by decide) (fun c5 => ?_) (fun c5 => ?_)
          · have hf := rf_ifp hf c5
            refine lv_iconst (v := 0) hx hb dX3_finds_64 (by decide) ?_
            refine lv_aload_n hx hb dX3_finds_65 rfl (lv_at hl 0 rfl) ?_
            refine lv_iload hx hb dX3_finds_66 (lv_at hl 6 rfl) ?_
            refine lv_iload hx hb dX3_finds_68 (lv_at hl 4 rfl) ?_
            obtain ⟨q6, hq6, hf⟩ := rf_bindq hf
            refine rf_Vi (As := [.int x6, .int x4]) (rest := [.int 0, .int x5]) (wr := []) (wn := [(a_this, .inr (3, rf_o3 a_this_s a_this_image a_this_read a_this_mind a_this_letters a_this_row a_this_refused a_this_numbers a_this_cost yg_this)), (a_this_s, .inl (cA, 22, .inl f_this_s)), (a_this_row, .inl (cA, 12, .inl f_this_row))]) ⟨hx, hb, hml, hown, hts⟩ hK hP hD hS hA hE (c_X3_fallsIn l D cA ad a_this a_this_s a_this_image a_this_read a_this_mind a_this_letters a_this_row a_this_refused a_this_numbers a_this_cost H.size yg_this f_this_s f_this_row x6 x4 q6 hq6) (cwV 2 hts gX3_finds_X3_fallsIn rfl rfl rfl hv_X3_fallsIn ⟨Nat.le_of_ble_eq_true rfl, Nat.le_of_ble_eq_true rfl⟩) [0, 1, 2] [] [0, 1, 2] rfl rfl rfl rfl (by decide) rfl rfl 3 0 rfl rfl rfl rfl rfl hl.1 (Nat.le_of_ble_eq_true rfl) dX3_finds_70 ⟨Nat.zero_le _, Nat.zero_le _⟩ (fun H locs hP hD hS => ?_)
            refine lv_if_eq (tgt := 80) hx hb dX3_finds_73 (by decide) (fun c7 => ?_) (fun c7 => ?_)
            · have hf := rf_ifp hf c7
              refine lv_iconst (v := 0) hx hb dX3_finds_80 (by decide) ?_
              refine lv_iadd hx hb dX3_finds_81 ?_
              refine lv_iadd hx hb dX3_finds_82 ?_
              refine lv_topi (fun v8 ev8 => ?_)
              have hf := rf_bindv hf ev8
              clear ev8
              refine lv_istore (lv' := [(5, .int v8), (0, .ref a_this), (1, .int p1), (2, .int p2), (3, .int p3), (4, .int x4), (6, .int x6)]) hx hb dX3_finds_83 hl (by decide) rfl (fun ls hl => ?_)
              obtain ⟨v9, ev9⟩ : ∃ y : Int32, y = x6 + 1 := ⟨_, rfl⟩
              have hf := rf_bindv hf ev9
              refine lv_iinc (v := v9) (lv' := [(6, .int v9), (5, .int v8), (0, .ref a_this), (1, .int p1), (2, .int p2), (3, .int p3), (4, .int x4)]) hx hb dX3_finds_85 hl (k := 6) rfl (by rw [ev9]; rfl) (by decide) rfl (fun ls hl => ?_)
              clear ev9
              refine lv_goto (tgt := 30) hx hb dX3_finds_88 (by decide) ?_
              exact ih v8 v9 ql hf _ _ _ hP hD hS (lv_sub hl [2, 3, 4, 5, 6, 1, 0] rfl) kx
            · have hf := rf_ifn hf c7
              refine lv_iload_n hx hb dX3_finds_76 rfl (lv_at hl 3 rfl) ?_
              refine lv_goto (tgt := 81) hx hb dX3_finds_77 (by decide) ?_
              refine lv_iadd hx hb dX3_finds_81 ?_
              refine lv_iadd hx hb dX3_finds_82 ?_
              refine lv_topi (fun v10 ev10 => ?_)
              have hf := rf_bindv hf ev10
              clear ev10
              refine lv_istore (lv' := [(5, .int v10), (0, .ref a_this), (1, .int p1), (2, .int p2), (3, .int p3), (4, .int x4), (6, .int x6)]) hx hb dX3_finds_83 hl (by decide) rfl (fun ls hl => ?_)
              obtain ⟨v11, ev11⟩ : ∃ y : Int32, y = x6 + 1 := ⟨_, rfl⟩
              have hf := rf_bindv hf ev11
              refine lv_iinc (v := v11) (lv' := [(6, .int v11), (5, .int v10), (0, .ref a_this), (1, .int p1), (2, .int p2), (3, .int p3), (4, .int x4)]) hx hb dX3_finds_85 hl (k := 6) rfl (by rw [ev11]; rfl) (by decide) rfl (fun ls hl => ?_)
              clear ev11
              refine lv_goto (tgt := 30) hx hb dX3_finds_88 (by decide) ?_
              exact ih v10 v11 ql hf _ _ _ hP hD hS (lv_sub hl [2, 3, 4, 5, 6, 1, 0] rfl) kx
          · have hf := rf_ifn hf c5
            refine lv_iload_n hx hb dX3_finds_60 rfl (lv_at hl 2 rfl) ?_
            refine lv_goto (tgt := 65) hx hb dX3_finds_61 (by decide) ?_
            refine lv_aload_n hx hb dX3_finds_65 rfl (lv_at hl 0 rfl) ?_
            refine lv_iload hx hb dX3_finds_66 (lv_at hl 6 rfl) ?_
            refine lv_iload hx hb dX3_finds_68 (lv_at hl 4 rfl) ?_
            obtain ⟨q12, hq12, hf⟩ := rf_bindq hf
            refine rf_Vi (As := [.int x6, .int x4]) (rest := [.int p2, .int x5]) (wr := []) (wn := [(a_this, .inr (3, rf_o3 a_this_s a_this_image a_this_read a_this_mind a_this_letters a_this_row a_this_refused a_this_numbers a_this_cost yg_this)), (a_this_s, .inl (cA, 22, .inl f_this_s)), (a_this_row, .inl (cA, 12, .inl f_this_row))]) ⟨hx, hb, hml, hown, hts⟩ hK hP hD hS hA hE (c_X3_fallsIn l D cA ad a_this a_this_s a_this_image a_this_read a_this_mind a_this_letters a_this_row a_this_refused a_this_numbers a_this_cost H.size yg_this f_this_s f_this_row x6 x4 q12 hq12) (cwV 2 hts gX3_finds_X3_fallsIn rfl rfl rfl hv_X3_fallsIn ⟨Nat.le_of_ble_eq_true rfl, Nat.le_of_ble_eq_true rfl⟩) [0, 1, 2] [] [0, 1, 2] rfl rfl rfl rfl (by decide) rfl rfl 3 0 rfl rfl rfl rfl rfl hl.1 (Nat.le_of_ble_eq_true rfl) dX3_finds_70 ⟨Nat.zero_le _, Nat.zero_le _⟩ (fun H locs hP hD hS => ?_)
            refine lv_if_eq (tgt := 80) hx hb dX3_finds_73 (by decide) (fun c13 => ?_) (fun c13 => ?_)
            · have hf := rf_ifp hf c13
              refine lv_iconst (v := 0) hx hb dX3_finds_80 (by decide) ?_
              refine lv_iadd hx hb dX3_finds_81 ?_
              refine lv_iadd hx hb dX3_finds_82 ?_
              refine lv_topi (fun v14 ev14 => ?_)
              have hf := rf_bindv hf ev14
              clear ev14
              refine lv_istore (lv' := [(5, .int v14), (0, .ref a_this), (1, .int p1), (2, .int p2), (3, .int p3), (4, .int x4), (6, .int x6)]) hx hb dX3_finds_83 hl (by decide) rfl (fun ls hl => ?_)
              obtain ⟨v15, ev15⟩ : ∃ y : Int32, y = x6 + 1 := ⟨_, rfl⟩
              have hf := rf_bindv hf ev15
              refine lv_iinc (v := v15) (lv' := [(6, .int v15), (5, .int v14), (0, .ref a_this), (1, .int p1), (2, .int p2), (3, .int p3), (4, .int x4)]) hx hb dX3_finds_85 hl (k := 6) rfl (by rw [ev15]; rfl) (by decide) rfl (fun ls hl => ?_)
              clear ev15
              refine lv_goto (tgt := 30) hx hb dX3_finds_88 (by decide) ?_
              exact ih v14 v15 ql hf _ _ _ hP hD hS (lv_sub hl [2, 3, 4, 5, 6, 1, 0] rfl) kx
            · have hf := rf_ifn hf c13
              refine lv_iload_n hx hb dX3_finds_76 rfl (lv_at hl 3 rfl) ?_
              refine lv_goto (tgt := 81) hx hb dX3_finds_77 (by decide) ?_
              refine lv_iadd hx hb dX3_finds_81 ?_
              refine lv_iadd hx hb dX3_finds_82 ?_
              refine lv_topi (fun v16 ev16 => ?_)
              have hf := rf_bindv hf ev16
              clear ev16
              refine lv_istore (lv' := [(5, .int v16), (0, .ref a_this), (1, .int p1), (2, .int p2), (3, .int p3), (4, .int x4), (6, .int x6)]) hx hb dX3_finds_83 hl (by decide) rfl (fun ls hl => ?_)
              obtain ⟨v17, ev17⟩ : ∃ y : Int32, y = x6 + 1 := ⟨_, rfl⟩
              have hf := rf_bindv hf ev17
              refine lv_iinc (v := v17) (lv' := [(6, .int v17), (5, .int v16), (0, .ref a_this), (1, .int p1), (2, .int p2), (3, .int p3), (4, .int x4)]) hx hb dX3_finds_85 hl (k := 6) rfl (by rw [ev17]; rfl) (by decide) rfl (fun ls hl => ?_)
              clear ev17
              refine lv_goto (tgt := 30) hx hb dX3_finds_88 (by decide) ?_
              exact ih v16 v17 ql hf _ _ _ hP hD hS (lv_sub hl [2, 3, 4, 5, 6, 1, 0] rfl) kx
  have key_16 : ∀ (n : Nat) (x4 : Int32) (yg_this : Nat → Int32) (ql : Int32 × (Nat → Int32)), f_X3_finds_L16 f_this_s f_this_row p1 p2 p3 n x4 yg_this = some ql → ∀ (H : Heap) (locs : List Loc) (ls : Array Slot), va_P D vwCl [(a_this, .inr (3, rf_o3 a_this_s a_this_image a_this_read a_this_mind a_this_letters a_this_row a_this_refused a_this_numbers a_this_cost yg_this)), (a_this_s, .inl (cA, 22, .inl f_this_s)), (a_this_row, .inl (cA, 12, .inl f_this_row))] H → va_D A [(a_this, .inr (3, rf_o3 a_this_s a_this_image a_this_read a_this_mind a_this_letters a_this_row a_this_refused a_this_numbers a_this_cost yg_this)), (a_this_s, .inl (cA, 22, .inl f_this_s)), (a_this_row, .inl (cA, 12, .inl f_this_row))] → va_S A s.heap H locs → lv_has ls 7 [(0, .ref a_this), (1, .int p1), (2, .int p2), (3, .int p3), (4, .int x4)] → (∀ (H : Heap) (locs : List Loc) (ls : Array Slot), va_P D vwCl [(a_this, .inr (3, rf_o3 a_this_s a_this_image a_this_read a_this_mind a_this_letters a_this_row a_this_refused a_this_numbers a_this_cost ql.2)), (a_this_s, .inl (cA, 22, .inl f_this_s)), (a_this_row, .inl (cA, 12, .inl f_this_row))] H → va_D A [(a_this, .inr (3, rf_o3 a_this_s a_this_image a_this_read a_this_mind a_this_letters a_this_row a_this_refused a_this_numbers a_this_cost ql.2)), (a_this_s, .inl (cA, 22, .inl f_this_s)), (a_this_row, .inl (cA, 12, .inl f_this_row))] → va_S A s.heap H locs → lv_has ls 7 [(0, .ref a_this), (1, .int p1), (2, .int p2), (3, .int p3), (4, .int ql.1)] → W p l e (headSpec wsX3_finds ({ frames := 4, cells := 0, slots := 0, locals := 95 } : Room)).room s m ([.ref a_this, .int p1, .int p2, .int p3] : List Value).toArray below meth c H locs 0 0 (MQ below (va_Qv (fun (_ : Unit) => True) (fun _ t => rf_Post D A [(a_this, .inr (3, rf_o3 a_this_s a_this_image a_this_read a_this_mind a_this_letters a_this_row a_this_refused a_this_numbers a_this_cost q)), (a_this_s, .inl (cA, 22, .inl f_this_s)), (a_this_row, .inl (cA, 12, .inl f_this_row))] t) A) ([.ref a_this, .int p1, .int p2, .int p3] : List Value).toArray s 0 0 A) (F0 m 121 ls [])) → W p l e (headSpec wsX3_finds ({ frames := 4, cells := 0, slots := 0, locals := 95 } : Room)).room s m ([.ref a_this, .int p1, .int p2, .int p3] : List Value).toArray below meth c H locs 0 0 (MQ below (va_Qv (fun (_ : Unit) => True) (fun _ t => rf_Post D A [(a_this, .inr (3, rf_o3 a_this_s a_this_image a_this_read a_this_mind a_this_letters a_this_row a_this_refused a_this_numbers a_this_cost q)), (a_this_s, .inl (cA, 22, .inl f_this_s)), (a_this_row, .inl (cA, 12, .inl f_this_row))] t) A) ([.ref a_this, .int p1, .int p2, .int p3] : List Value).toArray s 0 0 A) (F0 m 16 ls []) := by
    intro n
    induction n with
    | zero =>
      intro x4 yg_this ql hf H locs ls hP hD hS hl kx
      exact absurd (show (none : Option (Int32 × (Nat → Int32))) = some ql from hf) (fun h9 => by cases h9)
    | succ n ih =>
      intro x4 yg_this ql hf H locs ls hP hD hS hl kx
      rw [f_X3_finds_L16] at hf
      refine lv_iload hx hb dX3_finds_16 (lv_at hl 4 rfl) ?_
      refine lv_sipush (v := 250) hx hb dX3_finds_18 (by decide) ?_
      refine lv_icmp_gt (tgt := 121) hx hb dX3_finds_21 (by decide) (fun c18 => ?_) (fun c18 => ?_)
      · have hf := rf_ifp hf c18
        obtain rfl := Option.some.inj hf
        exact kx _ _ _ hP hD hS (lv_sub hl [0, 1, 2, 3, 4] rfl)
      · have hf := rf_ifn hf c18
        refine lv_iconst (v := 0) hx hb dX3_finds_24 (by decide) ?_
        refine lv_istore (lv' := [(5, .int 0), (0, .ref a_this), (1, .int p1), (2, .int p2), (3, .int p3), (4, .int x4)]) hx hb dX3_finds_25 hl (by decide) rfl (fun ls hl => ?_)
        refine lv_iconst (v := 0) hx hb dX3_finds_27 (by decide) ?_
        refine lv_istore (lv' := [(6, .int 0), (5, .int 0), (0, .ref a_this), (1, .int p1), (2, .int p2), (3, .int p3), (4, .int x4)]) hx hb dX3_finds_28 hl (by decide) rfl (fun ls hl => ?_)
        obtain ⟨q19, hq19, hf⟩ := rf_bindq hf
        refine key_30 x4 yg_this rf_fu 0 0 q19 hq19 _ _ _ hP hD hS (lv_sub hl [2, 3, 4, 5, 6, 1, 0] rfl) (fun H locs ls hP hD hS hl => ?_)
        refine lv_iload hx hb dX3_finds_91 (lv_at hl 5 rfl) ?_
        refine lv_aload_n hx hb dX3_finds_93 rfl (lv_at hl 0 rfl) ?_
        refine va_get (D := D) (ci := 3) (v := .int (yg_this 5)) (C := RX3) (T := TX3) (N := 16) hx hb hts jX3_finds_X3 hown hK hP 0 rfl rfl 14 (by decide) (hts _ kX3_finds_0) (fun _ h9 => h9) rfl dX3_finds_94 ?_
        refine lv_icmp_lt (tgt := 103) hx hb dX3_finds_97 (by decide) (fun c20 => ?_) (fun c20 => ?_)
        · have hf := rf_ifp hf c20
          refine lv_aload_n hx hb dX3_finds_103 rfl (lv_at hl 0 rfl) ?_
          refine lv_iload hx hb dX3_finds_104 (lv_at hl 4 rfl) ?_
          refine va_put (D := D) (ci := 3) (v := .int x4) (ty := .int) (C := RX3) (T := TX3) (N := 16) hx hb hts jX3_finds_X3 tyX3 tyX3_ok nmX3 hown hK hP hD hS 0 rfl rfl 13 (by decide) (hts _ kX3_finds_1) (fun _ h9 => h9) rfl (by decide +kernel) rfl rfl (Nat.le_of_ble_eq_true rfl) dX3_finds_106 (fun H locs hP hD hS => ?_)
          have hP : va_P D vwCl [(a_this, .inr (3, rf_o3 a_this_s a_this_image a_this_read a_this_mind a_this_letters a_this_row a_this_refused a_this_numbers a_this_cost (upd yg_this 4 x4))), (a_this_s, .inl (cA, 22, .inl f_this_s)), (a_this_row, .inl (cA, 12, .inl f_this_row))] H := hP
          have hD : va_D A [(a_this, .inr (3, rf_o3 a_this_s a_this_image a_this_read a_this_mind a_this_letters a_this_row a_this_refused a_this_numbers a_this_cost (upd yg_this 4 x4))), (a_this_s, .inl (cA, 22, .inl f_this_s)), (a_this_row, .inl (cA, 12, .inl f_this_row))] := hD
          refine lv_aload_n hx hb dX3_finds_109 rfl (lv_at hl 0 rfl) ?_
          refine lv_iload hx hb dX3_finds_110 (lv_at hl 5 rfl) ?_
          refine va_put (D := D) (ci := 3) (v := .int q19.1) (ty := .int) (C := RX3) (T := TX3) (N := 16) hx hb hts jX3_finds_X3 tyX3 tyX3_ok nmX3 hown hK hP hD hS 0 rfl rfl 14 (by decide) (hts _ kX3_finds_0) (fun _ h9 => h9) rfl (by decide +kernel) rfl rfl (Nat.le_of_ble_eq_true rfl) dX3_finds_112 (fun H locs hP hD hS => ?_)
          have hP : va_P D vwCl [(a_this, .inr (3, rf_o3 a_this_s a_this_image a_this_read a_this_mind a_this_letters a_this_row a_this_refused a_this_numbers a_this_cost (upd (upd yg_this 4 x4) 5 q19.1))), (a_this_s, .inl (cA, 22, .inl f_this_s)), (a_this_row, .inl (cA, 12, .inl f_this_row))] H := hP
          have hD : va_D A [(a_this, .inr (3, rf_o3 a_this_s a_this_image a_this_read a_this_mind a_this_letters a_this_row a_this_refused a_this_numbers a_this_cost (upd (upd yg_this 4 x4) 5 q19.1))), (a_this_s, .inl (cA, 22, .inl f_this_s)), (a_this_row, .inl (cA, 12, .inl f_this_row))] := hD
          obtain ⟨v21, ev21⟩ : ∃ y : Int32, y = x4 + 1 := ⟨_, rfl⟩
          have hf := rf_bindv hf ev21
          refine lv_iinc (v := v21) (lv' := [(4, .int v21), (0, .ref a_this), (1, .int p1), (2, .int p2), (3, .int p3), (5, .int q19.1), (6, .int q19.2)]) hx hb dX3_finds_115 hl (k := 4) rfl (by rw [ev21]; rfl) (by decide) rfl (fun ls hl => ?_)
          clear ev21
          refine lv_goto (tgt := 16) hx hb dX3_finds_118 (by decide) ?_
          exact ih v21 (upd (upd yg_this 4 x4) 5 q19.1) ql hf _ _ _ hP hD hS (lv_sub hl [1, 2, 3, 4, 0] rfl) kx
        · have hf := rf_ifn hf c20
          refine lv_goto (tgt := 115) hx hb dX3_finds_100 (by decide) ?_
          obtain ⟨v22, ev22⟩ : ∃ y : Int32, y = x4 + 1 := ⟨_, rfl⟩
          have hf := rf_bindv hf ev22
          refine lv_iinc (v := v22) (lv' := [(4, .int v22), (0, .ref a_this), (1, .int p1), (2, .int p2), (3, .int p3), (5, .int q19.1), (6, .int q19.2)]) hx hb dX3_finds_115 hl (k := 4) rfl (by rw [ev22]; rfl) (by decide) rfl (fun ls hl => ?_)
          clear ev22
          refine lv_goto (tgt := 16) hx hb dX3_finds_118 (by decide) ?_
          exact ih v22 yg_this ql hf _ _ _ hP hD hS (lv_sub hl [1, 2, 3, 4, 0] rfl) kx
  rw [f_X3_finds] at hf
  refine lv_aload_n hx hb dX3_finds_0 rfl (lv_at hl 0 rfl) ?_
  refine lv_bipush (v := 100) hx hb dX3_finds_1 (by decide) ?_
  refine va_put (D := D) (ci := 3) (v := .int 100) (ty := .int) (C := RX3) (T := TX3) (N := 16) hx hb hts jX3_finds_X3 tyX3 tyX3_ok nmX3 hown hK hP hD hS 0 rfl rfl 13 (by decide) (hts _ kX3_finds_1) (fun _ h9 => h9) rfl (by decide +kernel) rfl rfl (Nat.le_of_ble_eq_true rfl) dX3_finds_3 (fun H locs hP hD hS => ?_)
  have hP : va_P D vwCl [(a_this, .inr (3, rf_o3 a_this_s a_this_image a_this_read a_this_mind a_this_letters a_this_row a_this_refused a_this_numbers a_this_cost (upd g_this 4 100))), (a_this_s, .inl (cA, 22, .inl f_this_s)), (a_this_row, .inl (cA, 12, .inl f_this_row))] H := hP
  have hD : va_D A [(a_this, .inr (3, rf_o3 a_this_s a_this_image a_this_read a_this_mind a_this_letters a_this_row a_this_refused a_this_numbers a_this_cost (upd g_this 4 100))), (a_this_s, .inl (cA, 22, .inl f_this_s)), (a_this_row, .inl (cA, 12, .inl f_this_row))] := hD
  refine lv_aload_n hx hb dX3_finds_6 rfl (lv_at hl 0 rfl) ?_
  refine lv_ldc hx hb hown (hts _ kX3_finds_2) dX3_finds_7 ?_
  refine va_put (D := D) (ci := 3) (v := .int 1000000000) (ty := .int) (C := RX3) (T := TX3) (N := 16) hx hb hts jX3_finds_X3 tyX3 tyX3_ok nmX3 hown hK hP hD hS 0 rfl rfl 14 (by decide) (hts _ kX3_finds_0) (fun _ h9 => h9) rfl (by decide +kernel) rfl rfl (Nat.le_of_ble_eq_true rfl) dX3_finds_9 (fun H locs hP hD hS => ?_)
  have hP : va_P D vwCl [(a_this, .inr (3, rf_o3 a_this_s a_this_image a_this_read a_this_mind a_this_letters a_this_row a_this_refused a_this_numbers a_this_cost (upd (upd g_this 4 100) 5 1000000000))), (a_this_s, .inl (cA, 22, .inl f_this_s)), (a_this_row, .inl (cA, 12, .inl f_this_row))] H := hP
  have hD : va_D A [(a_this, .inr (3, rf_o3 a_this_s a_this_image a_this_read a_this_mind a_this_letters a_this_row a_this_refused a_this_numbers a_this_cost (upd (upd g_this 4 100) 5 1000000000))), (a_this_s, .inl (cA, 22, .inl f_this_s)), (a_this_row, .inl (cA, 12, .inl f_this_row))] := hD
  refine lv_bipush (v := 100) hx hb dX3_finds_12 (by decide) ?_
  refine lv_istore (lv' := [(4, .int 100), (0, .ref a_this), (1, .int p1), (2, .int p2), (3, .int p3)]) hx hb dX3_finds_14 hl (by decide) rfl (fun ls hl => ?_)
  obtain ⟨q23, hq23, hf⟩ := rf_bindq hf
  refine key_16 rf_fu 100 (upd (upd g_this 4 100) 5 1000000000) q23 hq23 _ _ _ hP hD hS (lv_sub hl [1, 2, 3, 4, 0] rfl) (fun H locs ls hP hD hS hl => ?_)
  obtain rfl := Option.some.inj hf
  exact W.vret hx hb hr (fun t ht hW => ⟨⟨(), rfl, trivial, rf_mk ht hP hD⟩, hS.F ht⟩) hS.2.2 dX3_finds_121
theorem kX3_year_0 : (.fieldLink RX3 179 "RingAndFingerModel" "bestCost" "I" : Cond) ∈ wsX3_year := by decide +kernel
theorem kX3_year_1 : (.fieldLink RX3 176 "RingAndFingerModel" "bestSize" "I" : Cond) ∈ wsX3_year := by decide +kernel
theorem jX3_year_X3 : ∀ w ∈ u_ws RX3 TX3 16, w ∈ wsX3_year := by decide +kernel
set_option maxHeartbeats 8000000 in
set_option maxRecDepth 100000 in
theorem c_X3_year (l : Launch) (D : va_G) (cA : ClassId) (ad : Nat → Nat) (a_this a_this_s a_this_image a_this_read a_this_mind a_this_letters a_this_row a_this_refused a_this_numbers a_this_cost : Nat) (sz : Nat) (g_this f_this_s f_this_row f_this_refused : Nat → Int32) (p1 p2 p3 : Int32) (q : Int32 × (Nat → Int32) × (Nat → Int32)) (hf : f_X3_year g_this f_this_s f_this_row f_this_refused p1 p2 p3 = some q) : Met l yX3_year wsX3_year ({ frames := 5, cells := 0, slots := 0, locals := 121 } : Room) (va_Pc [.ref a_this, .int p1, .int p2, .int p3] (rf_Pre D cA ad [(a_this, .inr (3, rf_o3 a_this_s a_this_image a_this_read a_this_mind a_this_letters a_this_row a_this_refused a_this_numbers a_this_cost g_this)), (a_this_s, .inl (cA, 22, .inl f_this_s)), (a_this_row, .inl (cA, 12, .inl f_this_row)), (a_this_refused, .inl (cA, 7, .inl f_this_refused))] sz)) (va_Qi (fun (r : Int32) (_ : Unit) => r = q.1) (fun _ t => rf_Post D (va_A [(a_this, .inr (3, rf_o3 a_this_s a_this_image a_this_read a_this_mind a_this_letters a_this_row a_this_refused a_this_numbers a_this_cost g_this)), (a_this_s, .inl (cA, 22, .inl f_this_s)), (a_this_row, .inl (cA, 12, .inl f_this_row)), (a_this_refused, .inl (cA, 7, .inl f_this_refused))] sz) [(a_this, .inr (3, rf_o3 a_this_s a_this_image a_this_read a_this_mind a_this_letters a_this_row a_this_refused a_this_numbers a_this_cost q.2.1)), (a_this_s, .inl (cA, 22, .inl f_this_s)), (a_this_row, .inl (cA, 12, .inl f_this_row)), (a_this_refused, .inl (cA, 7, .inl q.2.2))] t) (va_A [(a_this, .inr (3, rf_o3 a_this_s a_this_image a_this_read a_this_mind a_this_letters a_this_row a_this_refused a_this_numbers a_this_cost g_this)), (a_this_s, .inl (cA, 22, .inl f_this_s)), (a_this_row, .inl (cA, 12, .inl f_this_row)), (a_this_refused, .inl (cA, 7, .inl f_this_refused))] sz)) 0 0 (va_A [(a_this, .inr (3, rf_o3 a_this_s a_this_image a_this_read a_this_mind a_this_letters a_this_row a_this_refused a_this_numbers a_this_cost g_this)), (a_this_s, .inl (cA, 22, .inl f_this_s)), (a_this_row, .inl (cA, 12, .inl f_this_row)), (a_this_refused, .inl (cA, 7, .inl f_this_refused))] sz) := by
  refine Met.ofW (cc := cX3_year) (maxL := 4) (ret := (some .int)) (by decide) rfl ?_
  intro p e s m args below meth c s₁ B hml hv
  obtain ⟨rfl, hsz, hP, hK, hD0, hE⟩ := hv
  have hx := B.exec
  have hb := B.bytes
  have hr := B.returns
  have hts := atoms_spec (ws := wsX3_year) B.pre
  have hown : s.vm.findClass RX3 = some m.cls := findClass_of_methodNamed B.named
  have hlocks := B.notSynchronized
  subst hsz
  have hD := hD0.self (sz := s.heap.size)
  generalize hAe : va_A [(a_this, .inr (3, rf_o3 a_this_s a_this_image a_this_read a_this_mind a_this_letters a_this_row a_this_refused a_this_numbers a_this_cost g_this)), (a_this_s, .inl (cA, 22, .inl f_this_s)), (a_this_row, .inl (cA, 12, .inl f_this_row)), (a_this_refused, .inl (cA, 7, .inl f_this_refused))] s.heap.size = A at hD hE ⊢
  have hA : ∀ q : Nat, s.heap.size ≤ q → A q := fun q h => by rw [← hAe]; exact Or.inr h
  have hS : va_S A s.heap s.heap [] := va_S.rf
  have hP : va_P D vwCl [(a_this, .inr (3, rf_o3 a_this_s a_this_image a_this_read a_this_mind a_this_letters a_this_row a_this_refused a_this_numbers a_this_cost g_this)), (a_this_s, .inl (cA, 22, .inl f_this_s)), (a_this_row, .inl (cA, 12, .inl f_this_row)), (a_this_refused, .inl (cA, 7, .inl f_this_refused))] s.heap := hP
  have hl := lv_entry ([.ref a_this, .int p1, .int p2, .int p3]) (n := 4) (Nat.le_of_ble_eq_true rfl)
  rw [lg_entry_eq]
  generalize (lg_sl ([.ref a_this, .int p1, .int p2, .int p3]) ++ List.replicate (4 - (lg_sl ([.ref a_this, .int p1, .int p2, .int p3])).length) Slot.unset).toArray = ls at hl ⊢
  have hl : lv_has ls 4 [(0, .ref a_this), (1, .int p1), (2, .int p2), (3, .int p3)] := hl
  rw [f_X3_year] at hf
  refine lv_iload_n hx hb dX3_year_0 rfl (lv_at hl 1 rfl) ?_
  refine lv_if_lt (tgt := 8) hx hb dX3_year_1 (by decide) (fun c1 => ?_) (fun c1 => ?_)
  · have hf := rf_ifp hf c1
    refine lv_aload_n hx hb dX3_year_8 rfl (lv_at hl 0 rfl) ?_
    refine lv_bipush (v := (-4)) hx hb dX3_year_9 (by decide) ?_
    obtain ⟨q2, hq2, hf⟩ := rf_bindq hf
    refine rf_Vi (As := [.int (-4)]) (rest := []) (wr := [(a_this_s, .inl (cA, 22, .inl f_this_s)), (a_this_row, .inl (cA, 12, .inl f_this_row))]) (wn := [(a_this, .inr (3, rf_o3 a_this_s a_this_image a_this_read a_this_mind a_this_letters a_this_row a_this_refused a_this_numbers a_this_cost g_this)), (a_this_s, .inl (cA, 22, .inl f_this_s)), (a_this_row, .inl (cA, 12, .inl f_this_row)), (a_this_refused, .inl (cA, 7, .inl q2.2))]) ⟨hx, hb, hml, hown, hts⟩ hK hP hD hS hA hE (c_X3_no l D cA ad a_this a_this_s a_this_image a_this_read a_this_mind a_this_letters a_this_row a_this_refused a_this_numbers a_this_cost s.heap.size g_this f_this_refused (-4) q2 hq2) (cwV 1 hts gX3_year_X3_no rfl rfl rfl hv_X3_no ⟨Nat.le_of_ble_eq_true rfl, Nat.le_of_ble_eq_true rfl⟩) [0, 3] [1, 2] [2, 0, 1, 3] rfl rfl rfl rfl (by decide) rfl rfl 3 0 rfl rfl rfl rfl rfl hl.1 (Nat.le_of_ble_eq_true rfl) dX3_year_11 ⟨Nat.zero_le _, Nat.zero_le _⟩ (fun H locs hP hD hS => ?_)
    obtain rfl := Option.some.inj hf
    exact W.iret (v := q2.1) hx hb hr (fun t ht hW => ⟨⟨q2.1, (), rfl, rfl, rf_mk ht hP hD⟩, hS.F ht⟩) hS.2.2 dX3_year_14
  · have hf := rf_ifn hf c1
    refine lv_iload_n hx hb dX3_year_4 rfl (lv_at hl 2 rfl) ?_
    refine lv_if_ge (tgt := 15) hx hb dX3_year_5 (by decide) (fun c3 => ?_) (fun c3 => ?_)
    · have hf := rf_ifp hf c3
      refine lv_iload_n hx hb dX3_year_15 rfl (lv_at hl 1 rfl) ?_
      refine lv_bipush (v := 99) hx hb dX3_year_16 (by decide) ?_
      refine lv_icmp_gt (tgt := 27) hx hb dX3_year_18 (by decide) (fun c4 => ?_) (fun c4 => ?_)
      · have hf := rf_ifp hf c4
        refine lv_aload_n hx hb dX3_year_27 rfl (lv_at hl 0 rfl) ?_
        refine lv_bipush (v := (-6)) hx hb dX3_year_28 (by decide) ?_
        obtain ⟨q5, hq5, hf⟩ := rf_bindq hf
        refine rf_Vi (As := [.int (-6)]) (rest := []) (wr := [(a_this_s, .inl (cA, 22, .inl f_this_s)), (a_this_row, .inl (cA, 12, .inl f_this_row))]) (wn := [(a_this, .inr (3, rf_o3 a_this_s a_this_image a_this_read a_this_mind a_this_letters a_this_row a_this_refused a_this_numbers a_this_cost g_this)), (a_this_s, .inl (cA, 22, .inl f_this_s)), (a_this_row, .inl (cA, 12, .inl f_this_row)), (a_this_refused, .inl (cA, 7, .inl q5.2))]) ⟨hx, hb, hml, hown, hts⟩ hK hP hD hS hA hE (c_X3_no l D cA ad a_this a_this_s a_this_image a_this_read a_this_mind a_this_letters a_this_row a_this_refused a_this_numbers a_this_cost s.heap.size g_this f_this_refused (-6) q5 hq5) (cwV 1 hts gX3_year_X3_no rfl rfl rfl hv_X3_no ⟨Nat.le_of_ble_eq_true rfl, Nat.le_of_ble_eq_true rfl⟩) [0, 3] [1, 2] [2, 0, 1, 3] rfl rfl rfl rfl (by decide) rfl rfl 3 0 rfl rfl rfl rfl rfl hl.1 (Nat.le_of_ble_eq_true rfl) dX3_year_30 ⟨Nat.zero_le _, Nat.zero_le _⟩ (fun H locs hP hD hS => ?_)
        obtain rfl := Option.some.inj hf
        exact W.iret (v := q5.1) hx hb hr (fun t ht hW => ⟨⟨q5.1, (), rfl, rfl, rf_mk ht hP hD⟩, hS.F ht⟩) hS.2.2 dX3_year_33
      · have hf := rf_ifn hf c4
        refine lv_iload_n hx hb dX3_year_21 rfl (lv_at hl 2 rfl) ?_
        refine lv_bipush (v := 99) hx hb dX3_year_22 (by decide) ?_
        refine lv_icmp_le (tgt := 34) hx hb dX3_year_24 (by decide) (fun c6 => ?_) (fun c6 => ?_)
        · have hf := rf_ifp hf c6
          refine lv_iload_n hx hb dX3_year_34 rfl (lv_at hl 3 rfl) ?_
          refine lv_iconst (v := 0) hx hb dX3_year_35 (by decide) ?_
          refine lv_iconst (v := 1) hx hb dX3_year_36 (by decide) ?_
          obtain ⟨q7, hq7, hf⟩ := rf_bindq hf
          refine rf_Si (As := [.int p3, .int 0, .int 1]) (rest := []) (wr := [(a_this, .inr (3, rf_o3 a_this_s a_this_image a_this_read a_this_mind a_this_letters a_this_row a_this_refused a_this_numbers a_this_cost g_this)), (a_this_s, .inl (cA, 22, .inl f_this_s)), (a_this_row, .inl (cA, 12, .inl f_this_row)), (a_this_refused, .inl (cA, 7, .inl f_this_refused))]) (wn := [(a_this, .inr (3, rf_o3 a_this_s a_this_image a_this_read a_this_mind a_this_letters a_this_row a_this_refused a_this_numbers a_this_cost g_this)), (a_this_s, .inl (cA, 22, .inl f_this_s)), (a_this_row, .inl (cA, 12, .inl f_this_row)), (a_this_refused, .inl (cA, 7, .inl f_this_refused))]) ⟨hx, hb, hml, hown, hts⟩ hK hP hD hS hA hE (c_X3_isIn l D cA ad s.heap.size p3 0 1 q7 hq7) (va_cwS 3 hts gX3_year_X3_isIn rfl rfl rfl hs_X3_isIn ⟨Nat.le_of_ble_eq_true rfl, Nat.le_of_ble_eq_true rfl⟩) [] [0, 1, 2, 3] [0, 1, 2, 3] rfl rfl rfl rfl (by decide) rfl rfl rfl rfl hl.1 (Nat.le_of_ble_eq_true rfl) dX3_year_37 ⟨Nat.zero_le _, Nat.zero_le _⟩ (fun H locs hP hD hS => ?_)
          refine lv_if_ne (tgt := 50) hx hb dX3_year_40 (by decide) (fun c8 => ?_) (fun c8 => ?_)
          · have hf := rf_ifn hf c8
            refine lv_aload_n hx hb dX3_year_50 rfl (lv_at hl 0 rfl) ?_
            obtain ⟨q9, hq9, hf⟩ := rf_bindq hf
            refine rf_Vi (As := []) (rest := []) (wr := [(a_this_s, .inl (cA, 22, .inl f_this_s)), (a_this_refused, .inl (cA, 7, .inl f_this_refused))]) (wn := [(a_this, .inr (3, rf_o3 a_this_s a_this_image a_this_read a_this_mind a_this_letters a_this_row a_this_refused a_this_numbers a_this_cost g_this)), (a_this_s, .inl (cA, 22, .inl f_this_s)), (a_this_row, .inl (cA, 12, .inl f_this_row)), (a_this_refused, .inl (cA, 7, .inl f_this_refused))]) ⟨hx, hb, hml, hown, hts⟩ hK hP hD hS hA hE (c_X3_areHeats l D cA ad a_this a_this_s a_this_image a_this_read a_this_mind a_this_letters a_this_row a_this_refused a_this_numbers a_this_cost H.size g_this f_this_row q9 hq9) (cwV 0 hts gX3_year_X3_areHeats rfl rfl rfl hv_X3_areHeats ⟨Nat.le_of_ble_eq_true rfl, Nat.le_of_ble_eq_true rfl⟩) [0, 2] [1, 3] [2, 0, 3, 1] rfl rfl rfl rfl (by decide) rfl rfl 3 0 rfl rfl rfl rfl rfl hl.1 (Nat.le_of_ble_eq_true rfl) dX3_year_51 ⟨Nat.zero_le _, Nat.zero_le _⟩ (fun H locs hP hD hS => ?_)
            refine lv_if_ne (tgt := 64) hx hb dX3_year_54 (by decide) (fun c10 => ?_) (fun c10 => ?_)
            · have hf := rf_ifn hf c10
              refine lv_aload_n hx hb dX3_year_64 rfl (lv_at hl 0 rfl) ?_
              refine lv_sipush (v := 4095) hx hb dX3_year_65 (by decide) ?_
              refine lv_iload_n hx hb dX3_year_68 rfl (lv_at hl 1 rfl) ?_
              refine lv_iload_n hx hb dX3_year_69 rfl (lv_at hl 2 rfl) ?_
              obtain ⟨q11, hq11, hf⟩ := rf_bindq hf
              refine rf_Vv (As := [.int 4095, .int p1, .int p2]) (rest := []) (wr := [(a_this_refused, .inl (cA, 7, .inl f_this_refused))]) (wn := [(a_this, .inr (3, rf_o3 a_this_s a_this_image a_this_read a_this_mind a_this_letters a_this_row a_this_refused a_this_numbers a_this_cost q11)), (a_this_s, .inl (cA, 22, .inl f_this_s)), (a_this_row, .inl (cA, 12, .inl f_this_row)), (a_this_refused, .inl (cA, 7, .inl f_this_refused))]) ⟨hx, hb, hml, hown, hts⟩ hK hP hD hS hA hE (c_X3_finds l D cA ad a_this a_this_s a_this_image a_this_read a_this_mind a_this_letters a_this_row a_this_refused a_this_numbers a_this_cost H.size g_this f_this_s f_this_row 4095 p1 p2 q11 hq11) (cwV 3 hts gX3_year_X3_finds rfl rfl rfl hv_X3_finds ⟨Nat.le_of_ble_eq_true rfl, Nat.le_of_ble_eq_true rfl⟩) [0, 1, 2] [3] [1, 2, 3, 0] rfl rfl rfl rfl (by decide) rfl rfl 3 0 rfl rfl rfl rfl rfl hl.1 (Nat.le_of_ble_eq_true rfl) dX3_year_70 ⟨Nat.zero_le _, Nat.zero_le _⟩ (fun H locs hP hD hS => ?_)
              refine lv_iload_n hx hb dX3_year_73 rfl (lv_at hl 3 rfl) ?_
              refine lv_if_ne (tgt := 84) hx hb dX3_year_74 (by decide) (fun c12 => ?_) (fun c12 => ?_)
              · have hf := rf_ifn hf c12
                refine lv_aload_n hx hb dX3_year_84 rfl (lv_at hl 0 rfl) ?_
                refine va_get (D := D) (ci := 3) (v := .int (q11 5)) (C := RX3) (T := TX3) (N := 16) hx hb hts jX3_year_X3 hown hK hP 0 rfl rfl 14 (by decide) (hts _ kX3_year_0) (fun _ h9 => h9) rfl dX3_year_85 ?_
                obtain rfl := Option.some.inj hf
                exact W.iret (v := (q11 5)) hx hb hr (fun t ht hW => ⟨⟨(q11 5), (), rfl, rfl, rf_mk ht hP hD⟩, hS.F ht⟩) hS.2.2 dX3_year_88
              · have hf := rf_ifp hf c12
                refine lv_aload_n hx hb dX3_year_77 rfl (lv_at hl 0 rfl) ?_
                refine va_get (D := D) (ci := 3) (v := .int (q11 4)) (C := RX3) (T := TX3) (N := 16) hx hb hts jX3_year_X3 hown hK hP 0 rfl rfl 13 (by decide) (hts _ kX3_year_1) (fun _ h9 => h9) rfl dX3_year_78 ?_
                refine lv_goto (tgt := 88) hx hb dX3_year_81 (by decide) ?_
                obtain rfl := Option.some.inj hf
                exact W.iret (v := (q11 4)) hx hb hr (fun t ht hW => ⟨⟨(q11 4), (), rfl, rfl, rf_mk ht hP hD⟩, hS.F ht⟩) hS.2.2 dX3_year_88
            · have hf := rf_ifp hf c10
              refine lv_aload_n hx hb dX3_year_57 rfl (lv_at hl 0 rfl) ?_
              refine lv_bipush (v := (-3)) hx hb dX3_year_58 (by decide) ?_
              obtain ⟨q13, hq13, hf⟩ := rf_bindq hf
              refine rf_Vi (As := [.int (-3)]) (rest := []) (wr := [(a_this_s, .inl (cA, 22, .inl f_this_s)), (a_this_row, .inl (cA, 12, .inl f_this_row))]) (wn := [(a_this, .inr (3, rf_o3 a_this_s a_this_image a_this_read a_this_mind a_this_letters a_this_row a_this_refused a_this_numbers a_this_cost g_this)), (a_this_s, .inl (cA, 22, .inl f_this_s)), (a_this_row, .inl (cA, 12, .inl f_this_row)), (a_this_refused, .inl (cA, 7, .inl q13.2))]) ⟨hx, hb, hml, hown, hts⟩ hK hP hD hS hA hE (c_X3_no l D cA ad a_this a_this_s a_this_image a_this_read a_this_mind a_this_letters a_this_row a_this_refused a_this_numbers a_this_cost H.size g_this f_this_refused (-3) q13 hq13) (cwV 1 hts gX3_year_X3_no rfl rfl rfl hv_X3_no ⟨Nat.le_of_ble_eq_true rfl, Nat.le_of_ble_eq_true rfl⟩) [0, 3] [1, 2] [2, 0, 1, 3] rfl rfl rfl rfl (by decide) rfl rfl 3 0 rfl rfl rfl rfl rfl hl.1 (Nat.le_of_ble_eq_true rfl) dX3_year_60 ⟨Nat.zero_le _, Nat.zero_le _⟩ (fun H locs hP hD hS => ?_)
              obtain rfl := Option.some.inj hf
              exact W.iret (v := q13.1) hx hb hr (fun t ht hW => ⟨⟨q13.1, (), rfl, rfl, rf_mk ht hP hD⟩, hS.F ht⟩) hS.2.2 dX3_year_63
          · have hf := rf_ifp hf c8
            refine lv_aload_n hx hb dX3_year_43 rfl (lv_at hl 0 rfl) ?_
            refine lv_bipush (v := (-2)) hx hb dX3_year_44 (by decide) ?_
            obtain ⟨q14, hq14, hf⟩ := rf_bindq hf
            refine rf_Vi (As := [.int (-2)]) (rest := []) (wr := [(a_this_s, .inl (cA, 22, .inl f_this_s)), (a_this_row, .inl (cA, 12, .inl f_this_row))]) (wn := [(a_this, .inr (3, rf_o3 a_this_s a_this_image a_this_read a_this_mind a_this_letters a_this_row a_this_refused a_this_numbers a_this_cost g_this)), (a_this_s, .inl (cA, 22, .inl f_this_s)), (a_this_row, .inl (cA, 12, .inl f_this_row)), (a_this_refused, .inl (cA, 7, .inl q14.2))]) ⟨hx, hb, hml, hown, hts⟩ hK hP hD hS hA hE (c_X3_no l D cA ad a_this a_this_s a_this_image a_this_read a_this_mind a_this_letters a_this_row a_this_refused a_this_numbers a_this_cost H.size g_this f_this_refused (-2) q14 hq14) (cwV 1 hts gX3_year_X3_no rfl rfl rfl hv_X3_no ⟨Nat.le_of_ble_eq_true rfl, Nat.le_of_ble_eq_true rfl⟩) [0, 3] [1, 2] [2, 0, 1, 3] rfl rfl rfl rfl (by decide) rfl rfl 3 0 rfl rfl rfl rfl rfl hl.1 (Nat.le_of_ble_eq_true rfl) dX3_year_46 ⟨Nat.zero_le _, Nat.zero_le _⟩ (fun H locs hP hD hS => ?_)
            obtain rfl := Option.some.inj hf
            exact W.iret (v := q14.1) hx hb hr (fun t ht hW => ⟨⟨q14.1, (), rfl, rfl, rf_mk ht hP hD⟩, hS.F ht⟩) hS.2.2 dX3_year_49
        · have hf := rf_ifn hf c6
          refine lv_aload_n hx hb dX3_year_27 rfl (lv_at hl 0 rfl) ?_
          refine lv_bipush (v := (-6)) hx hb dX3_year_28 (by decide) ?_
          obtain ⟨q15, hq15, hf⟩ := rf_bindq hf
          refine rf_Vi (As := [.int (-6)]) (rest := []) (wr := [(a_this_s, .inl (cA, 22, .inl f_this_s)), (a_this_row, .inl (cA, 12, .inl f_this_row))]) (wn := [(a_this, .inr (3, rf_o3 a_this_s a_this_image a_this_read a_this_mind a_this_letters a_this_row a_this_refused a_this_numbers a_this_cost g_this)), (a_this_s, .inl (cA, 22, .inl f_this_s)), (a_this_row, .inl (cA, 12, .inl f_this_row)), (a_this_refused, .inl (cA, 7, .inl q15.2))]) ⟨hx, hb, hml, hown, hts⟩ hK hP hD hS hA hE (c_X3_no l D cA ad a_this a_this_s a_this_image a_this_read a_this_mind a_this_letters a_this_row a_this_refused a_this_numbers a_this_cost s.heap.size g_this f_this_refused (-6) q15 hq15) (cwV 1 hts gX3_year_X3_no rfl rfl rfl hv_X3_no ⟨Nat.le_of_ble_eq_true rfl, Nat.le_of_ble_eq_true rfl⟩) [0, 3] [1, 2] [2, 0, 1, 3] rfl rfl rfl rfl (by decide) rfl rfl 3 0 rfl rfl rfl rfl rfl hl.1 (Nat.le_of_ble_eq_true rfl) dX3_year_30 ⟨Nat.zero_le _, Nat.zero_le _⟩ (fun H locs hP hD hS => ?_)
          obtain rfl := Option.some.inj hf
          exact W.iret (v := q15.1) hx hb hr (fun t ht hW => ⟨⟨q15.1, (), rfl, rfl, rf_mk ht hP hD⟩, hS.F ht⟩) hS.2.2 dX3_year_33
    · have hf := rf_ifn hf c3
      refine lv_aload_n hx hb dX3_year_8 rfl (lv_at hl 0 rfl) ?_
      refine lv_bipush (v := (-4)) hx hb dX3_year_9 (by decide) ?_
      obtain ⟨q16, hq16, hf⟩ := rf_bindq hf
      refine rf_Vi (As := [.int (-4)]) (rest := []) (wr := [(a_this_s, .inl (cA, 22, .inl f_this_s)), (a_this_row, .inl (cA, 12, .inl f_this_row))]) (wn := [(a_this, .inr (3, rf_o3 a_this_s a_this_image a_this_read a_this_mind a_this_letters a_this_row a_this_refused a_this_numbers a_this_cost g_this)), (a_this_s, .inl (cA, 22, .inl f_this_s)), (a_this_row, .inl (cA, 12, .inl f_this_row)), (a_this_refused, .inl (cA, 7, .inl q16.2))]) ⟨hx, hb, hml, hown, hts⟩ hK hP hD hS hA hE (c_X3_no l D cA ad a_this a_this_s a_this_image a_this_read a_this_mind a_this_letters a_this_row a_this_refused a_this_numbers a_this_cost s.heap.size g_this f_this_refused (-4) q16 hq16) (cwV 1 hts gX3_year_X3_no rfl rfl rfl hv_X3_no ⟨Nat.le_of_ble_eq_true rfl, Nat.le_of_ble_eq_true rfl⟩) [0, 3] [1, 2] [2, 0, 1, 3] rfl rfl rfl rfl (by decide) rfl rfl 3 0 rfl rfl rfl rfl rfl hl.1 (Nat.le_of_ble_eq_true rfl) dX3_year_11 ⟨Nat.zero_le _, Nat.zero_le _⟩ (fun H locs hP hD hS => ?_)
      obtain rfl := Option.some.inj hf
      exact W.iret (v := q16.1) hx hb hr (fun t ht hW => ⟨⟨q16.1, (), rfl, rfl, rf_mk ht hP hD⟩, hS.F ht⟩) hS.2.2 dX3_year_14
