theorem hn_X2_movePrice : yX2_movePrice.cls ≠ "java/lang/invoke/MethodHandle" ∧ yX2_movePrice.cls ≠ "java/lang/invoke/VarHandle" ∧ (parseMethodDescriptor yX2_movePrice.desc).map (fun d => d.parameters.length) = some 2 := by decide +kernel
theorem hs_X2_kindOf : yX2_kindOf.cls ≠ "java/lang/invoke/MethodHandle" ∧ yX2_kindOf.cls ≠ "java/lang/invoke/VarHandle" ∧ (parseMethodDescriptor yX2_kindOf.desc).map (fun d => d.parameters.length) = some 1 := by decide +kernel
theorem hs_X2_put : yX2_put.cls ≠ "java/lang/invoke/MethodHandle" ∧ yX2_put.cls ≠ "java/lang/invoke/VarHandle" ∧ (parseMethodDescriptor yX2_put.desc).map (fun d => d.parameters.length) = some 3 := by decide +kernel
theorem hv_X0_copyFrom : yX0_copyFrom.cls = RX0 ∧ yX0_copyFrom.cls ≠ "java/lang/invoke/MethodHandle" ∧ yX0_copyFrom.cls ≠ "java/lang/invoke/VarHandle" ∧ (parseMethodDescriptor yX0_copyFrom.desc).map (fun d => d.parameters.length) = some 1 := by decide +kernel
theorem hv_X1_arrive : yX1_arrive.cls = RX1 ∧ yX1_arrive.cls ≠ "java/lang/invoke/MethodHandle" ∧ yX1_arrive.cls ≠ "java/lang/invoke/VarHandle" ∧ (parseMethodDescriptor yX1_arrive.desc).map (fun d => d.parameters.length) = some 2 := by decide +kernel
theorem hv_X1_clear : yX1_clear.cls = RX1 ∧ yX1_clear.cls ≠ "java/lang/invoke/MethodHandle" ∧ yX1_clear.cls ≠ "java/lang/invoke/VarHandle" ∧ (parseMethodDescriptor yX1_clear.desc).map (fun d => d.parameters.length) = some 0 := by decide +kernel
theorem hv_X1_see : yX1_see.cls = RX1 ∧ yX1_see.cls ≠ "java/lang/invoke/MethodHandle" ∧ yX1_see.cls ≠ "java/lang/invoke/VarHandle" ∧ (parseMethodDescriptor yX1_see.desc).map (fun d => d.parameters.length) = some 2 := by decide +kernel
theorem hv_X1_spread : yX1_spread.cls = RX1 ∧ yX1_spread.cls ≠ "java/lang/invoke/MethodHandle" ∧ yX1_spread.cls ≠ "java/lang/invoke/VarHandle" ∧ (parseMethodDescriptor yX1_spread.desc).map (fun d => d.parameters.length) = some 3 := by decide +kernel
theorem hv_X1_spreadLayer : yX1_spreadLayer.cls = RX1 ∧ yX1_spreadLayer.cls ≠ "java/lang/invoke/MethodHandle" ∧ yX1_spreadLayer.cls ≠ "java/lang/invoke/VarHandle" ∧ (parseMethodDescriptor yX1_spreadLayer.desc).map (fun d => d.parameters.length) = some 1 := by decide +kernel
theorem hv_X1_stand : yX1_stand.cls = RX1 ∧ yX1_stand.cls ≠ "java/lang/invoke/MethodHandle" ∧ yX1_stand.cls ≠ "java/lang/invoke/VarHandle" ∧ (parseMethodDescriptor yX1_stand.desc).map (fun d => d.parameters.length) = some 2 := by decide +kernel
theorem hv_X2_refuse : yX2_refuse.cls = RX2 ∧ yX2_refuse.cls ≠ "java/lang/invoke/MethodHandle" ∧ yX2_refuse.cls ≠ "java/lang/invoke/VarHandle" ∧ (parseMethodDescriptor yX2_refuse.desc).map (fun d => d.parameters.length) = some 1 := by decide +kernel
theorem kX1_spread_0 : (.fieldLink RX1 14 "RingAndFinger$Search" "finger" "LRingAndFinger$Finger;" : Cond) ∈ wsX1_spread := by decide +kernel
theorem kX1_spread_1 : (.fieldLink RX1 58 "RingAndFinger$Finger" "front" "I" : Cond) ∈ wsX1_spread := by decide +kernel
theorem kX1_spread_2 : (.fieldLink RX1 35 "RingAndFinger$Search" "gentle" "Z" : Cond) ∈ wsX1_spread := by decide +kernel
theorem kX1_spread_3 : (.initialized RX2 : Cond) ∈ wsX1_spread := by decide +kernel
theorem kX1_spread_4 : (.static yX2_movePrice : Cond) ∈ wsX1_spread := by decide +kernel
theorem jX1_spread_X1 : ∀ w ∈ u_ws RX1 TX1 7, w ∈ wsX1_spread := by decide +kernel
theorem jX1_spread_X0 : ∀ w ∈ u_ws RX0 TX0 12, w ∈ wsX1_spread := by decide +kernel
set_option maxHeartbeats 8000000 in
set_option maxRecDepth 100000 in
theorem c_X1_spread (l : Launch) (D : va_G) (cA : ClassId) (ad : Nat → Nat) (a_this a_this_finger a_this_waiting a_this_held a_this_seen a_this_finger_kinds a_this_finger_thicks : Nat) (sz : Nat) (g_this g_this_finger f_this_finger_kinds f_this_finger_thicks f_this_waiting f_this_held f_this_seen : Nat → Int32) (p1 p2 p3 : Int32) (q : (Nat → Int32) × (Nat → Int32) × (Nat → Int32) × (Nat → Int32)) (hf : f_X1_spread g_this g_this_finger f_this_finger_kinds f_this_finger_thicks f_this_waiting f_this_held f_this_seen p1 p2 p3 = some q) : Met l yX1_spread wsX1_spread ({ frames := 3, cells := 0, slots := 0, locals := 69 } : Room) (va_Pc [.ref a_this, .int p1, .int p2, .int p3] (rf_Pre D cA ad [(a_this, .inr (1, rf_o1 a_this_finger a_this_waiting a_this_held a_this_seen g_this)), (a_this_finger, .inr (0, rf_o0 a_this_finger_kinds a_this_finger_thicks g_this_finger)), (a_this_finger_kinds, .inl (cA, 6, .inl f_this_finger_kinds)), (a_this_finger_thicks, .inl (cA, 6, .inl f_this_finger_thicks)), (a_this_waiting, .inl (cA, 5022, .inl f_this_waiting)), (a_this_held, .inl (cA, 9, .inl f_this_held)), (a_this_seen, .inl (cA, 558, .inl f_this_seen))] sz)) (va_Qv (fun (_ : Unit) => True) (fun _ t => rf_Post D (va_A [(a_this, .inr (1, rf_o1 a_this_finger a_this_waiting a_this_held a_this_seen g_this)), (a_this_finger, .inr (0, rf_o0 a_this_finger_kinds a_this_finger_thicks g_this_finger)), (a_this_finger_kinds, .inl (cA, 6, .inl f_this_finger_kinds)), (a_this_finger_thicks, .inl (cA, 6, .inl f_this_finger_thicks)), (a_this_waiting, .inl (cA, 5022, .inl f_this_waiting)), (a_this_held, .inl (cA, 9, .inl f_this_held)), (a_this_seen, .inl (cA, 558, .inl f_this_seen))] sz) [(a_this, .inr (1, rf_o1 a_this_finger a_this_waiting a_this_held a_this_seen q.1)), (a_this_finger, .inr (0, rf_o0 a_this_finger_kinds a_this_finger_thicks q.2.1)), (a_this_finger_kinds, .inl (cA, 6, .inl f_this_finger_kinds)), (a_this_finger_thicks, .inl (cA, 6, .inl f_this_finger_thicks)), (a_this_waiting, .inl (cA, 5022, .inl q.2.2.1)), (a_this_held, .inl (cA, 9, .inl q.2.2.2)), (a_this_seen, .inl (cA, 558, .inl f_this_seen))] t) (va_A [(a_this, .inr (1, rf_o1 a_this_finger a_this_waiting a_this_held a_this_seen g_this)), (a_this_finger, .inr (0, rf_o0 a_this_finger_kinds a_this_finger_thicks g_this_finger)), (a_this_finger_kinds, .inl (cA, 6, .inl f_this_finger_kinds)), (a_this_finger_thicks, .inl (cA, 6, .inl f_this_finger_thicks)), (a_this_waiting, .inl (cA, 5022, .inl f_this_waiting)), (a_this_held, .inl (cA, 9, .inl f_this_held)), (a_this_seen, .inl (cA, 558, .inl f_this_seen))] sz)) 0 0 (va_A [(a_this, .inr (1, rf_o1 a_this_finger a_this_waiting a_this_held a_this_seen g_this)), (a_this_finger, .inr (0, rf_o0 a_this_finger_kinds a_this_finger_thicks g_this_finger)), (a_this_finger_kinds, .inl (cA, 6, .inl f_this_finger_kinds)), (a_this_finger_thicks, .inl (cA, 6, .inl f_this_finger_thicks)), (a_this_waiting, .inl (cA, 5022, .inl f_this_waiting)), (a_this_held, .inl (cA, 9, .inl f_this_held)), (a_this_seen, .inl (cA, 558, .inl f_this_seen))] sz) := by
  refine Met.ofW (cc := cX1_spread) (maxL := 8) (ret := none) (by decide) rfl ?_
  intro p e s m args below meth c s₁ B hml hv
  obtain ⟨rfl, hsz, hP, hK, hD0, hE⟩ := hv
  have hx := B.exec
  have hb := B.bytes
  have hr := B.returns
  have hts := atoms_spec (ws := wsX1_spread) B.pre
  have hown : s.vm.findClass RX1 = some m.cls := findClass_of_methodNamed B.named
  have hlocks := B.notSynchronized
  subst hsz
  have hD := hD0.self (sz := s.heap.size)
  generalize hAe : va_A [(a_this, .inr (1, rf_o1 a_this_finger a_this_waiting a_this_held a_this_seen g_this)), (a_this_finger, .inr (0, rf_o0 a_this_finger_kinds a_this_finger_thicks g_this_finger)), (a_this_finger_kinds, .inl (cA, 6, .inl f_this_finger_kinds)), (a_this_finger_thicks, .inl (cA, 6, .inl f_this_finger_thicks)), (a_this_waiting, .inl (cA, 5022, .inl f_this_waiting)), (a_this_held, .inl (cA, 9, .inl f_this_held)), (a_this_seen, .inl (cA, 558, .inl f_this_seen))] s.heap.size = A at hD hE ⊢
  have hA : ∀ q : Nat, s.heap.size ≤ q → A q := fun q h => by rw [← hAe]; exact Or.inr h
  have hS : va_S A s.heap s.heap [] := va_S.rf
  have hP : va_P D vwCl [(a_this, .inr (1, rf_o1 a_this_finger a_this_waiting a_this_held a_this_seen g_this)), (a_this_finger, .inr (0, rf_o0 a_this_finger_kinds a_this_finger_thicks g_this_finger)), (a_this_finger_kinds, .inl (cA, 6, .inl f_this_finger_kinds)), (a_this_finger_thicks, .inl (cA, 6, .inl f_this_finger_thicks)), (a_this_waiting, .inl (cA, 5022, .inl f_this_waiting)), (a_this_held, .inl (cA, 9, .inl f_this_held)), (a_this_seen, .inl (cA, 558, .inl f_this_seen))] s.heap := hP
  have hl := lv_entry ([.ref a_this, .int p1, .int p2, .int p3]) (n := 8) (Nat.le_of_ble_eq_true rfl)
  rw [lg_entry_eq]
  generalize (lg_sl ([.ref a_this, .int p1, .int p2, .int p3]) ++ List.replicate (8 - (lg_sl ([.ref a_this, .int p1, .int p2, .int p3])).length) Slot.unset).toArray = ls at hl ⊢
  have hl : lv_has ls 8 [(0, .ref a_this), (1, .int p1), (2, .int p2), (3, .int p3)] := hl
  have key_11 : ∀ (x4 : Int32) (n : Nat) (x5 : Int32) (yg_this yg_this_finger yf_this_waiting yf_this_held : Nat → Int32) (ql : Int32 × (Nat → Int32) × (Nat → Int32) × (Nat → Int32) × (Nat → Int32)), f_X1_spread_L11 f_this_finger_kinds f_this_finger_thicks f_this_seen p1 p2 p3 x4 n x5 yg_this yg_this_finger yf_this_waiting yf_this_held = some ql → ∀ (H : Heap) (locs : List Loc) (ls : Array Slot), va_P D vwCl [(a_this, .inr (1, rf_o1 a_this_finger a_this_waiting a_this_held a_this_seen yg_this)), (a_this_finger, .inr (0, rf_o0 a_this_finger_kinds a_this_finger_thicks yg_this_finger)), (a_this_finger_kinds, .inl (cA, 6, .inl f_this_finger_kinds)), (a_this_finger_thicks, .inl (cA, 6, .inl f_this_finger_thicks)), (a_this_waiting, .inl (cA, 5022, .inl yf_this_waiting)), (a_this_held, .inl (cA, 9, .inl yf_this_held)), (a_this_seen, .inl (cA, 558, .inl f_this_seen))] H → va_D A [(a_this, .inr (1, rf_o1 a_this_finger a_this_waiting a_this_held a_this_seen yg_this)), (a_this_finger, .inr (0, rf_o0 a_this_finger_kinds a_this_finger_thicks yg_this_finger)), (a_this_finger_kinds, .inl (cA, 6, .inl f_this_finger_kinds)), (a_this_finger_thicks, .inl (cA, 6, .inl f_this_finger_thicks)), (a_this_waiting, .inl (cA, 5022, .inl yf_this_waiting)), (a_this_held, .inl (cA, 9, .inl yf_this_held)), (a_this_seen, .inl (cA, 558, .inl f_this_seen))] → va_S A s.heap H locs → lv_has ls 8 [(0, .ref a_this), (1, .int p1), (2, .int p2), (3, .int p3), (4, .int x4), (5, .int x5)] → (∀ (H : Heap) (locs : List Loc) (ls : Array Slot), va_P D vwCl [(a_this, .inr (1, rf_o1 a_this_finger a_this_waiting a_this_held a_this_seen ql.2.1)), (a_this_finger, .inr (0, rf_o0 a_this_finger_kinds a_this_finger_thicks ql.2.2.1)), (a_this_finger_kinds, .inl (cA, 6, .inl f_this_finger_kinds)), (a_this_finger_thicks, .inl (cA, 6, .inl f_this_finger_thicks)), (a_this_waiting, .inl (cA, 5022, .inl ql.2.2.2.1)), (a_this_held, .inl (cA, 9, .inl ql.2.2.2.2)), (a_this_seen, .inl (cA, 558, .inl f_this_seen))] H → va_D A [(a_this, .inr (1, rf_o1 a_this_finger a_this_waiting a_this_held a_this_seen ql.2.1)), (a_this_finger, .inr (0, rf_o0 a_this_finger_kinds a_this_finger_thicks ql.2.2.1)), (a_this_finger_kinds, .inl (cA, 6, .inl f_this_finger_kinds)), (a_this_finger_thicks, .inl (cA, 6, .inl f_this_finger_thicks)), (a_this_waiting, .inl (cA, 5022, .inl ql.2.2.2.1)), (a_this_held, .inl (cA, 9, .inl ql.2.2.2.2)), (a_this_seen, .inl (cA, 558, .inl f_this_seen))] → va_S A s.heap H locs → lv_has ls 8 [(0, .ref a_this), (1, .int p1), (2, .int p2), (3, .int p3), (4, .int x4), (5, .int ql.1)] → W p l e (headSpec wsX1_spread ({ frames := 3, cells := 0, slots := 0, locals := 69 } : Room)).room s m ([.ref a_this, .int p1, .int p2, .int p3] : List Value).toArray below meth c H locs 0 0 (MQ below (va_Qv (fun (_ : Unit) => True) (fun _ t => rf_Post D A [(a_this, .inr (1, rf_o1 a_this_finger a_this_waiting a_this_held a_this_seen q.1)), (a_this_finger, .inr (0, rf_o0 a_this_finger_kinds a_this_finger_thicks q.2.1)), (a_this_finger_kinds, .inl (cA, 6, .inl f_this_finger_kinds)), (a_this_finger_thicks, .inl (cA, 6, .inl f_this_finger_thicks)), (a_this_waiting, .inl (cA, 5022, .inl q.2.2.1)), (a_this_held, .inl (cA, 9, .inl q.2.2.2)), (a_this_seen, .inl (cA, 558, .inl f_this_seen))] t) A) ([.ref a_this, .int p1, .int p2, .int p3] : List Value).toArray s 0 0 A) (F0 m 140 ls [])) → W p l e (headSpec wsX1_spread ({ frames := 3, cells := 0, slots := 0, locals := 69 } : Room)).room s m ([.ref a_this, .int p1, .int p2, .int p3] : List Value).toArray below meth c H locs 0 0 (MQ below (va_Qv (fun (_ : Unit) => True) (fun _ t => rf_Post D A [(a_this, .inr (1, rf_o1 a_this_finger a_this_waiting a_this_held a_this_seen q.1)), (a_this_finger, .inr (0, rf_o0 a_this_finger_kinds a_this_finger_thicks q.2.1)), (a_this_finger_kinds, .inl (cA, 6, .inl f_this_finger_kinds)), (a_this_finger_thicks, .inl (cA, 6, .inl f_this_finger_thicks)), (a_this_waiting, .inl (cA, 5022, .inl q.2.2.1)), (a_this_held, .inl (cA, 9, .inl q.2.2.2)), (a_this_seen, .inl (cA, 558, .inl f_this_seen))] t) A) ([.ref a_this, .int p1, .int p2, .int p3] : List Value).toArray s 0 0 A) (F0 m 11 ls []) := by
    intro x4 n
    induction n with
    | zero =>
      intro x5 yg_this yg_this_finger yf_this_waiting yf_this_held ql hf H locs ls hP hD hS hl kx
      exact absurd (show (none : Option (Int32 × (Nat → Int32) × (Nat → Int32) × (Nat → Int32) × (Nat → Int32))) = some ql from hf) (fun h9 => by cases h9)
    | succ n ih =>
      intro x5 yg_this yg_this_finger yf_this_waiting yf_this_held ql hf H locs ls hP hD hS hl kx
      rw [f_X1_spread_L11] at hf
      refine lv_iload hx hb dX1_spread_11 (lv_at hl 5 rfl) ?_
      refine lv_bipush (v := 6) hx hb dX1_spread_13 (by decide) ?_
      refine lv_icmp_gt (tgt := 140) hx hb dX1_spread_15 (by decide) (fun c1 => ?_) (fun c1 => ?_)
      · have hf := rf_ifp hf c1
        obtain rfl := Option.some.inj hf
        exact kx _ _ _ hP hD hS (lv_sub hl [0, 1, 2, 3, 4, 5] rfl)
      · have hf := rf_ifn hf c1
        refine lv_aload_n hx hb dX1_spread_18 rfl (lv_at hl 0 rfl) ?_
        refine lv_iload_n hx hb dX1_spread_19 rfl (lv_at hl 2 rfl) ?_
        refine lv_iload_n hx hb dX1_spread_20 rfl (lv_at hl 3 rfl) ?_
        obtain ⟨q2, hq2, hf⟩ := rf_bindq hf
        refine rf_Vv (As := [.int p2, .int p3]) (rest := []) (wr := [(a_this_finger_kinds, .inl (cA, 6, .inl f_this_finger_kinds)), (a_this_finger_thicks, .inl (cA, 6, .inl f_this_finger_thicks)), (a_this_waiting, .inl (cA, 5022, .inl yf_this_waiting)), (a_this_held, .inl (cA, 9, .inl yf_this_held)), (a_this_seen, .inl (cA, 558, .inl f_this_seen))]) (wn := [(a_this, .inr (1, rf_o1 a_this_finger a_this_waiting a_this_held a_this_seen yg_this)), (a_this_finger, .inr (0, rf_o0 a_this_finger_kinds a_this_finger_thicks q2)), (a_this_finger_kinds, .inl (cA, 6, .inl f_this_finger_kinds)), (a_this_finger_thicks, .inl (cA, 6, .inl f_this_finger_thicks)), (a_this_waiting, .inl (cA, 5022, .inl yf_this_waiting)), (a_this_held, .inl (cA, 9, .inl yf_this_held)), (a_this_seen, .inl (cA, 558, .inl f_this_seen))]) ⟨hx, hb, hml, hown, hts⟩ hK hP hD hS hA hE (c_X1_stand l D cA ad a_this a_this_finger a_this_waiting a_this_held a_this_seen a_this_finger_kinds a_this_finger_thicks H.size yg_this yg_this_finger p2 p3 q2 hq2) (cwV 2 hts gX1_spread_X1_stand rfl rfl rfl hv_X1_stand ⟨Nat.le_of_ble_eq_true rfl, Nat.le_of_ble_eq_true rfl⟩) [0, 1] [2, 3, 4, 5, 6] [5, 6, 0, 1, 2, 3, 4] rfl rfl rfl rfl (by decide) rfl rfl 1 0 rfl rfl rfl rfl rfl hl.1 (Nat.le_of_ble_eq_true rfl) dX1_spread_21 ⟨Nat.zero_le _, Nat.zero_le _⟩ (fun H locs hP hD hS => ?_)
        refine lv_iload hx hb dX1_spread_24 (lv_at hl 5 rfl) ?_
        refine lv_iconst (v := 5) hx hb dX1_spread_26 (by decide) ?_
        refine lv_icmp_ne (tgt := 34) hx hb dX1_spread_27 (by decide) (fun c3 => ?_) (fun c3 => ?_)
        · have hf := rf_ifn hf c3
          refine lv_iconst (v := 0) hx hb dX1_spread_34 (by decide) ?_
          refine lv_istore (lv' := [(6, .int 0), (0, .ref a_this), (1, .int p1), (2, .int p2), (3, .int p3), (4, .int x4), (5, .int x5)]) hx hb dX1_spread_35 hl (by decide) rfl (fun ls hl => ?_)
          refine lv_aload_n hx hb dX1_spread_37 rfl (lv_at hl 1 rfl) ?_
          refine va_get (D := D) (ci := 1) (v := .ref a_this_finger) (C := RX1) (T := TX1) (N := 7) hx hb hts jX1_spread_X1 hown hK hP 0 rfl rfl 0 (by decide) (hts _ kX1_spread_0) (fun _ h9 => h9) rfl dX1_spread_38 ?_
          refine lv_iload hx hb dX1_spread_41 (lv_at hl 6 rfl) ?_
          obtain ⟨q4, hq4, hf⟩ := rf_bindq hf
          refine rf_Vi (As := [.int x5]) (rest := []) (wr := [(a_this, .inr (1, rf_o1 a_this_finger a_this_waiting a_this_held a_this_seen yg_this)), (a_this_waiting, .inl (cA, 5022, .inl yf_this_waiting)), (a_this_held, .inl (cA, 9, .inl yf_this_held)), (a_this_seen, .inl (cA, 558, .inl f_this_seen))]) (wn := [(a_this, .inr (1, rf_o1 a_this_finger a_this_waiting a_this_held a_this_seen yg_this)), (a_this_finger, .inr (0, rf_o0 a_this_finger_kinds a_this_finger_thicks q2)), (a_this_finger_kinds, .inl (cA, 6, .inl f_this_finger_kinds)), (a_this_finger_thicks, .inl (cA, 6, .inl f_this_finger_thicks)), (a_this_waiting, .inl (cA, 5022, .inl yf_this_waiting)), (a_this_held, .inl (cA, 9, .inl yf_this_held)), (a_this_seen, .inl (cA, 558, .inl f_this_seen))]) ⟨hx, hb, hml, hown, hts⟩ hK hP hD hS hA hE (c_X0_goesOver l D cA ad a_this_finger a_this_finger_kinds a_this_finger_thicks H.size q2 f_this_finger_kinds f_this_finger_thicks x5 q4 hq4) (cwV 1 hts gX1_spread_X0_goesOver rfl rfl rfl hv_X0_goesOver ⟨Nat.le_of_ble_eq_true rfl, Nat.le_of_ble_eq_true rfl⟩) [1, 2, 3] [0, 4, 5, 6] [0, 4, 5, 6, 1, 2, 3] rfl rfl rfl rfl (by decide) rfl rfl 0 1 rfl rfl rfl rfl rfl hl.1 (Nat.le_of_ble_eq_true rfl) dX1_spread_43 ⟨Nat.zero_le _, Nat.zero_le _⟩ (fun H locs hP hD hS => ?_)
          refine lv_istore (lv' := [(7, .int q4), (6, .int 0), (0, .ref a_this), (1, .int p1), (2, .int p2), (3, .int p3), (4, .int x4), (5, .int x5)]) hx hb dX1_spread_46 hl (by decide) rfl (fun ls hl => ?_)
          refine lv_iload hx hb dX1_spread_48 (lv_at hl 0 rfl) ?_
          refine lv_if_ne (tgt := 60) hx hb dX1_spread_50 (by decide) (fun c5 => ?_) (fun c5 => ?_)
          · have hf := rf_ifn hf c5
            refine lv_iload hx hb dX1_spread_60 (lv_at hl 1 rfl) ?_
            refine lv_if_eq (tgt := 74) hx hb dX1_spread_62 (by decide) (fun c6 => ?_) (fun c6 => ?_)
            · refine lv_aload_n hx hb dX1_spread_74 rfl (lv_at hl 2 rfl) ?_
              refine va_get (D := D) (ci := 1) (v := .ref a_this_finger) (C := RX1) (T := TX1) (N := 7) hx hb hts jX1_spread_X1 hown hK hP 0 rfl rfl 0 (by decide) (hts _ kX1_spread_0) (fun _ h9 => h9) rfl dX1_spread_75 ?_
              refine lv_iload hx hb dX1_spread_78 (lv_at hl 7 rfl) ?_
              obtain ⟨q7, hq7, hf⟩ := rf_bindq hf
              refine rf_Vv (As := [.int x5]) (rest := []) (wr := [(a_this, .inr (1, rf_o1 a_this_finger a_this_waiting a_this_held a_this_seen yg_this)), (a_this_finger_kinds, .inl (cA, 6, .inl f_this_finger_kinds)), (a_this_finger_thicks, .inl (cA, 6, .inl f_this_finger_thicks)), (a_this_waiting, .inl (cA, 5022, .inl yf_this_waiting)), (a_this_held, .inl (cA, 9, .inl yf_this_held)), (a_this_seen, .inl (cA, 558, .inl f_this_seen))]) (wn := [(a_this, .inr (1, rf_o1 a_this_finger a_this_waiting a_this_held a_this_seen yg_this)), (a_this_finger, .inr (0, rf_o0 a_this_finger_kinds a_this_finger_thicks q7)), (a_this_finger_kinds, .inl (cA, 6, .inl f_this_finger_kinds)), (a_this_finger_thicks, .inl (cA, 6, .inl f_this_finger_thicks)), (a_this_waiting, .inl (cA, 5022, .inl yf_this_waiting)), (a_this_held, .inl (cA, 9, .inl yf_this_held)), (a_this_seen, .inl (cA, 558, .inl f_this_seen))]) ⟨hx, hb, hml, hown, hts⟩ hK hP hD hS hA hE (c_X0_strain l D cA ad a_this_finger a_this_finger_kinds a_this_finger_thicks H.size q2 x5 q7 hq7) (cwV 1 hts gX1_spread_X0_strain rfl rfl rfl hv_X0_strain ⟨Nat.le_of_ble_eq_true rfl, Nat.le_of_ble_eq_true rfl⟩) [1] [0, 2, 3, 4, 5, 6] [0, 6, 1, 2, 3, 4, 5] rfl rfl rfl rfl (by decide) rfl rfl 0 1 rfl rfl rfl rfl rfl hl.1 (Nat.le_of_ble_eq_true rfl) dX1_spread_80 ⟨Nat.zero_le _, Nat.zero_le _⟩ (fun H locs hP hD hS => ?_)
              refine lv_aload_n hx hb dX1_spread_83 rfl (lv_at hl 2 rfl) ?_
              refine va_get (D := D) (ci := 1) (v := .ref a_this_finger) (C := RX1) (T := TX1) (N := 7) hx hb hts jX1_spread_X1 hown hK hP 0 rfl rfl 0 (by decide) (hts _ kX1_spread_0) (fun _ h9 => h9) rfl dX1_spread_84 ?_
              refine lv_dup hx hb dX1_spread_87 rfl ?_
              refine va_get (D := D) (ci := 0) (v := .int (q7 3)) (C := RX0) (T := TX0) (N := 12) hx hb hts jX1_spread_X0 hown hK hP 1 rfl rfl 5 (by decide) (hts _ kX1_spread_1) (fun _ h9 => h9) rfl dX1_spread_88 ?_
              refine lv_iload hx hb dX1_spread_91 (lv_at hl 0 rfl) ?_
              refine lv_if_eq (tgt := 100) hx hb dX1_spread_93 (by decide) (fun c8 => ?_) (fun c8 => ?_)
              · have hf := rf_ifp hf c8
                refine lv_iconst (v := 0) hx hb dX1_spread_100 (by decide) ?_
                refine lv_iadd hx hb dX1_spread_101 ?_
                refine lv_topi (fun v9 ev9 => ?_)
                have hf := rf_bindv hf ev9
                clear ev9
                refine va_put (D := D) (ci := 0) (v := .int v9) (ty := .int) (C := RX0) (T := TX0) (N := 12) hx hb hts jX1_spread_X0 tyX0 tyX0_ok nmX0 hown hK hP hD hS 1 rfl rfl 5 (by decide) (hts _ kX1_spread_1) (fun _ h9 => h9) rfl (by decide +kernel) rfl rfl (Nat.le_of_ble_eq_true rfl) dX1_spread_102 (fun H locs hP hD hS => ?_)
                have hP : va_P D vwCl [(a_this, .inr (1, rf_o1 a_this_finger a_this_waiting a_this_held a_this_seen yg_this)), (a_this_finger, .inr (0, rf_o0 a_this_finger_kinds a_this_finger_thicks (upd q7 3 v9))), (a_this_finger_kinds, .inl (cA, 6, .inl f_this_finger_kinds)), (a_this_finger_thicks, .inl (cA, 6, .inl f_this_finger_thicks)), (a_this_waiting, .inl (cA, 5022, .inl yf_this_waiting)), (a_this_held, .inl (cA, 9, .inl yf_this_held)), (a_this_seen, .inl (cA, 558, .inl f_this_seen))] H := hP
                have hD : va_D A [(a_this, .inr (1, rf_o1 a_this_finger a_this_waiting a_this_held a_this_seen yg_this)), (a_this_finger, .inr (0, rf_o0 a_this_finger_kinds a_this_finger_thicks (upd q7 3 v9))), (a_this_finger_kinds, .inl (cA, 6, .inl f_this_finger_kinds)), (a_this_finger_thicks, .inl (cA, 6, .inl f_this_finger_thicks)), (a_this_waiting, .inl (cA, 5022, .inl yf_this_waiting)), (a_this_held, .inl (cA, 9, .inl yf_this_held)), (a_this_seen, .inl (cA, 558, .inl f_this_seen))] := hD
                refine lv_aload_n hx hb dX1_spread_105 rfl (lv_at hl 2 rfl) ?_
                refine lv_iload_n hx hb dX1_spread_106 rfl (lv_at hl 3 rfl) ?_
                refine lv_iload hx hb dX1_spread_107 (lv_at hl 7 rfl) ?_
                refine lv_aload_n hx hb dX1_spread_109 rfl (lv_at hl 2 rfl) ?_
                refine va_get (D := D) (ci := 1) (v := .int (yg_this 2)) (C := RX1) (T := TX1) (N := 7) hx hb hts jX1_spread_X1 hown hK hP 0 rfl rfl 6 (by decide) (hts _ kX1_spread_2) (fun _ h9 => h9) rfl dX1_spread_110 ?_
                obtain ⟨q10, hq10, hf⟩ := rf_bindq hf
                refine rf_Ni (As := [.int x5, .int (yg_this 2)]) (rest := [.int p1, .ref a_this]) (wr := [(a_this, .inr (1, rf_o1 a_this_finger a_this_waiting a_this_held a_this_seen yg_this)), (a_this_finger, .inr (0, rf_o0 a_this_finger_kinds a_this_finger_thicks (upd q7 3 v9))), (a_this_finger_kinds, .inl (cA, 6, .inl f_this_finger_kinds)), (a_this_finger_thicks, .inl (cA, 6, .inl f_this_finger_thicks)), (a_this_waiting, .inl (cA, 5022, .inl yf_this_waiting)), (a_this_held, .inl (cA, 9, .inl yf_this_held)), (a_this_seen, .inl (cA, 558, .inl f_this_seen))]) (wn := [(a_this, .inr (1, rf_o1 a_this_finger a_this_waiting a_this_held a_this_seen yg_this)), (a_this_finger, .inr (0, rf_o0 a_this_finger_kinds a_this_finger_thicks (upd q7 3 v9))), (a_this_finger_kinds, .inl (cA, 6, .inl f_this_finger_kinds)), (a_this_finger_thicks, .inl (cA, 6, .inl f_this_finger_thicks)), (a_this_waiting, .inl (cA, 5022, .inl yf_this_waiting)), (a_this_held, .inl (cA, 9, .inl yf_this_held)), (a_this_seen, .inl (cA, 558, .inl f_this_seen))]) ⟨hx, hb, hml, hown, hts⟩ hK hP hD hS hA hE (c_X2_movePrice l D cA ad H.size x5 (yg_this 2) q10 hq10) ⟨va_cnB (host := "RingAndFinger") 2 hts gX1_spread_X2_movePrice_n92 rfl rfl rfl (hE.1 7 _ rfl) (hts _ kX1_spread_3) hn_X2_movePrice ⟨Nat.le_of_ble_eq_true rfl, Nat.le_of_ble_eq_true rfl⟩, (hts _ kX1_spread_4), trivial⟩ [] [0, 1, 2, 3, 4, 5, 6] [0, 1, 2, 3, 4, 5, 6] rfl rfl rfl rfl (by decide) rfl rfl rfl rfl hl.1 (Nat.le_of_ble_eq_true rfl) dX1_spread_113 ⟨Nat.zero_le _, Nat.zero_le _⟩ (fun H locs hP hD hS => ?_)
                refine lv_iadd hx hb dX1_spread_116 ?_
                refine lv_iload hx hb dX1_spread_117 (lv_at hl 1 rfl) ?_
                refine lv_if_eq (tgt := 129) hx hb dX1_spread_119 (by decide) (fun c11 => ?_) (fun c11 => ?_)
                · refine lv_iload hx hb dX1_spread_129 (lv_at hl 6 rfl) ?_
                  obtain ⟨q12, hq12, hf⟩ := rf_bindq hf
                  refine rf_Vv (As := [.int (p1 + q10), .int x4]) (rest := []) (wr := [(a_this_finger_kinds, .inl (cA, 6, .inl f_this_finger_kinds)), (a_this_finger_thicks, .inl (cA, 6, .inl f_this_finger_thicks))]) (wn := [(a_this, .inr (1, rf_o1 a_this_finger a_this_waiting a_this_held a_this_seen q12.1)), (a_this_finger, .inr (0, rf_o0 a_this_finger_kinds a_this_finger_thicks (upd q7 3 v9))), (a_this_finger_kinds, .inl (cA, 6, .inl f_this_finger_kinds)), (a_this_finger_thicks, .inl (cA, 6, .inl f_this_finger_thicks)), (a_this_waiting, .inl (cA, 5022, .inl q12.2.1)), (a_this_held, .inl (cA, 9, .inl q12.2.2)), (a_this_seen, .inl (cA, 558, .inl f_this_seen))]) ⟨hx, hb, hml, hown, hts⟩ hK hP hD hS hA hE (c_X1_arrive l D cA ad a_this a_this_finger a_this_waiting a_this_held a_this_seen a_this_finger_kinds a_this_finger_thicks H.size yg_this (upd q7 3 v9) yf_this_waiting yf_this_held f_this_seen (p1 + q10) x4 q12 hq12) (cwV 2 hts gX1_spread_X1_arrive rfl rfl rfl hv_X1_arrive ⟨Nat.le_of_ble_eq_true rfl, Nat.le_of_ble_eq_true rfl⟩) [0, 1, 4, 5, 6] [2, 3] [2, 3, 0, 1, 4, 5, 6] rfl rfl rfl rfl (by decide) rfl rfl 1 0 rfl rfl rfl rfl rfl hl.1 (Nat.le_of_ble_eq_true rfl) dX1_spread_131 ⟨Nat.zero_le _, Nat.zero_le _⟩ (fun H locs hP hD hS => ?_)
                  obtain ⟨v13, ev13⟩ : ∃ y : Int32, y = x5 + 1 := ⟨_, rfl⟩
                  have hf := rf_bindv hf ev13
                  refine lv_iinc (v := v13) (lv' := [(5, .int v13), (7, .int q4), (6, .int 0), (0, .ref a_this), (1, .int p1), (2, .int p2), (3, .int p3), (4, .int x4)]) hx hb dX1_spread_134 hl (k := 7) rfl (by rw [ev13]; rfl) (by decide) rfl (fun ls hl => ?_)
                  clear ev13
                  refine lv_goto (tgt := 11) hx hb dX1_spread_137 (by decide) ?_
                  exact ih v13 q12.1 (upd q7 3 v9) q12.2.1 q12.2.2 ql hf _ _ _ hP hD hS (lv_sub hl [3, 4, 5, 6, 7, 0] rfl) kx
                · exact absurd c11 (by decide)
              · have hf := rf_ifn hf c8
                refine lv_iconst (v := 1) hx hb dX1_spread_96 (by decide) ?_
                refine lv_goto (tgt := 101) hx hb dX1_spread_97 (by decide) ?_
                refine lv_iadd hx hb dX1_spread_101 ?_
                refine lv_topi (fun v14 ev14 => ?_)
                have hf := rf_bindv hf ev14
                clear ev14
                refine va_put (D := D) (ci := 0) (v := .int v14) (ty := .int) (C := RX0) (T := TX0) (N := 12) hx hb hts jX1_spread_X0 tyX0 tyX0_ok nmX0 hown hK hP hD hS 1 rfl rfl 5 (by decide) (hts _ kX1_spread_1) (fun _ h9 => h9) rfl (by decide +kernel) rfl rfl (Nat.le_of_ble_eq_true rfl) dX1_spread_102 (fun H locs hP hD hS => ?_)
                have hP : va_P D vwCl [(a_this, .inr (1, rf_o1 a_this_finger a_this_waiting a_this_held a_this_seen yg_this)), (a_this_finger, .inr (0, rf_o0 a_this_finger_kinds a_this_finger_thicks (upd q7 3 v14))), (a_this_finger_kinds, .inl (cA, 6, .inl f_this_finger_kinds)), (a_this_finger_thicks, .inl (cA, 6, .inl f_this_finger_thicks)), (a_this_waiting, .inl (cA, 5022, .inl yf_this_waiting)), (a_this_held, .inl (cA, 9, .inl yf_this_held)), (a_this_seen, .inl (cA, 558, .inl f_this_seen))] H := hP
                have hD : va_D A [(a_this, .inr (1, rf_o1 a_this_finger a_this_waiting a_this_held a_this_seen yg_this)), (a_this_finger, .inr (0, rf_o0 a_this_finger_kinds a_this_finger_thicks (upd q7 3 v14))), (a_this_finger_kinds, .inl (cA, 6, .inl f_this_finger_kinds)), (a_this_finger_thicks, .inl (cA, 6, .inl f_this_finger_thicks)), (a_this_waiting, .inl (cA, 5022, .inl yf_this_waiting)), (a_this_held, .inl (cA, 9, .inl yf_this_held)), (a_this_seen, .inl (cA, 558, .inl f_this_seen))] := hD
                refine lv_aload_n hx hb dX1_spread_105 rfl (lv_at hl 2 rfl) ?_
                refine lv_iload_n hx hb dX1_spread_106 rfl (lv_at hl 3 rfl) ?_
                refine lv_iload hx hb dX1_spread_107 (lv_at hl 7 rfl) ?_
                refine lv_aload_n hx hb dX1_spread_109 rfl (lv_at hl 2 rfl) ?_
                refine va_get (D := D) (ci := 1) (v := .int (yg_this 2)) (C := RX1) (T := TX1) (N := 7) hx hb hts jX1_spread_X1 hown hK hP 0 rfl rfl 6 (by decide) (hts _ kX1_spread_2) (fun _ h9 => h9) rfl dX1_spread_110 ?_
                obtain ⟨q15, hq15, hf⟩ := rf_bindq hf
                refine rf_Ni (As := [.int x5, .int (yg_this 2)]) (rest := [.int p1, .ref a_this]) (wr := [(a_this, .inr (1, rf_o1 a_this_finger a_this_waiting a_this_held a_this_seen yg_this)), (a_this_finger, .inr (0, rf_o0 a_this_finger_kinds a_this_finger_thicks (upd q7 3 v14))), (a_this_finger_kinds, .inl (cA, 6, .inl f_this_finger_kinds)), (a_this_finger_thicks, .inl (cA, 6, .inl f_this_finger_thicks)), (a_this_waiting, .inl (cA, 5022, .inl yf_this_waiting)), (a_this_held, .inl (cA, 9, .inl yf_this_held)), (a_this_seen, .inl (cA, 558, .inl f_this_seen))]) (wn := [(a_this, .inr (1, rf_o1 a_this_finger a_this_waiting a_this_held a_this_seen yg_this)), (a_this_finger, .inr (0, rf_o0 a_this_finger_kinds a_this_finger_thicks (upd q7 3 v14))), (a_this_finger_kinds, .inl (cA, 6, .inl f_this_finger_kinds)), (a_this_finger_thicks, .inl (cA, 6, .inl f_this_finger_thicks)), (a_this_waiting, .inl (cA, 5022, .inl yf_this_waiting)), (a_this_held, .inl (cA, 9, .inl yf_this_held)), (a_this_seen, .inl (cA, 558, .inl f_this_seen))]) ⟨hx, hb, hml, hown, hts⟩ hK hP hD hS hA hE (c_X2_movePrice l D cA ad H.size x5 (yg_this 2) q15 hq15) ⟨va_cnB (host := "RingAndFinger") 2 hts gX1_spread_X2_movePrice_n92 rfl rfl rfl (hE.1 7 _ rfl) (hts _ kX1_spread_3) hn_X2_movePrice ⟨Nat.le_of_ble_eq_true rfl, Nat.le_of_ble_eq_true rfl⟩, (hts _ kX1_spread_4), trivial⟩ [] [0, 1, 2, 3, 4, 5, 6] [0, 1, 2, 3, 4, 5, 6] rfl rfl rfl rfl (by decide) rfl rfl rfl rfl hl.1 (Nat.le_of_ble_eq_true rfl) dX1_spread_113 ⟨Nat.zero_le _, Nat.zero_le _⟩ (fun H locs hP hD hS => ?_)
                refine lv_iadd hx hb dX1_spread_116 ?_
                refine lv_iload hx hb dX1_spread_117 (lv_at hl 1 rfl) ?_
                refine lv_if_eq (tgt := 129) hx hb dX1_spread_119 (by decide) (fun c16 => ?_) (fun c16 => ?_)
                · refine lv_iload hx hb dX1_spread_129 (lv_at hl 6 rfl) ?_
                  obtain ⟨q17, hq17, hf⟩ := rf_bindq hf
                  refine rf_Vv (As := [.int (p1 + q15), .int x4]) (rest := []) (wr := [(a_this_finger_kinds, .inl (cA, 6, .inl f_this_finger_kinds)), (a_this_finger_thicks, .inl (cA, 6, .inl f_this_finger_thicks))]) (wn := [(a_this, .inr (1, rf_o1 a_this_finger a_this_waiting a_this_held a_this_seen q17.1)), (a_this_finger, .inr (0, rf_o0 a_this_finger_kinds a_this_finger_thicks (upd q7 3 v14))), (a_this_finger_kinds, .inl (cA, 6, .inl f_this_finger_kinds)), (a_this_finger_thicks, .inl (cA, 6, .inl f_this_finger_thicks)), (a_this_waiting, .inl (cA, 5022, .inl q17.2.1)), (a_this_held, .inl (cA, 9, .inl q17.2.2)), (a_this_seen, .inl (cA, 558, .inl f_this_seen))]) ⟨hx, hb, hml, hown, hts⟩ hK hP hD hS hA hE (c_X1_arrive l D cA ad a_this a_this_finger a_this_waiting a_this_held a_this_seen a_this_finger_kinds a_this_finger_thicks H.size yg_this (upd q7 3 v14) yf_this_waiting yf_this_held f_this_seen (p1 + q15) x4 q17 hq17) (cwV 2 hts gX1_spread_X1_arrive rfl rfl rfl hv_X1_arrive ⟨Nat.le_of_ble_eq_true rfl, Nat.le_of_ble_eq_true rfl⟩) [0, 1, 4, 5, 6] [2, 3] [2, 3, 0, 1, 4, 5, 6] rfl rfl rfl rfl (by decide) rfl rfl 1 0 rfl rfl rfl rfl rfl hl.1 (Nat.le_of_ble_eq_true rfl) dX1_spread_131 ⟨Nat.zero_le _, Nat.zero_le _⟩ (fun H locs hP hD hS => ?_)
                  obtain ⟨v18, ev18⟩ : ∃ y : Int32, y = x5 + 1 := ⟨_, rfl⟩
                  have hf := rf_bindv hf ev18
                  refine lv_iinc (v := v18) (lv' := [(5, .int v18), (7, .int q4), (6, .int 0), (0, .ref a_this), (1, .int p1), (2, .int p2), (3, .int p3), (4, .int x4)]) hx hb dX1_spread_134 hl (k := 7) rfl (by rw [ev18]; rfl) (by decide) rfl (fun ls hl => ?_)
                  clear ev18
                  refine lv_goto (tgt := 11) hx hb dX1_spread_137 (by decide) ?_
                  exact ih v18 q17.1 (upd q7 3 v14) q17.2.1 q17.2.2 ql hf _ _ _ hP hD hS (lv_sub hl [3, 4, 5, 6, 7, 0] rfl) kx
                · exact absurd c16 (by decide)
            · exact absurd c6 (by decide)
          · have hf := rf_ifp hf c5
            refine lv_iload hx hb dX1_spread_53 (lv_at hl 7 rfl) ?_
            refine lv_bipush (v := 6) hx hb dX1_spread_55 (by decide) ?_
            refine lv_icmp_ne (tgt := 134) hx hb dX1_spread_57 (by decide) (fun c19 => ?_) (fun c19 => ?_)
            · have hf := rf_ifn hf c19
              obtain ⟨v20, ev20⟩ : ∃ y : Int32, y = x5 + 1 := ⟨_, rfl⟩
              have hf := rf_bindv hf ev20
              refine lv_iinc (v := v20) (lv' := [(5, .int v20), (7, .int q4), (6, .int 0), (0, .ref a_this), (1, .int p1), (2, .int p2), (3, .int p3), (4, .int x4)]) hx hb dX1_spread_134 hl (k := 7) rfl (by rw [ev20]; rfl) (by decide) rfl (fun ls hl => ?_)
              clear ev20
              refine lv_goto (tgt := 11) hx hb dX1_spread_137 (by decide) ?_
              exact ih v20 yg_this q2 yf_this_waiting yf_this_held ql hf _ _ _ hP hD hS (lv_sub hl [3, 4, 5, 6, 7, 0] rfl) kx
            · have hf := rf_ifp hf c19
              refine lv_iload hx hb dX1_spread_60 (lv_at hl 1 rfl) ?_
              refine lv_if_eq (tgt := 74) hx hb dX1_spread_62 (by decide) (fun c21 => ?_) (fun c21 => ?_)
              · refine lv_aload_n hx hb dX1_spread_74 rfl (lv_at hl 2 rfl) ?_
                refine va_get (D := D) (ci := 1) (v := .ref a_this_finger) (C := RX1) (T := TX1) (N := 7) hx hb hts jX1_spread_X1 hown hK hP 0 rfl rfl 0 (by decide) (hts _ kX1_spread_0) (fun _ h9 => h9) rfl dX1_spread_75 ?_
                refine lv_iload hx hb dX1_spread_78 (lv_at hl 7 rfl) ?_
                obtain ⟨q22, hq22, hf⟩ := rf_bindq hf
                refine rf_Vv (As := [.int x5]) (rest := []) (wr := [(a_this, .inr (1, rf_o1 a_this_finger a_this_waiting a_this_held a_this_seen yg_this)), (a_this_finger_kinds, .inl (cA, 6, .inl f_this_finger_kinds)), (a_this_finger_thicks, .inl (cA, 6, .inl f_this_finger_thicks)), (a_this_waiting, .inl (cA, 5022, .inl yf_this_waiting)), (a_this_held, .inl (cA, 9, .inl yf_this_held)), (a_this_seen, .inl (cA, 558, .inl f_this_seen))]) (wn := [(a_this, .inr (1, rf_o1 a_this_finger a_this_waiting a_this_held a_this_seen yg_this)), (a_this_finger, .inr (0, rf_o0 a_this_finger_kinds a_this_finger_thicks q22)), (a_this_finger_kinds, .inl (cA, 6, .inl f_this_finger_kinds)), (a_this_finger_thicks, .inl (cA, 6, .inl f_this_finger_thicks)), (a_this_waiting, .inl (cA, 5022, .inl yf_this_waiting)), (a_this_held, .inl (cA, 9, .inl yf_this_held)), (a_this_seen, .inl (cA, 558, .inl f_this_seen))]) ⟨hx, hb, hml, hown, hts⟩ hK hP hD hS hA hE (c_X0_strain l D cA ad a_this_finger a_this_finger_kinds a_this_finger_thicks H.size q2 x5 q22 hq22) (cwV 1 hts gX1_spread_X0_strain rfl rfl rfl hv_X0_strain ⟨Nat.le_of_ble_eq_true rfl, Nat.le_of_ble_eq_true rfl⟩) [1] [0, 2, 3, 4, 5, 6] [0, 6, 1, 2, 3, 4, 5] rfl rfl rfl rfl (by decide) rfl rfl 0 1 rfl rfl rfl rfl rfl hl.1 (Nat.le_of_ble_eq_true rfl) dX1_spread_80 ⟨Nat.zero_le _, Nat.zero_le _⟩ (fun H locs hP hD hS => ?_)
                refine lv_aload_n hx hb dX1_spread_83 rfl (lv_at hl 2 rfl) ?_
                refine va_get (D := D) (ci := 1) (v := .ref a_this_finger) (C := RX1) (T := TX1) (N := 7) hx hb hts jX1_spread_X1 hown hK hP 0 rfl rfl 0 (by decide) (hts _ kX1_spread_0) (fun _ h9 => h9) rfl dX1_spread_84 ?_
                refine lv_dup hx hb dX1_spread_87 rfl ?_
                refine va_get (D := D) (ci := 0) (v := .int (q22 3)) (C := RX0) (T := TX0) (N := 12) hx hb hts jX1_spread_X0 hown hK hP 1 rfl rfl 5 (by decide) (hts _ kX1_spread_1) (fun _ h9 => h9) rfl dX1_spread_88 ?_
                refine lv_iload hx hb dX1_spread_91 (lv_at hl 0 rfl) ?_
                refine lv_if_eq (tgt := 100) hx hb dX1_spread_93 (by decide) (fun c23 => ?_) (fun c23 => ?_)
                · have hf := rf_ifp hf c23
                  refine lv_iconst (v := 0) hx hb dX1_spread_100 (by decide) ?_
                  refine lv_iadd hx hb dX1_spread_101 ?_
                  refine lv_topi (fun v24 ev24 => ?_)
                  have hf := rf_bindv hf ev24
                  clear ev24
                  refine va_put (D := D) (ci := 0) (v := .int v24) (ty := .int) (C := RX0) (T := TX0) (N := 12) hx hb hts jX1_spread_X0 tyX0 tyX0_ok nmX0 hown hK hP hD hS 1 rfl rfl 5 (by decide) (hts _ kX1_spread_1) (fun _ h9 => h9) rfl (by decide +kernel) rfl rfl (Nat.le_of_ble_eq_true rfl) dX1_spread_102 (fun H locs hP hD hS => ?_)
                  have hP : va_P D vwCl [(a_this, .inr (1, rf_o1 a_this_finger a_this_waiting a_this_held a_this_seen yg_this)), (a_this_finger, .inr (0, rf_o0 a_this_finger_kinds a_this_finger_thicks (upd q22 3 v24))), (a_this_finger_kinds, .inl (cA, 6, .inl f_this_finger_kinds)), (a_this_finger_thicks, .inl (cA, 6, .inl f_this_finger_thicks)), (a_this_waiting, .inl (cA, 5022, .inl yf_this_waiting)), (a_this_held, .inl (cA, 9, .inl yf_this_held)), (a_this_seen, .inl (cA, 558, .inl f_this_seen))] H := hP
                  have hD : va_D A [(a_this, .inr (1, rf_o1 a_this_finger a_this_waiting a_this_held a_this_seen yg_this)), (a_this_finger, .inr (0, rf_o0 a_this_finger_kinds a_this_finger_thicks (upd q22 3 v24))), (a_this_finger_kinds, .inl (cA, 6, .inl f_this_finger_kinds)), (a_this_finger_thicks, .inl (cA, 6, .inl f_this_finger_thicks)), (a_this_waiting, .inl (cA, 5022, .inl yf_this_waiting)), (a_this_held, .inl (cA, 9, .inl yf_this_held)), (a_this_seen, .inl (cA, 558, .inl f_this_seen))] := hD
                  refine lv_aload_n hx hb dX1_spread_105 rfl (lv_at hl 2 rfl) ?_
                  refine lv_iload_n hx hb dX1_spread_106 rfl (lv_at hl 3 rfl) ?_
                  refine lv_iload hx hb dX1_spread_107 (lv_at hl 7 rfl) ?_
                  refine lv_aload_n hx hb dX1_spread_109 rfl (lv_at hl 2 rfl) ?_
                  refine va_get (D := D) (ci := 1) (v := .int (yg_this 2)) (C := RX1) (T := TX1) (N := 7) hx hb hts jX1_spread_X1 hown hK hP 0 rfl rfl 6 (by decide) (hts _ kX1_spread_2) (fun _ h9 => h9) rfl dX1_spread_110 ?_
                  obtain ⟨q25, hq25, hf⟩ := rf_bindq hf
                  refine rf_Ni (As := [.int x5, .int (yg_this 2)]) (rest := [.int p1, .ref a_this]) (wr := [(a_this, .inr (1, rf_o1 a_this_finger a_this_waiting a_this_held a_this_seen yg_this)), (a_this_finger, .inr (0, rf_o0 a_this_finger_kinds a_this_finger_thicks (upd q22 3 v24))), (a_this_finger_kinds, .inl (cA, 6, .inl f_this_finger_kinds)), (a_this_finger_thicks, .inl (cA, 6, .inl f_this_finger_thicks)), (a_this_waiting, .inl (cA, 5022, .inl yf_this_waiting)), (a_this_held, .inl (cA, 9, .inl yf_this_held)), (a_this_seen, .inl (cA, 558, .inl f_this_seen))]) (wn := [(a_this, .inr (1, rf_o1 a_this_finger a_this_waiting a_this_held a_this_seen yg_this)), (a_this_finger, .inr (0, rf_o0 a_this_finger_kinds a_this_finger_thicks (upd q22 3 v24))), (a_this_finger_kinds, .inl (cA, 6, .inl f_this_finger_kinds)), (a_this_finger_thicks, .inl (cA, 6, .inl f_this_finger_thicks)), (a_this_waiting, .inl (cA, 5022, .inl yf_this_waiting)), (a_this_held, .inl (cA, 9, .inl yf_this_held)), (a_this_seen, .inl (cA, 558, .inl f_this_seen))]) ⟨hx, hb, hml, hown, hts⟩ hK hP hD hS hA hE (c_X2_movePrice l D cA ad H.size x5 (yg_this 2) q25 hq25) ⟨va_cnB (host := "RingAndFinger") 2 hts gX1_spread_X2_movePrice_n92 rfl rfl rfl (hE.1 7 _ rfl) (hts _ kX1_spread_3) hn_X2_movePrice ⟨Nat.le_of_ble_eq_true rfl, Nat.le_of_ble_eq_true rfl⟩, (hts _ kX1_spread_4), trivial⟩ [] [0, 1, 2, 3, 4, 5, 6] [0, 1, 2, 3, 4, 5, 6] rfl rfl rfl rfl (by decide) rfl rfl rfl rfl hl.1 (Nat.le_of_ble_eq_true rfl) dX1_spread_113 ⟨Nat.zero_le _, Nat.zero_le _⟩ (fun H locs hP hD hS => ?_)
                  refine lv_iadd hx hb dX1_spread_116 ?_
                  refine lv_iload hx hb dX1_spread_117 (lv_at hl 1 rfl) ?_
                  refine lv_if_eq (tgt := 129) hx hb dX1_spread_119 (by decide) (fun c26 => ?_) (fun c26 => ?_)
                  · refine lv_iload hx hb dX1_spread_129 (lv_at hl 6 rfl) ?_
                    obtain ⟨q27, hq27, hf⟩ := rf_bindq hf
                    refine rf_Vv (As := [.int (p1 + q25), .int x4]) (rest := []) (wr := [(a_this_finger_kinds, .inl (cA, 6, .inl f_this_finger_kinds)), (a_this_finger_thicks, .inl (cA, 6, .inl f_this_finger_thicks))]) (wn := [(a_this, .inr (1, rf_o1 a_this_finger a_this_waiting a_this_held a_this_seen q27.1)), (a_this_finger, .inr (0, rf_o0 a_this_finger_kinds a_this_finger_thicks (upd q22 3 v24))), (a_this_finger_kinds, .inl (cA, 6, .inl f_this_finger_kinds)), (a_this_finger_thicks, .inl (cA, 6, .inl f_this_finger_thicks)), (a_this_waiting, .inl (cA, 5022, .inl q27.2.1)), (a_this_held, .inl (cA, 9, .inl q27.2.2)), (a_this_seen, .inl (cA, 558, .inl f_this_seen))]) ⟨hx, hb, hml, hown, hts⟩ hK hP hD hS hA hE (c_X1_arrive l D cA ad a_this a_this_finger a_this_waiting a_this_held a_this_seen a_this_finger_kinds a_this_finger_thicks H.size yg_this (upd q22 3 v24) yf_this_waiting yf_this_held f_this_seen (p1 + q25) x4 q27 hq27) (cwV 2 hts gX1_spread_X1_arrive rfl rfl rfl hv_X1_arrive ⟨Nat.le_of_ble_eq_true rfl, Nat.le_of_ble_eq_true rfl⟩) [0, 1, 4, 5, 6] [2, 3] [2, 3, 0, 1, 4, 5, 6] rfl rfl rfl rfl (by decide) rfl rfl 1 0 rfl rfl rfl rfl rfl hl.1 (Nat.le_of_ble_eq_true rfl) dX1_spread_131 ⟨Nat.zero_le _, Nat.zero_le _⟩ (fun H locs hP hD hS => ?_)
                    obtain ⟨v28, ev28⟩ : ∃ y : Int32, y = x5 + 1 := ⟨_, rfl⟩
                    have hf := rf_bindv hf ev28
                    refine lv_iinc (v := v28) (lv' := [(5, .int v28), (7, .int q4), (6, .int 0), (0, .ref a_this), (1, .int p1), (2, .int p2), (3, .int p3), (4, .int x4)]) hx hb dX1_spread_134 hl (k := 7) rfl (by rw [ev28]; rfl) (by decide) rfl (fun ls hl => ?_)
                    clear ev28
                    refine lv_goto (tgt := 11) hx hb dX1_spread_137 (by decide) ?_
                    exact ih v28 q27.1 (upd q22 3 v24) q27.2.1 q27.2.2 ql hf _ _ _ hP hD hS (lv_sub hl [3, 4, 5, 6, 7, 0] rfl) kx
                  · exact absurd c26 (by decide)
                · have hf := rf_ifn hf c23
                  refine lv_iconst (v := 1) hx hb dX1_spread_96 (by decide) ?_
                  refine lv_goto (tgt := 101) hx hb dX1_spread_97 (by decide) ?_
                  refine lv_iadd hx hb dX1_spread_101 ?_
                  refine lv_topi (fun v29 ev29 => ?_)
                  have hf := rf_bindv hf ev29
                  clear ev29
                  refine va_put (D := D) (ci := 0) (v := .int v29) (ty := .int) (C := RX0) (T := TX0) (N := 12) hx hb hts jX1_spread_X0 tyX0 tyX0_ok nmX0 hown hK hP hD hS 1 rfl rfl 5 (by decide) (hts _ kX1_spread_1) (fun _ h9 => h9) rfl (by decide +kernel) rfl rfl (Nat.le_of_ble_eq_true rfl) dX1_spread_102 (fun H locs hP hD hS => ?_)
                  have hP : va_P D vwCl [(a_this, .inr (1, rf_o1 a_this_finger a_this_waiting a_this_held a_this_seen yg_this)), (a_this_finger, .inr (0, rf_o0 a_this_finger_kinds a_this_finger_thicks (upd q22 3 v29))), (a_this_finger_kinds, .inl (cA, 6, .inl f_this_finger_kinds)), (a_this_finger_thicks, .inl (cA, 6, .inl f_this_finger_thicks)), (a_this_waiting, .inl (cA, 5022, .inl yf_this_waiting)), (a_this_held, .inl (cA, 9, .inl yf_this_held)), (a_this_seen, .inl (cA, 558, .inl f_this_seen))] H := hP
                  have hD : va_D A [(a_this, .inr (1, rf_o1 a_this_finger a_this_waiting a_this_held a_this_seen yg_this)), (a_this_finger, .inr (0, rf_o0 a_this_finger_kinds a_this_finger_thicks (upd q22 3 v29))), (a_this_finger_kinds, .inl (cA, 6, .inl f_this_finger_kinds)), (a_this_finger_thicks, .inl (cA, 6, .inl f_this_finger_thicks)), (a_this_waiting, .inl (cA, 5022, .inl yf_this_waiting)), (a_this_held, .inl (cA, 9, .inl yf_this_held)), (a_this_seen, .inl (cA, 558, .inl f_this_seen))] := hD
                  refine lv_aload_n hx hb dX1_spread_105 rfl (lv_at hl 2 rfl) ?_
                  refine lv_iload_n hx hb dX1_spread_106 rfl (lv_at hl 3 rfl) ?_
                  refine lv_iload hx hb dX1_spread_107 (lv_at hl 7 rfl) ?_
                  refine lv_aload_n hx hb dX1_spread_109 rfl (lv_at hl 2 rfl) ?_
                  refine va_get (D := D) (ci := 1) (v := .int (yg_this 2)) (C := RX1) (T := TX1) (N := 7) hx hb hts jX1_spread_X1 hown hK hP 0 rfl rfl 6 (by decide) (hts _ kX1_spread_2) (fun _ h9 => h9) rfl dX1_spread_110 ?_
                  obtain ⟨q30, hq30, hf⟩ := rf_bindq hf
                  refine rf_Ni (As := [.int x5, .int (yg_this 2)]) (rest := [.int p1, .ref a_this]) (wr := [(a_this, .inr (1, rf_o1 a_this_finger a_this_waiting a_this_held a_this_seen yg_this)), (a_this_finger, .inr (0, rf_o0 a_this_finger_kinds a_this_finger_thicks (upd q22 3 v29))), (a_this_finger_kinds, .inl (cA, 6, .inl f_this_finger_kinds)), (a_this_finger_thicks, .inl (cA, 6, .inl f_this_finger_thicks)), (a_this_waiting, .inl (cA, 5022, .inl yf_this_waiting)), (a_this_held, .inl (cA, 9, .inl yf_this_held)), (a_this_seen, .inl (cA, 558, .inl f_this_seen))]) (wn := [(a_this, .inr (1, rf_o1 a_this_finger a_this_waiting a_this_held a_this_seen yg_this)), (a_this_finger, .inr (0, rf_o0 a_this_finger_kinds a_this_finger_thicks (upd q22 3 v29))), (a_this_finger_kinds, .inl (cA, 6, .inl f_this_finger_kinds)), (a_this_finger_thicks, .inl (cA, 6, .inl f_this_finger_thicks)), (a_this_waiting, .inl (cA, 5022, .inl yf_this_waiting)), (a_this_held, .inl (cA, 9, .inl yf_this_held)), (a_this_seen, .inl (cA, 558, .inl f_this_seen))]) ⟨hx, hb, hml, hown, hts⟩ hK hP hD hS hA hE (c_X2_movePrice l D cA ad H.size x5 (yg_this 2) q30 hq30) ⟨va_cnB (host := "RingAndFinger") 2 hts gX1_spread_X2_movePrice_n92 rfl rfl rfl (hE.1 7 _ rfl) (hts _ kX1_spread_3) hn_X2_movePrice ⟨Nat.le_of_ble_eq_true rfl, Nat.le_of_ble_eq_true rfl⟩, (hts _ kX1_spread_4), trivial⟩ [] [0, 1, 2, 3, 4, 5, 6] [0, 1, 2, 3, 4, 5, 6] rfl rfl rfl rfl (by decide) rfl rfl rfl rfl hl.1 (Nat.le_of_ble_eq_true rfl) dX1_spread_113 ⟨Nat.zero_le _, Nat.zero_le _⟩ (fun H locs hP hD hS => ?_)
                  refine lv_iadd hx hb dX1_spread_116 ?_
                  refine lv_iload hx hb dX1_spread_117 (lv_at hl 1 rfl) ?_
                  refine lv_if_eq (tgt := 129) hx hb dX1_spread_119 (by decide) (fun c31 => ?_) (fun c31 => ?_)
                  · refine lv_iload hx hb dX1_spread_129 (lv_at hl 6 rfl) ?_
                    obtain ⟨q32, hq32, hf⟩ := rf_bindq hf
                    refine rf_Vv (As := [.int (p1 + q30), .int x4]) (rest := []) (wr := [(a_this_finger_kinds, .inl (cA, 6, .inl f_this_finger_kinds)), (a_this_finger_thicks, .inl (cA, 6, .inl f_this_finger_thicks))]) (wn := [(a_this, .inr (1, rf_o1 a_this_finger a_this_waiting a_this_held a_this_seen q32.1)), (a_this_finger, .inr (0, rf_o0 a_this_finger_kinds a_this_finger_thicks (upd q22 3 v29))), (a_this_finger_kinds, .inl (cA, 6, .inl f_this_finger_kinds)), (a_this_finger_thicks, .inl (cA, 6, .inl f_this_finger_thicks)), (a_this_waiting, .inl (cA, 5022, .inl q32.2.1)), (a_this_held, .inl (cA, 9, .inl q32.2.2)), (a_this_seen, .inl (cA, 558, .inl f_this_seen))]) ⟨hx, hb, hml, hown, hts⟩ hK hP hD hS hA hE (c_X1_arrive l D cA ad a_this a_this_finger a_this_waiting a_this_held a_this_seen a_this_finger_kinds a_this_finger_thicks H.size yg_this (upd q22 3 v29) yf_this_waiting yf_this_held f_this_seen (p1 + q30) x4 q32 hq32) (cwV 2 hts gX1_spread_X1_arrive rfl rfl rfl hv_X1_arrive ⟨Nat.le_of_ble_eq_true rfl, Nat.le_of_ble_eq_true rfl⟩) [0, 1, 4, 5, 6] [2, 3] [2, 3, 0, 1, 4, 5, 6] rfl rfl rfl rfl (by decide) rfl rfl 1 0 rfl rfl rfl rfl rfl hl.1 (Nat.le_of_ble_eq_true rfl) dX1_spread_131 ⟨Nat.zero_le _, Nat.zero_le _⟩ (fun H locs hP hD hS => ?_)
                    obtain ⟨v33, ev33⟩ : ∃ y : Int32, y = x5 + 1 := ⟨_, rfl⟩
                    have hf := rf_bindv hf ev33
                    refine lv_iinc (v := v33) (lv' := [(5, .int v33), (7, .int q4), (6, .int 0), (0, .ref a_this), (1, .int p1), (2, .int p2), (3, .int p3), (4, .int x4)]) hx hb dX1_spread_134 hl (k := 7) rfl (by rw [ev33]; rfl) (by decide) rfl (fun ls hl => ?_)
                    clear ev33
                    refine lv_goto (tgt := 11) hx hb dX1_spread_137 (by decide) ?_
                    exact ih v33 q32.1 (upd q22 3 v29) q32.2.1 q32.2.2 ql hf _ _ _ hP hD hS (lv_sub hl [3, 4, 5, 6, 7, 0] rfl) kx
                  · exact absurd c31 (by decide)
              · exact absurd c21 (by decide)
        · have hf := rf_ifp hf c3
          refine lv_iconst (v := 1) hx hb dX1_spread_30 (by decide) ?_
          refine lv_goto (tgt := 35) hx hb dX1_spread_31 (by decide) ?_
          refine lv_istore (lv' := [(6, .int 1), (0, .ref a_this), (1, .int p1), (2, .int p2), (3, .int p3), (4, .int x4), (5, .int x5)]) hx hb dX1_spread_35 hl (by decide) rfl (fun ls hl => ?_)
          refine lv_aload_n hx hb dX1_spread_37 rfl (lv_at hl 1 rfl) ?_
          refine va_get (D := D) (ci := 1) (v := .ref a_this_finger) (C := RX1) (T := TX1) (N := 7) hx hb hts jX1_spread_X1 hown hK hP 0 rfl rfl 0 (by decide) (hts _ kX1_spread_0) (fun _ h9 => h9) rfl dX1_spread_38 ?_
          refine lv_iload hx hb dX1_spread_41 (lv_at hl 6 rfl) ?_
          obtain ⟨q34, hq34, hf⟩ := rf_bindq hf
          refine rf_Vi (As := [.int x5]) (rest := []) (wr := [(a_this, .inr (1, rf_o1 a_this_finger a_this_waiting a_this_held a_this_seen yg_this)), (a_this_waiting, .inl (cA, 5022, .inl yf_this_waiting)), (a_this_held, .inl (cA, 9, .inl yf_this_held)), (a_this_seen, .inl (cA, 558, .inl f_this_seen))]) (wn := [(a_this, .inr (1, rf_o1 a_this_finger a_this_waiting a_this_held a_this_seen yg_this)), (a_this_finger, .inr (0, rf_o0 a_this_finger_kinds a_this_finger_thicks q2)), (a_this_finger_kinds, .inl (cA, 6, .inl f_this_finger_kinds)), (a_this_finger_thicks, .inl (cA, 6, .inl f_this_finger_thicks)), (a_this_waiting, .inl (cA, 5022, .inl yf_this_waiting)), (a_this_held, .inl (cA, 9, .inl yf_this_held)), (a_this_seen, .inl (cA, 558, .inl f_this_seen))]) ⟨hx, hb, hml, hown, hts⟩ hK hP hD hS hA hE (c_X0_goesOver l D cA ad a_this_finger a_this_finger_kinds a_this_finger_thicks H.size q2 f_this_finger_kinds f_this_finger_thicks x5 q34 hq34) (cwV 1 hts gX1_spread_X0_goesOver rfl rfl rfl hv_X0_goesOver ⟨Nat.le_of_ble_eq_true rfl, Nat.le_of_ble_eq_true rfl⟩) [1, 2, 3] [0, 4, 5, 6] [0, 4, 5, 6, 1, 2, 3] rfl rfl rfl rfl (by decide) rfl rfl 0 1 rfl rfl rfl rfl rfl hl.1 (Nat.le_of_ble_eq_true rfl) dX1_spread_43 ⟨Nat.zero_le _, Nat.zero_le _⟩ (fun H locs hP hD hS => ?_)
          refine lv_istore (lv' := [(7, .int q34), (6, .int 1), (0, .ref a_this), (1, .int p1), (2, .int p2), (3, .int p3), (4, .int x4), (5, .int x5)]) hx hb dX1_spread_46 hl (by decide) rfl (fun ls hl => ?_)
          refine lv_iload hx hb dX1_spread_48 (lv_at hl 0 rfl) ?_
          refine lv_if_ne (tgt := 60) hx hb dX1_spread_50 (by decide) (fun c35 => ?_) (fun c35 => ?_)
          · have hf := rf_ifn hf c35
            refine lv_iload hx hb dX1_spread_60 (lv_at hl 1 rfl) ?_
            refine lv_if_eq (tgt := 74) hx hb dX1_spread_62 (by decide) (fun c36 => ?_) (fun c36 => ?_)
            · exact absurd c36 (by decide)
            · refine lv_iload hx hb dX1_spread_65 (lv_at hl 6 rfl) ?_
              refine lv_iconst (v := 2) hx hb dX1_spread_67 (by decide) ?_
              refine lv_icmp_lt (tgt := 74) hx hb dX1_spread_68 (by decide) (fun c37 => ?_) (fun c37 => ?_)
              · have hf := rf_ifp hf c37
                refine lv_aload_n hx hb dX1_spread_74 rfl (lv_at hl 2 rfl) ?_
                refine va_get (D := D) (ci := 1) (v := .ref a_this_finger) (C := RX1) (T := TX1) (N := 7) hx hb hts jX1_spread_X1 hown hK hP 0 rfl rfl 0 (by decide) (hts _ kX1_spread_0) (fun _ h9 => h9) rfl dX1_spread_75 ?_
                refine lv_iload hx hb dX1_spread_78 (lv_at hl 7 rfl) ?_
                obtain ⟨q38, hq38, hf⟩ := rf_bindq hf
                refine rf_Vv (As := [.int x5]) (rest := []) (wr := [(a_this, .inr (1, rf_o1 a_this_finger a_this_waiting a_this_held a_this_seen yg_this)), (a_this_finger_kinds, .inl (cA, 6, .inl f_this_finger_kinds)), (a_this_finger_thicks, .inl (cA, 6, .inl f_this_finger_thicks)), (a_this_waiting, .inl (cA, 5022, .inl yf_this_waiting)), (a_this_held, .inl (cA, 9, .inl yf_this_held)), (a_this_seen, .inl (cA, 558, .inl f_this_seen))]) (wn := [(a_this, .inr (1, rf_o1 a_this_finger a_this_waiting a_this_held a_this_seen yg_this)), (a_this_finger, .inr (0, rf_o0 a_this_finger_kinds a_this_finger_thicks q38)), (a_this_finger_kinds, .inl (cA, 6, .inl f_this_finger_kinds)), (a_this_finger_thicks, .inl (cA, 6, .inl f_this_finger_thicks)), (a_this_waiting, .inl (cA, 5022, .inl yf_this_waiting)), (a_this_held, .inl (cA, 9, .inl yf_this_held)), (a_this_seen, .inl (cA, 558, .inl f_this_seen))]) ⟨hx, hb, hml, hown, hts⟩ hK hP hD hS hA hE (c_X0_strain l D cA ad a_this_finger a_this_finger_kinds a_this_finger_thicks H.size q2 x5 q38 hq38) (cwV 1 hts gX1_spread_X0_strain rfl rfl rfl hv_X0_strain ⟨Nat.le_of_ble_eq_true rfl, Nat.le_of_ble_eq_true rfl⟩) [1] [0, 2, 3, 4, 5, 6] [0, 6, 1, 2, 3, 4, 5] rfl rfl rfl rfl (by decide) rfl rfl 0 1 rfl rfl rfl rfl rfl hl.1 (Nat.le_of_ble_eq_true rfl) dX1_spread_80 ⟨Nat.zero_le _, Nat.zero_le _⟩ (fun H locs hP hD hS => ?_)
                refine lv_aload_n hx hb dX1_spread_83 rfl (lv_at hl 2 rfl) ?_
                refine va_get (D := D) (ci := 1) (v := .ref a_this_finger) (C := RX1) (T := TX1) (N := 7) hx hb hts jX1_spread_X1 hown hK hP 0 rfl rfl 0 (by decide) (hts _ kX1_spread_0) (fun _ h9 => h9) rfl dX1_spread_84 ?_
                refine lv_dup hx hb dX1_spread_87 rfl ?_
                refine va_get (D := D) (ci := 0) (v := .int (q38 3)) (C := RX0) (T := TX0) (N := 12) hx hb hts jX1_spread_X0 hown hK hP 1 rfl rfl 5 (by decide) (hts _ kX1_spread_1) (fun _ h9 => h9) rfl dX1_spread_88 ?_
                refine lv_iload hx hb dX1_spread_91 (lv_at hl 0 rfl) ?_
                refine lv_if_eq (tgt := 100) hx hb dX1_spread_93 (by decide) (fun c39 => ?_) (fun c39 => ?_)
                · have hf := rf_ifp hf c39
                  refine lv_iconst (v := 0) hx hb dX1_spread_100 (by decide) ?_
                  refine lv_iadd hx hb dX1_spread_101 ?_
                  refine lv_topi (fun v40 ev40 => ?_)
                  have hf := rf_bindv hf ev40
                  clear ev40
                  refine va_put (D := D) (ci := 0) (v := .int v40) (ty := .int) (C := RX0) (T := TX0) (N := 12) hx hb hts jX1_spread_X0 tyX0 tyX0_ok nmX0 hown hK hP hD hS 1 rfl rfl 5 (by decide) (hts _ kX1_spread_1) (fun _ h9 => h9) rfl (by decide +kernel) rfl rfl (Nat.le_of_ble_eq_true rfl) dX1_spread_102 (fun H locs hP hD hS => ?_)
                  have hP : va_P D vwCl [(a_this, .inr (1, rf_o1 a_this_finger a_this_waiting a_this_held a_this_seen yg_this)), (a_this_finger, .inr (0, rf_o0 a_this_finger_kinds a_this_finger_thicks (upd q38 3 v40))), (a_this_finger_kinds, .inl (cA, 6, .inl f_this_finger_kinds)), (a_this_finger_thicks, .inl (cA, 6, .inl f_this_finger_thicks)), (a_this_waiting, .inl (cA, 5022, .inl yf_this_waiting)), (a_this_held, .inl (cA, 9, .inl yf_this_held)), (a_this_seen, .inl (cA, 558, .inl f_this_seen))] H := hP
                  have hD : va_D A [(a_this, .inr (1, rf_o1 a_this_finger a_this_waiting a_this_held a_this_seen yg_this)), (a_this_finger, .inr (0, rf_o0 a_this_finger_kinds a_this_finger_thicks (upd q38 3 v40))), (a_this_finger_kinds, .inl (cA, 6, .inl f_this_finger_kinds)), (a_this_finger_thicks, .inl (cA, 6, .inl f_this_finger_thicks)), (a_this_waiting, .inl (cA, 5022, .inl yf_this_waiting)), (a_this_held, .inl (cA, 9, .inl yf_this_held)), (a_this_seen, .inl (cA, 558, .inl f_this_seen))] := hD
                  refine lv_aload_n hx hb dX1_spread_105 rfl (lv_at hl 2 rfl) ?_
                  refine lv_iload_n hx hb dX1_spread_106 rfl (lv_at hl 3 rfl) ?_
                  refine lv_iload hx hb dX1_spread_107 (lv_at hl 7 rfl) ?_
                  refine lv_aload_n hx hb dX1_spread_109 rfl (lv_at hl 2 rfl) ?_
                  refine va_get (D := D) (ci := 1) (v := .int (yg_this 2)) (C := RX1) (T := TX1) (N := 7) hx hb hts jX1_spread_X1 hown hK hP 0 rfl rfl 6 (by decide) (hts _ kX1_spread_2) (fun _ h9 => h9) rfl dX1_spread_110 ?_
                  obtain ⟨q41, hq41, hf⟩ := rf_bindq hf
                  refine rf_Ni (As := [.int x5, .int (yg_this 2)]) (rest := [.int p1, .ref a_this]) (wr := [(a_this, .inr (1, rf_o1 a_this_finger a_this_waiting a_this_held a_this_seen yg_this)), (a_this_finger, .inr (0, rf_o0 a_this_finger_kinds a_this_finger_thicks (upd q38 3 v40))), (a_this_finger_kinds, .inl (cA, 6, .inl f_this_finger_kinds)), (a_this_finger_thicks, .inl (cA, 6, .inl f_this_finger_thicks)), (a_this_waiting, .inl (cA, 5022, .inl yf_this_waiting)), (a_this_held, .inl (cA, 9, .inl yf_this_held)), (a_this_seen, .inl (cA, 558, .inl f_this_seen))]) (wn := [(a_this, .inr (1, rf_o1 a_this_finger a_this_waiting a_this_held a_this_seen yg_this)), (a_this_finger, .inr (0, rf_o0 a_this_finger_kinds a_this_finger_thicks (upd q38 3 v40))), (a_this_finger_kinds, .inl (cA, 6, .inl f_this_finger_kinds)), (a_this_finger_thicks, .inl (cA, 6, .inl f_this_finger_thicks)), (a_this_waiting, .inl (cA, 5022, .inl yf_this_waiting)), (a_this_held, .inl (cA, 9, .inl yf_this_held)), (a_this_seen, .inl (cA, 558, .inl f_this_seen))]) ⟨hx, hb, hml, hown, hts⟩ hK hP hD hS hA hE (c_X2_movePrice l D cA ad H.size x5 (yg_this 2) q41 hq41) ⟨va_cnB (host := "RingAndFinger") 2 hts gX1_spread_X2_movePrice_n92 rfl rfl rfl (hE.1 7 _ rfl) (hts _ kX1_spread_3) hn_X2_movePrice ⟨Nat.le_of_ble_eq_true rfl, Nat.le_of_ble_eq_true rfl⟩, (hts _ kX1_spread_4), trivial⟩ [] [0, 1, 2, 3, 4, 5, 6] [0, 1, 2, 3, 4, 5, 6] rfl rfl rfl rfl (by decide) rfl rfl rfl rfl hl.1 (Nat.le_of_ble_eq_true rfl) dX1_spread_113 ⟨Nat.zero_le _, Nat.zero_le _⟩ (fun H locs hP hD hS => ?_)
                  refine lv_iadd hx hb dX1_spread_116 ?_
                  refine lv_iload hx hb dX1_spread_117 (lv_at hl 1 rfl) ?_
                  refine lv_if_eq (tgt := 129) hx hb dX1_spread_119 (by decide) (fun c42 => ?_) (fun c42 => ?_)
                  · exact absurd c42 (by decide)
                  · refine lv_iload hx hb dX1_spread_122 (lv_at hl 6 rfl) ?_
                    refine lv_iconst (v := 1) hx hb dX1_spread_124 (by decide) ?_
                    refine lv_iadd hx hb dX1_spread_125 ?_
                    refine lv_goto (tgt := 131) hx hb dX1_spread_126 (by decide) ?_
                    obtain ⟨q43, hq43, hf⟩ := rf_bindq hf
                    refine rf_Vv (As := [.int (p1 + q41), .int (x4 + 1)]) (rest := []) (wr := [(a_this_finger_kinds, .inl (cA, 6, .inl f_this_finger_kinds)), (a_this_finger_thicks, .inl (cA, 6, .inl f_this_finger_thicks))]) (wn := [(a_this, .inr (1, rf_o1 a_this_finger a_this_waiting a_this_held a_this_seen q43.1)), (a_this_finger, .inr (0, rf_o0 a_this_finger_kinds a_this_finger_thicks (upd q38 3 v40))), (a_this_finger_kinds, .inl (cA, 6, .inl f_this_finger_kinds)), (a_this_finger_thicks, .inl (cA, 6, .inl f_this_finger_thicks)), (a_this_waiting, .inl (cA, 5022, .inl q43.2.1)), (a_this_held, .inl (cA, 9, .inl q43.2.2)), (a_this_seen, .inl (cA, 558, .inl f_this_seen))]) ⟨hx, hb, hml, hown, hts⟩ hK hP hD hS hA hE (c_X1_arrive l D cA ad a_this a_this_finger a_this_waiting a_this_held a_this_seen a_this_finger_kinds a_this_finger_thicks H.size yg_this (upd q38 3 v40) yf_this_waiting yf_this_held f_this_seen (p1 + q41) (x4 + 1) q43 hq43) (cwV 2 hts gX1_spread_X1_arrive rfl rfl rfl hv_X1_arrive ⟨Nat.le_of_ble_eq_true rfl, Nat.le_of_ble_eq_true rfl⟩) [0, 1, 4, 5, 6] [2, 3] [2, 3, 0, 1, 4, 5, 6] rfl rfl rfl rfl (by decide) rfl rfl 1 0 rfl rfl rfl rfl rfl hl.1 (Nat.le_of_ble_eq_true rfl) dX1_spread_131 ⟨Nat.zero_le _, Nat.zero_le _⟩ (fun H locs hP hD hS => ?_)
                    obtain ⟨v44, ev44⟩ : ∃ y : Int32, y = x5 + 1 := ⟨_, rfl⟩
                    have hf := rf_bindv hf ev44
                    refine lv_iinc (v := v44) (lv' := [(5, .int v44), (7, .int q34), (6, .int 1), (0, .ref a_this), (1, .int p1), (2, .int p2), (3, .int p3), (4, .int x4)]) hx hb dX1_spread_134 hl (k := 7) rfl (by rw [ev44]; rfl) (by decide) rfl (fun ls hl => ?_)
                    clear ev44
                    refine lv_goto (tgt := 11) hx hb dX1_spread_137 (by decide) ?_
                    exact ih v44 q43.1 (upd q38 3 v40) q43.2.1 q43.2.2 ql hf _ _ _ hP hD hS (lv_sub hl [3, 4, 5, 6, 7, 0] rfl) kx
                · have hf := rf_ifn hf c39
                  refine lv_iconst (v := 1) hx hb dX1_spread_96 (by decide) ?_
                  refine lv_goto (tgt := 101) hx hb dX1_spread_97 (by decide) ?_
                  refine lv_iadd hx hb dX1_spread_101 ?_
                  refine lv_topi (fun v45 ev45 => ?_)
                  have hf := rf_bindv hf ev45
                  clear ev45
                  refine va_put (D := D) (ci := 0) (v := .int v45) (ty := .int) (C := RX0) (T := TX0) (N := 12) hx hb hts jX1_spread_X0 tyX0 tyX0_ok nmX0 hown hK hP hD hS 1 rfl rfl 5 (by decide) (hts _ kX1_spread_1) (fun _ h9 => h9) rfl (by decide +kernel) rfl rfl (Nat.le_of_ble_eq_true rfl) dX1_spread_102 (fun H locs hP hD hS => ?_)
                  have hP : va_P D vwCl [(a_this, .inr (1, rf_o1 a_this_finger a_this_waiting a_this_held a_this_seen yg_this)), (a_this_finger, .inr (0, rf_o0 a_this_finger_kinds a_this_finger_thicks (upd q38 3 v45))), (a_this_finger_kinds, .inl (cA, 6, .inl f_this_finger_kinds)), (a_this_finger_thicks, .inl (cA, 6, .inl f_this_finger_thicks)), (a_this_waiting, .inl (cA, 5022, .inl yf_this_waiting)), (a_this_held, .inl (cA, 9, .inl yf_this_held)), (a_this_seen, .inl (cA, 558, .inl f_this_seen))] H := hP
                  have hD : va_D A [(a_this, .inr (1, rf_o1 a_this_finger a_this_waiting a_this_held a_this_seen yg_this)), (a_this_finger, .inr (0, rf_o0 a_this_finger_kinds a_this_finger_thicks (upd q38 3 v45))), (a_this_finger_kinds, .inl (cA, 6, .inl f_this_finger_kinds)), (a_this_finger_thicks, .inl (cA, 6, .inl f_this_finger_thicks)), (a_this_waiting, .inl (cA, 5022, .inl yf_this_waiting)), (a_this_held, .inl (cA, 9, .inl yf_this_held)), (a_this_seen, .inl (cA, 558, .inl f_this_seen))] := hD
                  refine lv_aload_n hx hb dX1_spread_105 rfl (lv_at hl 2 rfl) ?_
                  refine lv_iload_n hx hb dX1_spread_106 rfl (lv_at hl 3 rfl) ?_
                  refine lv_iload hx hb dX1_spread_107 (lv_at hl 7 rfl) ?_
                  refine lv_aload_n hx hb dX1_spread_109 rfl (lv_at hl 2 rfl) ?_
                  refine va_get (D := D) (ci := 1) (v := .int (yg_this 2)) (C := RX1) (T := TX1) (N := 7) hx hb hts jX1_spread_X1 hown hK hP 0 rfl rfl 6 (by decide) (hts _ kX1_spread_2) (fun _ h9 => h9) rfl dX1_spread_110 ?_
                  obtain ⟨q46, hq46, hf⟩ := rf_bindq hf
                  refine rf_Ni (As := [.int x5, .int (yg_this 2)]) (rest := [.int p1, .ref a_this]) (wr := [(a_this, .inr (1, rf_o1 a_this_finger a_this_waiting a_this_held a_this_seen yg_this)), (a_this_finger, .inr (0, rf_o0 a_this_finger_kinds a_this_finger_thicks (upd q38 3 v45))), (a_this_finger_kinds, .inl (cA, 6, .inl f_this_finger_kinds)), (a_this_finger_thicks, .inl (cA, 6, .inl f_this_finger_thicks)), (a_this_waiting, .inl (cA, 5022, .inl yf_this_waiting)), (a_this_held, .inl (cA, 9, .inl yf_this_held)), (a_this_seen, .inl (cA, 558, .inl f_this_seen))]) (wn := [(a_this, .inr (1, rf_o1 a_this_finger a_this_waiting a_this_held a_this_seen yg_this)), (a_this_finger, .inr (0, rf_o0 a_this_finger_kinds a_this_finger_thicks (upd q38 3 v45))), (a_this_finger_kinds, .inl (cA, 6, .inl f_this_finger_kinds)), (a_this_finger_thicks, .inl (cA, 6, .inl f_this_finger_thicks)), (a_this_waiting, .inl (cA, 5022, .inl yf_this_waiting)), (a_this_held, .inl (cA, 9, .inl yf_this_held)), (a_this_seen, .inl (cA, 558, .inl f_this_seen))]) ⟨hx, hb, hml, hown, hts⟩ hK hP hD hS hA hE (c_X2_movePrice l D cA ad H.size x5 (yg_this 2) q46 hq46) ⟨va_cnB (host := "RingAndFinger") 2 hts gX1_spread_X2_movePrice_n92 rfl rfl rfl (hE.1 7 _ rfl) (hts _ kX1_spread_3) hn_X2_movePrice ⟨Nat.le_of_ble_eq_true rfl, Nat.le_of_ble_eq_true rfl⟩, (hts _ kX1_spread_4), trivial⟩ [] [0, 1, 2, 3, 4, 5, 6] [0, 1, 2, 3, 4, 5, 6] rfl rfl rfl rfl (by decide) rfl rfl rfl rfl hl.1 (Nat.le_of_ble_eq_true rfl) dX1_spread_113 ⟨Nat.zero_le _, Nat.zero_le _⟩ (fun H locs hP hD hS => ?_)
                  refine lv_iadd hx hb dX1_spread_116 ?_
                  refine lv_iload hx hb dX1_spread_117 (lv_at hl 1 rfl) ?_
                  refine lv_if_eq (tgt := 129) hx hb dX1_spread_119 (by decide) (fun c47 => ?_) (fun c47 => ?_)
                  · exact absurd c47 (by decide)
                  · refine lv_iload hx hb dX1_spread_122 (lv_at hl 6 rfl) ?_
                    refine lv_iconst (v := 1) hx hb dX1_spread_124 (by decide) ?_
                    refine lv_iadd hx hb dX1_spread_125 ?_
                    refine lv_goto (tgt := 131) hx hb dX1_spread_126 (by decide) ?_
                    obtain ⟨q48, hq48, hf⟩ := rf_bindq hf
                    refine rf_Vv (As := [.int (p1 + q46), .int (x4 + 1)]) (rest := []) (wr := [(a_this_finger_kinds, .inl (cA, 6, .inl f_this_finger_kinds)), (a_this_finger_thicks, .inl (cA, 6, .inl f_this_finger_thicks))]) (wn := [(a_this, .inr (1, rf_o1 a_this_finger a_this_waiting a_this_held a_this_seen q48.1)), (a_this_finger, .inr (0, rf_o0 a_this_finger_kinds a_this_finger_thicks (upd q38 3 v45))), (a_this_finger_kinds, .inl (cA, 6, .inl f_this_finger_kinds)), (a_this_finger_thicks, .inl (cA, 6, .inl f_this_finger_thicks)), (a_this_waiting, .inl (cA, 5022, .inl q48.2.1)), (a_this_held, .inl (cA, 9, .inl q48.2.2)), (a_this_seen, .inl (cA, 558, .inl f_this_seen))]) ⟨hx, hb, hml, hown, hts⟩ hK hP hD hS hA hE (c_X1_arrive l D cA ad a_this a_this_finger a_this_waiting a_this_held a_this_seen a_this_finger_kinds a_this_finger_thicks H.size yg_this (upd q38 3 v45) yf_this_waiting yf_this_held f_this_seen (p1 + q46) (x4 + 1) q48 hq48) (cwV 2 hts gX1_spread_X1_arrive rfl rfl rfl hv_X1_arrive ⟨Nat.le_of_ble_eq_true rfl, Nat.le_of_ble_eq_true rfl⟩) [0, 1, 4, 5, 6] [2, 3] [2, 3, 0, 1, 4, 5, 6] rfl rfl rfl rfl (by decide) rfl rfl 1 0 rfl rfl rfl rfl rfl hl.1 (Nat.le_of_ble_eq_true rfl) dX1_spread_131 ⟨Nat.zero_le _, Nat.zero_le _⟩ (fun H locs hP hD hS => ?_)
                    obtain ⟨v49, ev49⟩ : ∃ y : Int32, y = x5 + 1 := ⟨_, rfl⟩
                    have hf := rf_bindv hf ev49
                    refine lv_iinc (v := v49) (lv' := [(5, .int v49), (7, .int q34), (6, .int 1), (0, .ref a_this), (1, .int p1), (2, .int p2), (3, .int p3), (4, .int x4)]) hx hb dX1_spread_134 hl (k := 7) rfl (by rw [ev49]; rfl) (by decide) rfl (fun ls hl => ?_)
                    clear ev49
                    refine lv_goto (tgt := 11) hx hb dX1_spread_137 (by decide) ?_
                    exact ih v49 q48.1 (upd q38 3 v45) q48.2.1 q48.2.2 ql hf _ _ _ hP hD hS (lv_sub hl [3, 4, 5, 6, 7, 0] rfl) kx
              · have hf := rf_ifn hf c37
                refine lv_goto (tgt := 134) hx hb dX1_spread_71 (by decide) ?_
                obtain ⟨v50, ev50⟩ : ∃ y : Int32, y = x5 + 1 := ⟨_, rfl⟩
                have hf := rf_bindv hf ev50
                refine lv_iinc (v := v50) (lv' := [(5, .int v50), (7, .int q34), (6, .int 1), (0, .ref a_this), (1, .int p1), (2, .int p2), (3, .int p3), (4, .int x4)]) hx hb dX1_spread_134 hl (k := 7) rfl (by rw [ev50]; rfl) (by decide) rfl (fun ls hl => ?_)
                clear ev50
                refine lv_goto (tgt := 11) hx hb dX1_spread_137 (by decide) ?_
                exact ih v50 yg_this q2 yf_this_waiting yf_this_held ql hf _ _ _ hP hD hS (lv_sub hl [3, 4, 5, 6, 7, 0] rfl) kx
          · have hf := rf_ifp hf c35
            refine lv_iload hx hb dX1_spread_53 (lv_at hl 7 rfl) ?_
            refine lv_bipush (v := 6) hx hb dX1_spread_55 (by decide) ?_
            refine lv_icmp_ne (tgt := 134) hx hb dX1_spread_57 (by decide) (fun c51 => ?_) (fun c51 => ?_)
            · have hf := rf_ifn hf c51
              obtain ⟨v52, ev52⟩ : ∃ y : Int32, y = x5 + 1 := ⟨_, rfl⟩
              have hf := rf_bindv hf ev52
              refine lv_iinc (v := v52) (lv' := [(5, .int v52), (7, .int q34), (6, .int 1), (0, .ref a_this), (1, .int p1), (2, .int p2), (3, .int p3), (4, .int x4)]) hx hb dX1_spread_134 hl (k := 7) rfl (by rw [ev52]; rfl) (by decide) rfl (fun ls hl => ?_)
              clear ev52
              refine lv_goto (tgt := 11) hx hb dX1_spread_137 (by decide) ?_
              exact ih v52 yg_this q2 yf_this_waiting yf_this_held ql hf _ _ _ hP hD hS (lv_sub hl [3, 4, 5, 6, 7, 0] rfl) kx
            · have hf := rf_ifp hf c51
              refine lv_iload hx hb dX1_spread_60 (lv_at hl 1 rfl) ?_
              refine lv_if_eq (tgt := 74) hx hb dX1_spread_62 (by decide) (fun c53 => ?_) (fun c53 => ?_)
              · exact absurd c53 (by decide)
              · refine lv_iload hx hb dX1_spread_65 (lv_at hl 6 rfl) ?_
                refine lv_iconst (v := 2) hx hb dX1_spread_67 (by decide) ?_
                refine lv_icmp_lt (tgt := 74) hx hb dX1_spread_68 (by decide) (fun c54 => ?_) (fun c54 => ?_)
                · have hf := rf_ifp hf c54
                  refine lv_aload_n hx hb dX1_spread_74 rfl (lv_at hl 2 rfl) ?_
                  refine va_get (D := D) (ci := 1) (v := .ref a_this_finger) (C := RX1) (T := TX1) (N := 7) hx hb hts jX1_spread_X1 hown hK hP 0 rfl rfl 0 (by decide) (hts _ kX1_spread_0) (fun _ h9 => h9) rfl dX1_spread_75 ?_
                  refine lv_iload hx hb dX1_spread_78 (lv_at hl 7 rfl) ?_
                  obtain ⟨q55, hq55, hf⟩ := rf_bindq hf
                  refine rf_Vv (As := [.int x5]) (rest := []) (wr := [(a_this, .inr (1, rf_o1 a_this_finger a_this_waiting a_this_held a_this_seen yg_this)), (a_this_finger_kinds, .inl (cA, 6, .inl f_this_finger_kinds)), (a_this_finger_thicks, .inl (cA, 6, .inl f_this_finger_thicks)), (a_this_waiting, .inl (cA, 5022, .inl yf_this_waiting)), (a_this_held, .inl (cA, 9, .inl yf_this_held)), (a_this_seen, .inl (cA, 558, .inl f_this_seen))]) (wn := [(a_this, .inr (1, rf_o1 a_this_finger a_this_waiting a_this_held a_this_seen yg_this)), (a_this_finger, .inr (0, rf_o0 a_this_finger_kinds a_this_finger_thicks q55)), (a_this_finger_kinds, .inl (cA, 6, .inl f_this_finger_kinds)), (a_this_finger_thicks, .inl (cA, 6, .inl f_this_finger_thicks)), (a_this_waiting, .inl (cA, 5022, .inl yf_this_waiting)), (a_this_held, .inl (cA, 9, .inl yf_this_held)), (a_this_seen, .inl (cA, 558, .inl f_this_seen))]) ⟨hx, hb, hml, hown, hts⟩ hK hP hD hS hA hE (c_X0_strain l D cA ad a_this_finger a_this_finger_kinds a_this_finger_thicks H.size q2 x5 q55 hq55) (cwV 1 hts gX1_spread_X0_strain rfl rfl rfl hv_X0_strain ⟨Nat.le_of_ble_eq_true rfl, Nat.le_of_ble_eq_true rfl⟩) [1] [0, 2, 3, 4, 5, 6] [0, 6, 1, 2, 3, 4, 5] rfl rfl rfl rfl (by decide) rfl rfl 0 1 rfl rfl rfl rfl rfl hl.1 (Nat.le_of_ble_eq_true rfl) dX1_spread_80 ⟨Nat.zero_le _, Nat.zero_le _⟩ (fun H locs hP hD hS => ?_)
                  refine lv_aload_n hx hb dX1_spread_83 rfl (lv_at hl 2 rfl) ?_
                  refine va_get (D := D) (ci := 1) (v := .ref a_this_finger) (C := RX1) (T := TX1) (N := 7) hx hb hts jX1_spread_X1 hown hK hP 0 rfl rfl 0 (by decide) (hts _ kX1_spread_0) (fun _ h9 => h9) rfl dX1_spread_84 ?_
                  refine lv_dup hx hb dX1_spread_87 rfl ?_
                  refine va_get (D := D) (ci := 0) (v := .int (q55 3)) (C := RX0) (T := TX0) (N := 12) hx hb hts jX1_spread_X0 hown hK hP 1 rfl rfl 5 (by decide) (hts _ kX1_spread_1) (fun _ h9 => h9) rfl dX1_spread_88 ?_
                  refine lv_iload hx hb dX1_spread_91 (lv_at hl 0 rfl) ?_
                  refine lv_if_eq (tgt := 100) hx hb dX1_spread_93 (by decide) (fun c56 => ?_) (fun c56 => ?_)
                  · have hf := rf_ifp hf c56
                    refine lv_iconst (v := 0) hx hb dX1_spread_100 (by decide) ?_
                    refine lv_iadd hx hb dX1_spread_101 ?_
                    refine lv_topi (fun v57 ev57 => ?_)
                    have hf := rf_bindv hf ev57
                    clear ev57
                    refine va_put (D := D) (ci := 0) (v := .int v57) (ty := .int) (C := RX0) (T := TX0) (N := 12) hx hb hts jX1_spread_X0 tyX0 tyX0_ok nmX0 hown hK hP hD hS 1 rfl rfl 5 (by decide) (hts _ kX1_spread_1) (fun _ h9 => h9) rfl (by decide +kernel) rfl rfl (Nat.le_of_ble_eq_true rfl) dX1_spread_102 (fun H locs hP hD hS => ?_)
                    have hP : va_P D vwCl [(a_this, .inr (1, rf_o1 a_this_finger a_this_waiting a_this_held a_this_seen yg_this)), (a_this_finger, .inr (0, rf_o0 a_this_finger_kinds a_this_finger_thicks (upd q55 3 v57))), (a_this_finger_kinds, .inl (cA, 6, .inl f_this_finger_kinds)), (a_this_finger_thicks, .inl (cA, 6, .inl f_this_finger_thicks)), (a_this_waiting, .inl (cA, 5022, .inl yf_this_waiting)), (a_this_held, .inl (cA, 9, .inl yf_this_held)), (a_this_seen, .inl (cA, 558, .inl f_this_seen))] H := hP
                    have hD : va_D A [(a_this, .inr (1, rf_o1 a_this_finger a_this_waiting a_this_held a_this_seen yg_this)), (a_this_finger, .inr (0, rf_o0 a_this_finger_kinds a_this_finger_thicks (upd q55 3 v57))), (a_this_finger_kinds, .inl (cA, 6, .inl f_this_finger_kinds)), (a_this_finger_thicks, .inl (cA, 6, .inl f_this_finger_thicks)), (a_this_waiting, .inl (cA, 5022, .inl yf_this_waiting)), (a_this_held, .inl (cA, 9, .inl yf_this_held)), (a_this_seen, .inl (cA, 558, .inl f_this_seen))] := hD
                    refine lv_aload_n hx hb dX1_spread_105 rfl (lv_at hl 2 rfl) ?_
                    refine lv_iload_n hx hb dX1_spread_106 rfl (lv_at hl 3 rfl) ?_
                    refine lv_iload hx hb dX1_spread_107 (lv_at hl 7 rfl) ?_
                    refine lv_aload_n hx hb dX1_spread_109 rfl (lv_at hl 2 rfl) ?_
                    refine va_get (D := D) (ci := 1) (v := .int (yg_this 2)) (C := RX1) (T := TX1) (N := 7) hx hb hts jX1_spread_X1 hown hK hP 0 rfl rfl 6 (by decide) (hts _ kX1_spread_2) (fun _ h9 => h9) rfl dX1_spread_110 ?_
                    obtain ⟨q58, hq58, hf⟩ := rf_bindq hf
                    refine rf_Ni (As := [.int x5, .int (yg_this 2)]) (rest := [.int p1, .ref a_this]) (wr := [(a_this, .inr (1, rf_o1 a_this_finger a_this_waiting a_this_held a_this_seen yg_this)), (a_this_finger, .inr (0, rf_o0 a_this_finger_kinds a_this_finger_thicks (upd q55 3 v57))), (a_this_finger_kinds, .inl (cA, 6, .inl f_this_finger_kinds)), (a_this_finger_thicks, .inl (cA, 6, .inl f_this_finger_thicks)), (a_this_waiting, .inl (cA, 5022, .inl yf_this_waiting)), (a_this_held, .inl (cA, 9, .inl yf_this_held)), (a_this_seen, .inl (cA, 558, .inl f_this_seen))]) (wn := [(a_this, .inr (1, rf_o1 a_this_finger a_this_waiting a_this_held a_this_seen yg_this)), (a_this_finger, .inr (0, rf_o0 a_this_finger_kinds a_this_finger_thicks (upd q55 3 v57))), (a_this_finger_kinds, .inl (cA, 6, .inl f_this_finger_kinds)), (a_this_finger_thicks, .inl (cA, 6, .inl f_this_finger_thicks)), (a_this_waiting, .inl (cA, 5022, .inl yf_this_waiting)), (a_this_held, .inl (cA, 9, .inl yf_this_held)), (a_this_seen, .inl (cA, 558, .inl f_this_seen))]) ⟨hx, hb, hml, hown, hts⟩ hK hP hD hS hA hE (c_X2_movePrice l D cA ad H.size x5 (yg_this 2) q58 hq58) ⟨va_cnB (host := "RingAndFinger") 2 hts gX1_spread_X2_movePrice_n92 rfl rfl rfl (hE.1 7 _ rfl) (hts _ kX1_spread_3) hn_X2_movePrice ⟨Nat.le_of_ble_eq_true rfl, Nat.le_of_ble_eq_true rfl⟩, (hts _ kX1_spread_4), trivial⟩ [] [0, 1, 2, 3, 4, 5, 6] [0, 1, 2, 3, 4, 5, 6] rfl rfl rfl rfl (by decide) rfl rfl rfl rfl hl.1 (Nat.le_of_ble_eq_true rfl) dX1_spread_113 ⟨Nat.zero_le _, Nat.zero_le _⟩ (fun H locs hP hD hS => ?_)
                    refine lv_iadd hx hb dX1_spread_116 ?_
                    refine lv_iload hx hb dX1_spread_117 (lv_at hl 1 rfl) ?_
                    refine lv_if_eq (tgt := 129) hx hb dX1_spread_119 (by decide) (fun c59 => ?_) (fun c59 => ?_)
                    · exact absurd c59 (by decide)
                    · refine lv_iload hx hb dX1_spread_122 (lv_at hl 6 rfl) ?_
                      refine lv_iconst (v := 1) hx hb dX1_spread_124 (by decide) ?_
                      refine lv_iadd hx hb dX1_spread_125 ?_
                      refine lv_goto (tgt := 131) hx hb dX1_spread_126 (by decide) ?_
                      obtain ⟨q60, hq60, hf⟩ := rf_bindq hf
                      refine rf_Vv (As := [.int (p1 + q58), .int (x4 + 1)]) (rest := []) (wr := [(a_this_finger_kinds, .inl (cA, 6, .inl f_this_finger_kinds)), (a_this_finger_thicks, .inl (cA, 6, .inl f_this_finger_thicks))]) (wn := [(a_this, .inr (1, rf_o1 a_this_finger a_this_waiting a_this_held a_this_seen q60.1)), (a_this_finger, .inr (0, rf_o0 a_this_finger_kinds a_this_finger_thicks (upd q55 3 v57))), (a_this_finger_kinds, .inl (cA, 6, .inl f_this_finger_kinds)), (a_this_finger_thicks, .inl (cA, 6, .inl f_this_finger_thicks)), (a_this_waiting, .inl (cA, 5022, .inl q60.2.1)), (a_this_held, .inl (cA, 9, .inl q60.2.2)), (a_this_seen, .inl (cA, 558, .inl f_this_seen))]) ⟨hx, hb, hml, hown, hts⟩ hK hP hD hS hA hE (c_X1_arrive l D cA ad a_this a_this_finger a_this_waiting a_this_held a_this_seen a_this_finger_kinds a_this_finger_thicks H.size yg_this (upd q55 3 v57) yf_this_waiting yf_this_held f_this_seen (p1 + q58) (x4 + 1) q60 hq60) (cwV 2 hts gX1_spread_X1_arrive rfl rfl rfl hv_X1_arrive ⟨Nat.le_of_ble_eq_true rfl, Nat.le_of_ble_eq_true rfl⟩) [0, 1, 4, 5, 6] [2, 3] [2, 3, 0, 1, 4, 5, 6] rfl rfl rfl rfl (by decide) rfl rfl 1 0 rfl rfl rfl rfl rfl hl.1 (Nat.le_of_ble_eq_true rfl) dX1_spread_131 ⟨Nat.zero_le _, Nat.zero_le _⟩ (fun H locs hP hD hS => ?_)
                      obtain ⟨v61, ev61⟩ : ∃ y : Int32, y = x5 + 1 := ⟨_, rfl⟩
                      have hf := rf_bindv hf ev61
                      refine lv_iinc (v := v61) (lv' := [(5, .int v61), (7, .int q34), (6, .int 1), (0, .ref a_this), (1, .int p1), (2, .int p2), (3, .int p3), (4, .int x4)]) hx hb dX1_spread_134 hl (k := 7) rfl (by rw [ev61]; rfl) (by decide) rfl (fun ls hl => ?_)
                      clear ev61
                      refine lv_goto (tgt := 11) hx hb dX1_spread_137 (by decide) ?_
                      exact ih v61 q60.1 (upd q55 3 v57) q60.2.1 q60.2.2 ql hf _ _ _ hP hD hS (lv_sub hl [3, 4, 5, 6, 7, 0] rfl) kx
                  · have hf := rf_ifn hf c56
                    refine lv_iconst (v := 1) hx hb dX1_spread_96 (by decide) ?_
                    refine lv_goto (tgt := 101) hx hb dX1_spread_97 (by decide) ?_
                    refine lv_iadd hx hb dX1_spread_101 ?_
                    refine lv_topi (fun v62 ev62 => ?_)
                    have hf := rf_bindv hf ev62
                    clear ev62
                    refine va_put (D := D) (ci := 0) (v := .int v62) (ty := .int) (C := RX0) (T := TX0) (N := 12) hx hb hts jX1_spread_X0 tyX0 tyX0_ok nmX0 hown hK hP hD hS 1 rfl rfl 5 (by decide) (hts _ kX1_spread_1) (fun _ h9 => h9) rfl (by decide +kernel) rfl rfl (Nat.le_of_ble_eq_true rfl) dX1_spread_102 (fun H locs hP hD hS => ?_)
                    have hP : va_P D vwCl [(a_this, .inr (1, rf_o1 a_this_finger a_this_waiting a_this_held a_this_seen yg_this)), (a_this_finger, .inr (0, rf_o0 a_this_finger_kinds a_this_finger_thicks (upd q55 3 v62))), (a_this_finger_kinds, .inl (cA, 6, .inl f_this_finger_kinds)), (a_this_finger_thicks, .inl (cA, 6, .inl f_this_finger_thicks)), (a_this_waiting, .inl (cA, 5022, .inl yf_this_waiting)), (a_this_held, .inl (cA, 9, .inl yf_this_held)), (a_this_seen, .inl (cA, 558, .inl f_this_seen))] H := hP
                    have hD : va_D A [(a_this, .inr (1, rf_o1 a_this_finger a_this_waiting a_this_held a_this_seen yg_this)), (a_this_finger, .inr (0, rf_o0 a_this_finger_kinds a_this_finger_thicks (upd q55 3 v62))), (a_this_finger_kinds, .inl (cA, 6, .inl f_this_finger_kinds)), (a_this_finger_thicks, .inl (cA, 6, .inl f_this_finger_thicks)), (a_this_waiting, .inl (cA, 5022, .inl yf_this_waiting)), (a_this_held, .inl (cA, 9, .inl yf_this_held)), (a_this_seen, .inl (cA, 558, .inl f_this_seen))] := hD
                    refine lv_aload_n hx hb dX1_spread_105 rfl (lv_at hl 2 rfl) ?_
                    refine lv_iload_n hx hb dX1_spread_106 rfl (lv_at hl 3 rfl) ?_
                    refine lv_iload hx hb dX1_spread_107 (lv_at hl 7 rfl) ?_
                    refine lv_aload_n hx hb dX1_spread_109 rfl (lv_at hl 2 rfl) ?_
                    refine va_get (D := D) (ci := 1) (v := .int (yg_this 2)) (C := RX1) (T := TX1) (N := 7) hx hb hts jX1_spread_X1 hown hK hP 0 rfl rfl 6 (by decide) (hts _ kX1_spread_2) (fun _ h9 => h9) rfl dX1_spread_110 ?_
                    obtain ⟨q63, hq63, hf⟩ := rf_bindq hf
                    refine rf_Ni (As := [.int x5, .int (yg_this 2)]) (rest := [.int p1, .ref a_this]) (wr := [(a_this, .inr (1, rf_o1 a_this_finger a_this_waiting a_this_held a_this_seen yg_this)), (a_this_finger, .inr (0, rf_o0 a_this_finger_kinds a_this_finger_thicks (upd q55 3 v62))), (a_this_finger_kinds, .inl (cA, 6, .inl f_this_finger_kinds)), (a_this_finger_thicks, .inl (cA, 6, .inl f_this_finger_thicks)), (a_this_waiting, .inl (cA, 5022, .inl yf_this_waiting)), (a_this_held, .inl (cA, 9, .inl yf_this_held)), (a_this_seen, .inl (cA, 558, .inl f_this_seen))]) (wn := [(a_this, .inr (1, rf_o1 a_this_finger a_this_waiting a_this_held a_this_seen yg_this)), (a_this_finger, .inr (0, rf_o0 a_this_finger_kinds a_this_finger_thicks (upd q55 3 v62))), (a_this_finger_kinds, .inl (cA, 6, .inl f_this_finger_kinds)), (a_this_finger_thicks, .inl (cA, 6, .inl f_this_finger_thicks)), (a_this_waiting, .inl (cA, 5022, .inl yf_this_waiting)), (a_this_held, .inl (cA, 9, .inl yf_this_held)), (a_this_seen, .inl (cA, 558, .inl f_this_seen))]) ⟨hx, hb, hml, hown, hts⟩ hK hP hD hS hA hE (c_X2_movePrice l D cA ad H.size x5 (yg_this 2) q63 hq63) ⟨va_cnB (host := "RingAndFinger") 2 hts gX1_spread_X2_movePrice_n92 rfl rfl rfl (hE.1 7 _ rfl) (hts _ kX1_spread_3) hn_X2_movePrice ⟨Nat.le_of_ble_eq_true rfl, Nat.le_of_ble_eq_true rfl⟩, (hts _ kX1_spread_4), trivial⟩ [] [0, 1, 2, 3, 4, 5, 6] [0, 1, 2, 3, 4, 5, 6] rfl rfl rfl rfl (by decide) rfl rfl rfl rfl hl.1 (Nat.le_of_ble_eq_true rfl) dX1_spread_113 ⟨Nat.zero_le _, Nat.zero_le _⟩ (fun H locs hP hD hS => ?_)
                    refine lv_iadd hx hb dX1_spread_116 ?_
                    refine lv_iload hx hb dX1_spread_117 (lv_at hl 1 rfl) ?_
                    refine lv_if_eq (tgt := 129) hx hb dX1_spread_119 (by decide) (fun c64 => ?_) (fun c64 => ?_)
                    · exact absurd c64 (by decide)
                    · refine lv_iload hx hb dX1_spread_122 (lv_at hl 6 rfl) ?_
                      refine lv_iconst (v := 1) hx hb dX1_spread_124 (by decide) ?_
                      refine lv_iadd hx hb dX1_spread_125 ?_
                      refine lv_goto (tgt := 131) hx hb dX1_spread_126 (by decide) ?_
                      obtain ⟨q65, hq65, hf⟩ := rf_bindq hf
                      refine rf_Vv (As := [.int (p1 + q63), .int (x4 + 1)]) (rest := []) (wr := [(a_this_finger_kinds, .inl (cA, 6, .inl f_this_finger_kinds)), (a_this_finger_thicks, .inl (cA, 6, .inl f_this_finger_thicks))]) (wn := [(a_this, .inr (1, rf_o1 a_this_finger a_this_waiting a_this_held a_this_seen q65.1)), (a_this_finger, .inr (0, rf_o0 a_this_finger_kinds a_this_finger_thicks (upd q55 3 v62))), (a_this_finger_kinds, .inl (cA, 6, .inl f_this_finger_kinds)), (a_this_finger_thicks, .inl (cA, 6, .inl f_this_finger_thicks)), (a_this_waiting, .inl (cA, 5022, .inl q65.2.1)), (a_this_held, .inl (cA, 9, .inl q65.2.2)), (a_this_seen, .inl (cA, 558, .inl f_this_seen))]) ⟨hx, hb, hml, hown, hts⟩ hK hP hD hS hA hE (c_X1_arrive l D cA ad a_this a_this_finger a_this_waiting a_this_held a_this_seen a_this_finger_kinds a_this_finger_thicks H.size yg_this (upd q55 3 v62) yf_this_waiting yf_this_held f_this_seen (p1 + q63) (x4 + 1) q65 hq65) (cwV 2 hts gX1_spread_X1_arrive rfl rfl rfl hv_X1_arrive ⟨Nat.le_of_ble_eq_true rfl, Nat.le_of_ble_eq_true rfl⟩) [0, 1, 4, 5, 6] [2, 3] [2, 3, 0, 1, 4, 5, 6] rfl rfl rfl rfl (by decide) rfl rfl 1 0 rfl rfl rfl rfl rfl hl.1 (Nat.le_of_ble_eq_true rfl) dX1_spread_131 ⟨Nat.zero_le _, Nat.zero_le _⟩ (fun H locs hP hD hS => ?_)
                      obtain ⟨v66, ev66⟩ : ∃ y : Int32, y = x5 + 1 := ⟨_, rfl⟩
                      have hf := rf_bindv hf ev66
                      refine lv_iinc (v := v66) (lv' := [(5, .int v66), (7, .int q34), (6, .int 1), (0, .ref a_this), (1, .int p1), (2, .int p2), (3, .int p3), (4, .int x4)]) hx hb dX1_spread_134 hl (k := 7) rfl (by rw [ev66]; rfl) (by decide) rfl (fun ls hl => ?_)
                      clear ev66
                      refine lv_goto (tgt := 11) hx hb dX1_spread_137 (by decide) ?_
                      exact ih v66 q65.1 (upd q55 3 v62) q65.2.1 q65.2.2 ql hf _ _ _ hP hD hS (lv_sub hl [3, 4, 5, 6, 7, 0] rfl) kx
                · have hf := rf_ifn hf c54
                  refine lv_goto (tgt := 134) hx hb dX1_spread_71 (by decide) ?_
                  obtain ⟨v67, ev67⟩ : ∃ y : Int32, y = x5 + 1 := ⟨_, rfl⟩
                  have hf := rf_bindv hf ev67
                  refine lv_iinc (v := v67) (lv' := [(5, .int v67), (7, .int q34), (6, .int 1), (0, .ref a_this), (1, .int p1), (2, .int p2), (3, .int p3), (4, .int x4)]) hx hb dX1_spread_134 hl (k := 7) rfl (by rw [ev67]; rfl) (by decide) rfl (fun ls hl => ?_)
                  clear ev67
                  refine lv_goto (tgt := 11) hx hb dX1_spread_137 (by decide) ?_
                  exact ih v67 yg_this q2 yf_this_waiting yf_this_held ql hf _ _ _ hP hD hS (lv_sub hl [3, 4, 5, 6, 7, 0] rfl) kx
  rw [f_X1_spread] at hf
  refine lv_iload_n hx hb dX1_spread_0 rfl (lv_at hl 2 rfl) ?_
  refine lv_bipush (v := 31) hx hb dX1_spread_1 (by decide) ?_
  refine lv_idiv hx hb dX1_spread_3 (by decide) ?_
  refine lv_iconst (v := 3) hx hb dX1_spread_4 (by decide) ?_
  refine lv_irem hx hb dX1_spread_5 (by decide) ?_
  refine lv_topi (fun v68 ev68 => ?_)
  have hf := rf_bindv hf ev68
  clear ev68
  refine lv_istore (lv' := [(4, .int v68), (0, .ref a_this), (1, .int p1), (2, .int p2), (3, .int p3)]) hx hb dX1_spread_6 hl (by decide) rfl (fun ls hl => ?_)
  refine lv_iconst (v := 0) hx hb dX1_spread_8 (by decide) ?_
  refine lv_istore (lv' := [(5, .int 0), (4, .int v68), (0, .ref a_this), (1, .int p1), (2, .int p2), (3, .int p3)]) hx hb dX1_spread_9 hl (by decide) rfl (fun ls hl => ?_)
  obtain ⟨q69, hq69, hf⟩ := rf_bindq hf
  refine key_11 v68 rf_fu 0 g_this g_this_finger f_this_waiting f_this_held q69 hq69 _ _ _ hP hD hS (lv_sub hl [2, 3, 4, 5, 1, 0] rfl) (fun H locs ls hP hD hS hl => ?_)
  refine lv_aload_n hx hb dX1_spread_140 rfl (lv_at hl 0 rfl) ?_
  refine lv_iload_n hx hb dX1_spread_141 rfl (lv_at hl 2 rfl) ?_
  refine lv_iload_n hx hb dX1_spread_142 rfl (lv_at hl 3 rfl) ?_
  obtain ⟨q70, hq70, hf⟩ := rf_bindq hf
  refine rf_Vv (As := [.int p2, .int p3]) (rest := []) (wr := [(a_this_finger_kinds, .inl (cA, 6, .inl f_this_finger_kinds)), (a_this_finger_thicks, .inl (cA, 6, .inl f_this_finger_thicks)), (a_this_waiting, .inl (cA, 5022, .inl q69.2.2.2.1)), (a_this_held, .inl (cA, 9, .inl q69.2.2.2.2)), (a_this_seen, .inl (cA, 558, .inl f_this_seen))]) (wn := [(a_this, .inr (1, rf_o1 a_this_finger a_this_waiting a_this_held a_this_seen q69.2.1)), (a_this_finger, .inr (0, rf_o0 a_this_finger_kinds a_this_finger_thicks q70)), (a_this_finger_kinds, .inl (cA, 6, .inl f_this_finger_kinds)), (a_this_finger_thicks, .inl (cA, 6, .inl f_this_finger_thicks)), (a_this_waiting, .inl (cA, 5022, .inl q69.2.2.2.1)), (a_this_held, .inl (cA, 9, .inl q69.2.2.2.2)), (a_this_seen, .inl (cA, 558, .inl f_this_seen))]) ⟨hx, hb, hml, hown, hts⟩ hK hP hD hS hA hE (c_X1_stand l D cA ad a_this a_this_finger a_this_waiting a_this_held a_this_seen a_this_finger_kinds a_this_finger_thicks H.size q69.2.1 q69.2.2.1 p2 p3 q70 hq70) (cwV 2 hts gX1_spread_X1_stand rfl rfl rfl hv_X1_stand ⟨Nat.le_of_ble_eq_true rfl, Nat.le_of_ble_eq_true rfl⟩) [0, 1] [2, 3, 4, 5, 6] [5, 6, 0, 1, 2, 3, 4] rfl rfl rfl rfl (by decide) rfl rfl 1 0 rfl rfl rfl rfl rfl hl.1 (Nat.le_of_ble_eq_true rfl) dX1_spread_143 ⟨Nat.zero_le _, Nat.zero_le _⟩ (fun H locs hP hD hS => ?_)
  refine lv_aload_n hx hb dX1_spread_146 rfl (lv_at hl 0 rfl) ?_
  refine va_get (D := D) (ci := 1) (v := .ref a_this_finger) (C := RX1) (T := TX1) (N := 7) hx hb hts jX1_spread_X1 hown hK hP 0 rfl rfl 0 (by decide) (hts _ kX1_spread_0) (fun _ h9 => h9) rfl dX1_spread_147 ?_
  refine lv_iconst (v := 5) hx hb dX1_spread_150 (by decide) ?_
  obtain ⟨q71, hq71, hf⟩ := rf_bindq hf
  refine rf_Vv (As := [.int 5]) (rest := []) (wr := [(a_this, .inr (1, rf_o1 a_this_finger a_this_waiting a_this_held a_this_seen q69.2.1)), (a_this_finger_kinds, .inl (cA, 6, .inl f_this_finger_kinds)), (a_this_finger_thicks, .inl (cA, 6, .inl f_this_finger_thicks)), (a_this_waiting, .inl (cA, 5022, .inl q69.2.2.2.1)), (a_this_held, .inl (cA, 9, .inl q69.2.2.2.2)), (a_this_seen, .inl (cA, 558, .inl f_this_seen))]) (wn := [(a_this, .inr (1, rf_o1 a_this_finger a_this_waiting a_this_held a_this_seen q69.2.1)), (a_this_finger, .inr (0, rf_o0 a_this_finger_kinds a_this_finger_thicks q71)), (a_this_finger_kinds, .inl (cA, 6, .inl f_this_finger_kinds)), (a_this_finger_thicks, .inl (cA, 6, .inl f_this_finger_thicks)), (a_this_waiting, .inl (cA, 5022, .inl q69.2.2.2.1)), (a_this_held, .inl (cA, 9, .inl q69.2.2.2.2)), (a_this_seen, .inl (cA, 558, .inl f_this_seen))]) ⟨hx, hb, hml, hown, hts⟩ hK hP hD hS hA hE (c_X0_rest l D cA ad a_this_finger a_this_finger_kinds a_this_finger_thicks H.size q70 5 q71 hq71) (cwV 1 hts gX1_spread_X0_rest rfl rfl rfl hv_X0_rest ⟨Nat.le_of_ble_eq_true rfl, Nat.le_of_ble_eq_true rfl⟩) [1] [0, 2, 3, 4, 5, 6] [0, 6, 1, 2, 3, 4, 5] rfl rfl rfl rfl (by decide) rfl rfl 0 1 rfl rfl rfl rfl rfl hl.1 (Nat.le_of_ble_eq_true rfl) dX1_spread_151 ⟨Nat.zero_le _, Nat.zero_le _⟩ (fun H locs hP hD hS => ?_)
  refine lv_aload_n hx hb dX1_spread_154 rfl (lv_at hl 0 rfl) ?_
  refine lv_iload_n hx hb dX1_spread_155 rfl (lv_at hl 1 rfl) ?_
  refine lv_bipush (v := 7) hx hb dX1_spread_156 (by decide) ?_
  refine lv_aload_n hx hb dX1_spread_158 rfl (lv_at hl 0 rfl) ?_
  refine va_get (D := D) (ci := 1) (v := .int (q69.2.1 2)) (C := RX1) (T := TX1) (N := 7) hx hb hts jX1_spread_X1 hown hK hP 0 rfl rfl 6 (by decide) (hts _ kX1_spread_2) (fun _ h9 => h9) rfl dX1_spread_159 ?_
  obtain ⟨q72, hq72, hf⟩ := rf_bindq hf
  refine rf_Ni (As := [.int 7, .int (q69.2.1 2)]) (rest := [.int p1, .ref a_this]) (wr := [(a_this, .inr (1, rf_o1 a_this_finger a_this_waiting a_this_held a_this_seen q69.2.1)), (a_this_finger, .inr (0, rf_o0 a_this_finger_kinds a_this_finger_thicks q71)), (a_this_finger_kinds, .inl (cA, 6, .inl f_this_finger_kinds)), (a_this_finger_thicks, .inl (cA, 6, .inl f_this_finger_thicks)), (a_this_waiting, .inl (cA, 5022, .inl q69.2.2.2.1)), (a_this_held, .inl (cA, 9, .inl q69.2.2.2.2)), (a_this_seen, .inl (cA, 558, .inl f_this_seen))]) (wn := [(a_this, .inr (1, rf_o1 a_this_finger a_this_waiting a_this_held a_this_seen q69.2.1)), (a_this_finger, .inr (0, rf_o0 a_this_finger_kinds a_this_finger_thicks q71)), (a_this_finger_kinds, .inl (cA, 6, .inl f_this_finger_kinds)), (a_this_finger_thicks, .inl (cA, 6, .inl f_this_finger_thicks)), (a_this_waiting, .inl (cA, 5022, .inl q69.2.2.2.1)), (a_this_held, .inl (cA, 9, .inl q69.2.2.2.2)), (a_this_seen, .inl (cA, 558, .inl f_this_seen))]) ⟨hx, hb, hml, hown, hts⟩ hK hP hD hS hA hE (c_X2_movePrice l D cA ad H.size 7 (q69.2.1 2) q72 hq72) ⟨va_cnB (host := "RingAndFinger") 2 hts gX1_spread_X2_movePrice_n92 rfl rfl rfl (hE.1 7 _ rfl) (hts _ kX1_spread_3) hn_X2_movePrice ⟨Nat.le_of_ble_eq_true rfl, Nat.le_of_ble_eq_true rfl⟩, (hts _ kX1_spread_4), trivial⟩ [] [0, 1, 2, 3, 4, 5, 6] [0, 1, 2, 3, 4, 5, 6] rfl rfl rfl rfl (by decide) rfl rfl rfl rfl hl.1 (Nat.le_of_ble_eq_true rfl) dX1_spread_162 ⟨Nat.zero_le _, Nat.zero_le _⟩ (fun H locs hP hD hS => ?_)
  refine lv_iadd hx hb dX1_spread_165 ?_
  refine lv_iload hx hb dX1_spread_166 (lv_at hl 4 rfl) ?_
  obtain ⟨q73, hq73, hf⟩ := rf_bindq hf
  refine rf_Vv (As := [.int (p1 + q72), .int v68]) (rest := []) (wr := [(a_this_finger_kinds, .inl (cA, 6, .inl f_this_finger_kinds)), (a_this_finger_thicks, .inl (cA, 6, .inl f_this_finger_thicks))]) (wn := [(a_this, .inr (1, rf_o1 a_this_finger a_this_waiting a_this_held a_this_seen q73.1)), (a_this_finger, .inr (0, rf_o0 a_this_finger_kinds a_this_finger_thicks q71)), (a_this_finger_kinds, .inl (cA, 6, .inl f_this_finger_kinds)), (a_this_finger_thicks, .inl (cA, 6, .inl f_this_finger_thicks)), (a_this_waiting, .inl (cA, 5022, .inl q73.2.1)), (a_this_held, .inl (cA, 9, .inl q73.2.2)), (a_this_seen, .inl (cA, 558, .inl f_this_seen))]) ⟨hx, hb, hml, hown, hts⟩ hK hP hD hS hA hE (c_X1_arrive l D cA ad a_this a_this_finger a_this_waiting a_this_held a_this_seen a_this_finger_kinds a_this_finger_thicks H.size q69.2.1 q71 q69.2.2.2.1 q69.2.2.2.2 f_this_seen (p1 + q72) v68 q73 hq73) (cwV 2 hts gX1_spread_X1_arrive rfl rfl rfl hv_X1_arrive ⟨Nat.le_of_ble_eq_true rfl, Nat.le_of_ble_eq_true rfl⟩) [0, 1, 4, 5, 6] [2, 3] [2, 3, 0, 1, 4, 5, 6] rfl rfl rfl rfl (by decide) rfl rfl 1 0 rfl rfl rfl rfl rfl hl.1 (Nat.le_of_ble_eq_true rfl) dX1_spread_168 ⟨Nat.zero_le _, Nat.zero_le _⟩ (fun H locs hP hD hS => ?_)
  obtain rfl := Option.some.inj hf
  exact W.vret hx hb hr (fun t ht hW => ⟨⟨(), rfl, trivial, rf_mk ht hP hD⟩, hS.F ht⟩) hS.2.2 dX1_spread_171
theorem kX1_spreadLayer_0 : (.fieldLink RX1 22 "RingAndFinger$Search" "held" "[I" : Cond) ∈ wsX1_spreadLayer := by decide +kernel
theorem kX1_spreadLayer_1 : (.initialized RX2 : Cond) ∈ wsX1_spreadLayer := by decide +kernel
theorem kX1_spreadLayer_2 : (.static yX2_at : Cond) ∈ wsX1_spreadLayer := by decide +kernel
theorem kX1_spreadLayer_3 : (.fieldLink RX1 18 "RingAndFinger$Search" "waiting" "[I" : Cond) ∈ wsX1_spreadLayer := by decide +kernel
theorem kX1_spreadLayer_4 : (.static yX2_put : Cond) ∈ wsX1_spreadLayer := by decide +kernel
theorem kX1_spreadLayer_5 : (.fieldLink RX1 28 "RingAndFinger$Search" "left" "I" : Cond) ∈ wsX1_spreadLayer := by decide +kernel
theorem kX1_spreadLayer_6 : (.fieldLink RX1 25 "RingAndFinger$Search" "seen" "[I" : Cond) ∈ wsX1_spreadLayer := by decide +kernel
theorem jX1_spreadLayer_X1 : ∀ w ∈ u_ws RX1 TX1 7, w ∈ wsX1_spreadLayer := by decide +kernel
set_option maxHeartbeats 8000000 in
set_option maxRecDepth 100000 in
theorem c_X1_spreadLayer (l : Launch) (D : va_G) (cA : ClassId) (ad : Nat → Nat) (a_this a_this_finger a_this_waiting a_this_held a_this_seen a_this_finger_kinds a_this_finger_thicks : Nat) (sz : Nat) (g_this g_this_finger f_this_finger_kinds f_this_finger_thicks f_this_waiting f_this_held f_this_seen : Nat → Int32) (p1 : Int32) (q : (Nat → Int32) × (Nat → Int32) × (Nat → Int32) × (Nat → Int32) × (Nat → Int32)) (hf : f_X1_spreadLayer g_this g_this_finger f_this_finger_kinds f_this_finger_thicks f_this_waiting f_this_held f_this_seen p1 = some q) : Met l yX1_spreadLayer wsX1_spreadLayer ({ frames := 4, cells := 0, slots := 0, locals := 96 } : Room) (va_Pc [.ref a_this, .int p1] (rf_Pre D cA ad [(a_this, .inr (1, rf_o1 a_this_finger a_this_waiting a_this_held a_this_seen g_this)), (a_this_finger, .inr (0, rf_o0 a_this_finger_kinds a_this_finger_thicks g_this_finger)), (a_this_finger_kinds, .inl (cA, 6, .inl f_this_finger_kinds)), (a_this_finger_thicks, .inl (cA, 6, .inl f_this_finger_thicks)), (a_this_waiting, .inl (cA, 5022, .inl f_this_waiting)), (a_this_held, .inl (cA, 9, .inl f_this_held)), (a_this_seen, .inl (cA, 558, .inl f_this_seen))] sz)) (va_Qv (fun (_ : Unit) => True) (fun _ t => rf_Post D (va_A [(a_this, .inr (1, rf_o1 a_this_finger a_this_waiting a_this_held a_this_seen g_this)), (a_this_finger, .inr (0, rf_o0 a_this_finger_kinds a_this_finger_thicks g_this_finger)), (a_this_finger_kinds, .inl (cA, 6, .inl f_this_finger_kinds)), (a_this_finger_thicks, .inl (cA, 6, .inl f_this_finger_thicks)), (a_this_waiting, .inl (cA, 5022, .inl f_this_waiting)), (a_this_held, .inl (cA, 9, .inl f_this_held)), (a_this_seen, .inl (cA, 558, .inl f_this_seen))] sz) [(a_this, .inr (1, rf_o1 a_this_finger a_this_waiting a_this_held a_this_seen q.1)), (a_this_finger, .inr (0, rf_o0 a_this_finger_kinds a_this_finger_thicks q.2.1)), (a_this_finger_kinds, .inl (cA, 6, .inl f_this_finger_kinds)), (a_this_finger_thicks, .inl (cA, 6, .inl f_this_finger_thicks)), (a_this_waiting, .inl (cA, 5022, .inl q.2.2.1)), (a_this_held, .inl (cA, 9, .inl q.2.2.2.1)), (a_this_seen, .inl (cA, 558, .inl q.2.2.2.2))] t) (va_A [(a_this, .inr (1, rf_o1 a_this_finger a_this_waiting a_this_held a_this_seen g_this)), (a_this_finger, .inr (0, rf_o0 a_this_finger_kinds a_this_finger_thicks g_this_finger)), (a_this_finger_kinds, .inl (cA, 6, .inl f_this_finger_kinds)), (a_this_finger_thicks, .inl (cA, 6, .inl f_this_finger_thicks)), (a_this_waiting, .inl (cA, 5022, .inl f_this_waiting)), (a_this_held, .inl (cA, 9, .inl f_this_held)), (a_this_seen, .inl (cA, 558, .inl f_this_seen))] sz)) 0 0 (va_A [(a_this, .inr (1, rf_o1 a_this_finger a_this_waiting a_this_held a_this_seen g_this)), (a_this_finger, .inr (0, rf_o0 a_this_finger_kinds a_this_finger_thicks g_this_finger)), (a_this_finger_kinds, .inl (cA, 6, .inl f_this_finger_kinds)), (a_this_finger_thicks, .inl (cA, 6, .inl f_this_finger_thicks)), (a_this_waiting, .inl (cA, 5022, .inl f_this_waiting)), (a_this_held, .inl (cA, 9, .inl f_this_held)), (a_this_seen, .inl (cA, 558, .inl f_this_seen))] sz) := by
  refine Met.ofW (cc := cX1_spreadLayer) (maxL := 6) (ret := none) (by decide) rfl ?_
  intro p e s m args below meth c s₁ B hml hv
  obtain ⟨rfl, hsz, hP, hK, hD0, hE⟩ := hv
  have hx := B.exec
  have hb := B.bytes
  have hr := B.returns
  have hts := atoms_spec (ws := wsX1_spreadLayer) B.pre
  have hown : s.vm.findClass RX1 = some m.cls := findClass_of_methodNamed B.named
  have hlocks := B.notSynchronized
  subst hsz
  have hD := hD0.self (sz := s.heap.size)
  generalize hAe : va_A [(a_this, .inr (1, rf_o1 a_this_finger a_this_waiting a_this_held a_this_seen g_this)), (a_this_finger, .inr (0, rf_o0 a_this_finger_kinds a_this_finger_thicks g_this_finger)), (a_this_finger_kinds, .inl (cA, 6, .inl f_this_finger_kinds)), (a_this_finger_thicks, .inl (cA, 6, .inl f_this_finger_thicks)), (a_this_waiting, .inl (cA, 5022, .inl f_this_waiting)), (a_this_held, .inl (cA, 9, .inl f_this_held)), (a_this_seen, .inl (cA, 558, .inl f_this_seen))] s.heap.size = A at hD hE ⊢
  have hA : ∀ q : Nat, s.heap.size ≤ q → A q := fun q h => by rw [← hAe]; exact Or.inr h
  have hS : va_S A s.heap s.heap [] := va_S.rf
  have hP : va_P D vwCl [(a_this, .inr (1, rf_o1 a_this_finger a_this_waiting a_this_held a_this_seen g_this)), (a_this_finger, .inr (0, rf_o0 a_this_finger_kinds a_this_finger_thicks g_this_finger)), (a_this_finger_kinds, .inl (cA, 6, .inl f_this_finger_kinds)), (a_this_finger_thicks, .inl (cA, 6, .inl f_this_finger_thicks)), (a_this_waiting, .inl (cA, 5022, .inl f_this_waiting)), (a_this_held, .inl (cA, 9, .inl f_this_held)), (a_this_seen, .inl (cA, 558, .inl f_this_seen))] s.heap := hP
  have hl := lv_entry ([.ref a_this, .int p1]) (n := 6) (Nat.le_of_ble_eq_true rfl)
  rw [lg_entry_eq]
  generalize (lg_sl ([.ref a_this, .int p1]) ++ List.replicate (6 - (lg_sl ([.ref a_this, .int p1])).length) Slot.unset).toArray = ls at hl ⊢
  have hl : lv_has ls 6 [(0, .ref a_this), (1, .int p1)] := hl
  have key_9 : ∀ (x2 : Int32) (n : Nat) (x3 : Int32) (yg_this yg_this_finger yf_this_waiting yf_this_held yf_this_seen : Nat → Int32) (ql : Int32 × (Nat → Int32) × (Nat → Int32) × (Nat → Int32) × (Nat → Int32) × (Nat → Int32)), f_X1_spreadLayer_L9 f_this_finger_kinds f_this_finger_thicks p1 x2 n x3 yg_this yg_this_finger yf_this_waiting yf_this_held yf_this_seen = some ql → ∀ (H : Heap) (locs : List Loc) (ls : Array Slot), va_P D vwCl [(a_this, .inr (1, rf_o1 a_this_finger a_this_waiting a_this_held a_this_seen yg_this)), (a_this_finger, .inr (0, rf_o0 a_this_finger_kinds a_this_finger_thicks yg_this_finger)), (a_this_finger_kinds, .inl (cA, 6, .inl f_this_finger_kinds)), (a_this_finger_thicks, .inl (cA, 6, .inl f_this_finger_thicks)), (a_this_waiting, .inl (cA, 5022, .inl yf_this_waiting)), (a_this_held, .inl (cA, 9, .inl yf_this_held)), (a_this_seen, .inl (cA, 558, .inl yf_this_seen))] H → va_D A [(a_this, .inr (1, rf_o1 a_this_finger a_this_waiting a_this_held a_this_seen yg_this)), (a_this_finger, .inr (0, rf_o0 a_this_finger_kinds a_this_finger_thicks yg_this_finger)), (a_this_finger_kinds, .inl (cA, 6, .inl f_this_finger_kinds)), (a_this_finger_thicks, .inl (cA, 6, .inl f_this_finger_thicks)), (a_this_waiting, .inl (cA, 5022, .inl yf_this_waiting)), (a_this_held, .inl (cA, 9, .inl yf_this_held)), (a_this_seen, .inl (cA, 558, .inl yf_this_seen))] → va_S A s.heap H locs → lv_has ls 6 [(0, .ref a_this), (1, .int p1), (2, .int x2), (3, .int x3)] → (∀ (H : Heap) (locs : List Loc) (ls : Array Slot), va_P D vwCl [(a_this, .inr (1, rf_o1 a_this_finger a_this_waiting a_this_held a_this_seen ql.2.1)), (a_this_finger, .inr (0, rf_o0 a_this_finger_kinds a_this_finger_thicks ql.2.2.1)), (a_this_finger_kinds, .inl (cA, 6, .inl f_this_finger_kinds)), (a_this_finger_thicks, .inl (cA, 6, .inl f_this_finger_thicks)), (a_this_waiting, .inl (cA, 5022, .inl ql.2.2.2.1)), (a_this_held, .inl (cA, 9, .inl ql.2.2.2.2.1)), (a_this_seen, .inl (cA, 558, .inl ql.2.2.2.2.2))] H → va_D A [(a_this, .inr (1, rf_o1 a_this_finger a_this_waiting a_this_held a_this_seen ql.2.1)), (a_this_finger, .inr (0, rf_o0 a_this_finger_kinds a_this_finger_thicks ql.2.2.1)), (a_this_finger_kinds, .inl (cA, 6, .inl f_this_finger_kinds)), (a_this_finger_thicks, .inl (cA, 6, .inl f_this_finger_thicks)), (a_this_waiting, .inl (cA, 5022, .inl ql.2.2.2.1)), (a_this_held, .inl (cA, 9, .inl ql.2.2.2.2.1)), (a_this_seen, .inl (cA, 558, .inl ql.2.2.2.2.2))] → va_S A s.heap H locs → lv_has ls 6 [(0, .ref a_this), (1, .int p1), (2, .int x2), (3, .int ql.1)] → W p l e (headSpec wsX1_spreadLayer ({ frames := 4, cells := 0, slots := 0, locals := 96 } : Room)).room s m ([.ref a_this, .int p1] : List Value).toArray below meth c H locs 0 0 (MQ below (va_Qv (fun (_ : Unit) => True) (fun _ t => rf_Post D A [(a_this, .inr (1, rf_o1 a_this_finger a_this_waiting a_this_held a_this_seen q.1)), (a_this_finger, .inr (0, rf_o0 a_this_finger_kinds a_this_finger_thicks q.2.1)), (a_this_finger_kinds, .inl (cA, 6, .inl f_this_finger_kinds)), (a_this_finger_thicks, .inl (cA, 6, .inl f_this_finger_thicks)), (a_this_waiting, .inl (cA, 5022, .inl q.2.2.1)), (a_this_held, .inl (cA, 9, .inl q.2.2.2.1)), (a_this_seen, .inl (cA, 558, .inl q.2.2.2.2))] t) A) ([.ref a_this, .int p1] : List Value).toArray s 0 0 A) (F0 m 126 ls [])) → W p l e (headSpec wsX1_spreadLayer ({ frames := 4, cells := 0, slots := 0, locals := 96 } : Room)).room s m ([.ref a_this, .int p1] : List Value).toArray below meth c H locs 0 0 (MQ below (va_Qv (fun (_ : Unit) => True) (fun _ t => rf_Post D A [(a_this, .inr (1, rf_o1 a_this_finger a_this_waiting a_this_held a_this_seen q.1)), (a_this_finger, .inr (0, rf_o0 a_this_finger_kinds a_this_finger_thicks q.2.1)), (a_this_finger_kinds, .inl (cA, 6, .inl f_this_finger_kinds)), (a_this_finger_thicks, .inl (cA, 6, .inl f_this_finger_thicks)), (a_this_waiting, .inl (cA, 5022, .inl q.2.2.1)), (a_this_held, .inl (cA, 9, .inl q.2.2.2.1)), (a_this_seen, .inl (cA, 558, .inl q.2.2.2.2))] t) A) ([.ref a_this, .int p1] : List Value).toArray s 0 0 A) (F0 m 9 ls []) := by
    intro x2 n
    induction n with
    | zero =>
      intro x3 yg_this yg_this_finger yf_this_waiting yf_this_held yf_this_seen ql hf H locs ls hP hD hS hl kx
      exact absurd (show (none : Option (Int32 × (Nat → Int32) × (Nat → Int32) × (Nat → Int32) × (Nat → Int32) × (Nat → Int32))) = some ql from hf) (fun h9 => by cases h9)
    | succ n ih =>
      intro x3 yg_this yg_this_finger yf_this_waiting yf_this_held yf_this_seen ql hf H locs ls hP hD hS hl kx
      rw [f_X1_spreadLayer_L9] at hf
      refine lv_iload_n hx hb dX1_spreadLayer_9 rfl (lv_at hl 3 rfl) ?_
      refine lv_if_lt (tgt := 126) hx hb dX1_spreadLayer_10 (by decide) (fun c1 => ?_) (fun c1 => ?_)
      · have hf := rf_ifp hf c1
        obtain rfl := Option.some.inj hf
        exact kx _ _ _ hP hD hS (lv_sub hl [0, 1, 2, 3] rfl)
      · have hf := rf_ifn hf c1
        refine lv_aload_n hx hb dX1_spreadLayer_13 rfl (lv_at hl 0 rfl) ?_
        refine va_get (D := D) (ci := 1) (v := .ref a_this_held) (C := RX1) (T := TX1) (N := 7) hx hb hts jX1_spreadLayer_X1 hown hK hP 0 rfl rfl 2 (by decide) (hts _ kX1_spreadLayer_0) (fun _ h9 => h9) rfl dX1_spreadLayer_14 ?_
        refine lv_iload_n hx hb dX1_spreadLayer_17 rfl (lv_at hl 2 rfl) ?_
        obtain ⟨q2, hq2, hf⟩ := rf_bindq hf
        refine rf_Ni (As := [.ref a_this_held, .int x2]) (rest := []) (wr := [(a_this, .inr (1, rf_o1 a_this_finger a_this_waiting a_this_held a_this_seen yg_this)), (a_this_finger, .inr (0, rf_o0 a_this_finger_kinds a_this_finger_thicks yg_this_finger)), (a_this_finger_kinds, .inl (cA, 6, .inl f_this_finger_kinds)), (a_this_finger_thicks, .inl (cA, 6, .inl f_this_finger_thicks)), (a_this_waiting, .inl (cA, 5022, .inl yf_this_waiting)), (a_this_seen, .inl (cA, 558, .inl yf_this_seen))]) (wn := [(a_this, .inr (1, rf_o1 a_this_finger a_this_waiting a_this_held a_this_seen yg_this)), (a_this_finger, .inr (0, rf_o0 a_this_finger_kinds a_this_finger_thicks yg_this_finger)), (a_this_finger_kinds, .inl (cA, 6, .inl f_this_finger_kinds)), (a_this_finger_thicks, .inl (cA, 6, .inl f_this_finger_thicks)), (a_this_waiting, .inl (cA, 5022, .inl yf_this_waiting)), (a_this_held, .inl (cA, 9, .inl yf_this_held)), (a_this_seen, .inl (cA, 558, .inl yf_this_seen))]) ⟨hx, hb, hml, hown, hts⟩ hK hP hD hS hA hE (c_X2_at l D cA ad a_this_held H.size 9 yf_this_held x2 q2 hq2) ⟨va_cnB (host := "RingAndFinger") 2 hts gX1_spreadLayer_X2_at_n64 rfl rfl rfl (hE.1 5 _ rfl) (hts _ kX1_spreadLayer_1) hn_X2_at ⟨Nat.le_of_ble_eq_true rfl, Nat.le_of_ble_eq_true rfl⟩, (hts _ kX1_spreadLayer_2), trivial⟩ [5] [0, 1, 2, 3, 4, 6] [0, 1, 2, 3, 4, 6, 5] rfl rfl rfl rfl (by decide) rfl rfl rfl rfl hl.1 (Nat.le_of_ble_eq_true rfl) dX1_spreadLayer_18 ⟨Nat.zero_le _, Nat.zero_le _⟩ (fun H locs hP hD hS => ?_)
        refine lv_if_le (tgt := 126) hx hb dX1_spreadLayer_21 (by decide) (fun c3 => ?_) (fun c3 => ?_)
        · have hf := rf_ifp hf c3
          obtain rfl := Option.some.inj hf
          exact kx _ _ _ hP hD hS (lv_sub hl [0, 1, 2, 3] rfl)
        · have hf := rf_ifn hf c3
          refine lv_iload_n hx hb dX1_spreadLayer_24 rfl (lv_at hl 2 rfl) ?_
          refine lv_sipush (v := 558) hx hb dX1_spreadLayer_25 (by decide) ?_
          refine lv_imul hx hb dX1_spreadLayer_28 ?_
          refine lv_iload_n hx hb dX1_spreadLayer_29 rfl (lv_at hl 3 rfl) ?_
          refine lv_iadd hx hb dX1_spreadLayer_30 ?_
          refine lv_topi (fun v4 ev4 => ?_)
          have hf := rf_bindv hf ev4
          clear ev4
          refine lv_istore (lv' := [(4, .int v4), (0, .ref a_this), (1, .int p1), (2, .int x2), (3, .int x3)]) hx hb dX1_spreadLayer_31 hl (by decide) rfl (fun ls hl => ?_)
          refine lv_aload_n hx hb dX1_spreadLayer_33 rfl (lv_at hl 1 rfl) ?_
          refine va_get (D := D) (ci := 1) (v := .ref a_this_waiting) (C := RX1) (T := TX1) (N := 7) hx hb hts jX1_spreadLayer_X1 hown hK hP 0 rfl rfl 1 (by decide) (hts _ kX1_spreadLayer_3) (fun _ h9 => h9) rfl dX1_spreadLayer_34 ?_
          refine lv_iload hx hb dX1_spreadLayer_37 (lv_at hl 0 rfl) ?_
          obtain ⟨q5, hq5, hf⟩ := rf_bindq hf
          refine rf_Ni (As := [.ref a_this_waiting, .int v4]) (rest := []) (wr := [(a_this, .inr (1, rf_o1 a_this_finger a_this_waiting a_this_held a_this_seen yg_this)), (a_this_finger, .inr (0, rf_o0 a_this_finger_kinds a_this_finger_thicks yg_this_finger)), (a_this_finger_kinds, .inl (cA, 6, .inl f_this_finger_kinds)), (a_this_finger_thicks, .inl (cA, 6, .inl f_this_finger_thicks)), (a_this_held, .inl (cA, 9, .inl yf_this_held)), (a_this_seen, .inl (cA, 558, .inl yf_this_seen))]) (wn := [(a_this, .inr (1, rf_o1 a_this_finger a_this_waiting a_this_held a_this_seen yg_this)), (a_this_finger, .inr (0, rf_o0 a_this_finger_kinds a_this_finger_thicks yg_this_finger)), (a_this_finger_kinds, .inl (cA, 6, .inl f_this_finger_kinds)), (a_this_finger_thicks, .inl (cA, 6, .inl f_this_finger_thicks)), (a_this_waiting, .inl (cA, 5022, .inl yf_this_waiting)), (a_this_held, .inl (cA, 9, .inl yf_this_held)), (a_this_seen, .inl (cA, 558, .inl yf_this_seen))]) ⟨hx, hb, hml, hown, hts⟩ hK hP hD hS hA hE (c_X2_at l D cA ad a_this_waiting H.size 5022 yf_this_waiting v4 q5 hq5) ⟨va_cnB (host := "RingAndFinger") 2 hts gX1_spreadLayer_X2_at_n64 rfl rfl rfl (hE.1 5 _ rfl) (hts _ kX1_spreadLayer_1) hn_X2_at ⟨Nat.le_of_ble_eq_true rfl, Nat.le_of_ble_eq_true rfl⟩, (hts _ kX1_spreadLayer_2), trivial⟩ [4] [0, 1, 2, 3, 5, 6] [0, 1, 2, 3, 6, 4, 5] rfl rfl rfl rfl (by decide) rfl rfl rfl rfl hl.1 (Nat.le_of_ble_eq_true rfl) dX1_spreadLayer_39 ⟨Nat.zero_le _, Nat.zero_le _⟩ (fun H locs hP hD hS => ?_)
          refine lv_iconst (v := 1) hx hb dX1_spreadLayer_42 (by decide) ?_
          refine lv_isub hx hb dX1_spreadLayer_43 ?_
          refine lv_topi (fun v6 ev6 => ?_)
          have hf := rf_bindv hf ev6
          clear ev6
          refine lv_istore (lv' := [(5, .int v6), (4, .int v4), (0, .ref a_this), (1, .int p1), (2, .int x2), (3, .int x3)]) hx hb dX1_spreadLayer_44 hl (by decide) rfl (fun ls hl => ?_)
          refine lv_iload hx hb dX1_spreadLayer_46 (lv_at hl 0 rfl) ?_
          refine lv_if_ge (tgt := 54) hx hb dX1_spreadLayer_48 (by decide) (fun c7 => ?_) (fun c7 => ?_)
          · have hf := rf_ifp hf c7
            refine lv_aload_n hx hb dX1_spreadLayer_54 rfl (lv_at hl 2 rfl) ?_
            refine va_get (D := D) (ci := 1) (v := .ref a_this_waiting) (C := RX1) (T := TX1) (N := 7) hx hb hts jX1_spreadLayer_X1 hown hK hP 0 rfl rfl 1 (by decide) (hts _ kX1_spreadLayer_3) (fun _ h9 => h9) rfl dX1_spreadLayer_55 ?_
            refine lv_iload hx hb dX1_spreadLayer_58 (lv_at hl 1 rfl) ?_
            refine lv_iconst (v := 0) hx hb dX1_spreadLayer_60 (by decide) ?_
            obtain ⟨q8, hq8, hf⟩ := rf_bindq hf
            refine rf_Nv (As := [.ref a_this_waiting, .int v4, .int 0]) (rest := []) (wr := [(a_this, .inr (1, rf_o1 a_this_finger a_this_waiting a_this_held a_this_seen yg_this)), (a_this_finger, .inr (0, rf_o0 a_this_finger_kinds a_this_finger_thicks yg_this_finger)), (a_this_finger_kinds, .inl (cA, 6, .inl f_this_finger_kinds)), (a_this_finger_thicks, .inl (cA, 6, .inl f_this_finger_thicks)), (a_this_held, .inl (cA, 9, .inl yf_this_held)), (a_this_seen, .inl (cA, 558, .inl yf_this_seen))]) (wn := [(a_this, .inr (1, rf_o1 a_this_finger a_this_waiting a_this_held a_this_seen yg_this)), (a_this_finger, .inr (0, rf_o0 a_this_finger_kinds a_this_finger_thicks yg_this_finger)), (a_this_finger_kinds, .inl (cA, 6, .inl f_this_finger_kinds)), (a_this_finger_thicks, .inl (cA, 6, .inl f_this_finger_thicks)), (a_this_waiting, .inl (cA, 5022, .inl q8)), (a_this_held, .inl (cA, 9, .inl yf_this_held)), (a_this_seen, .inl (cA, 558, .inl yf_this_seen))]) ⟨hx, hb, hml, hown, hts⟩ hK hP hD hS hA hE (c_X2_put l D cA ad a_this_waiting H.size 5022 yf_this_waiting v4 0 q8 hq8) ⟨va_cnB (host := "RingAndFinger") 3 hts gX1_spreadLayer_X2_put_n71 rfl rfl rfl (hE.1 6 _ rfl) (hts _ kX1_spreadLayer_1) hn_X2_put ⟨Nat.le_of_ble_eq_true rfl, Nat.le_of_ble_eq_true rfl⟩, (hts _ kX1_spreadLayer_4), trivial⟩ [4] [0, 1, 2, 3, 5, 6] [0, 1, 2, 3, 6, 4, 5] rfl rfl rfl rfl (by decide) rfl rfl rfl rfl hl.1 (Nat.le_of_ble_eq_true rfl) dX1_spreadLayer_61 ⟨Nat.zero_le _, Nat.zero_le _⟩ (fun H locs hP hD hS => ?_)
            refine lv_aload_n hx hb dX1_spreadLayer_64 rfl (lv_at hl 2 rfl) ?_
            refine va_get (D := D) (ci := 1) (v := .ref a_this_held) (C := RX1) (T := TX1) (N := 7) hx hb hts jX1_spreadLayer_X1 hown hK hP 0 rfl rfl 2 (by decide) (hts _ kX1_spreadLayer_0) (fun _ h9 => h9) rfl dX1_spreadLayer_65 ?_
            refine lv_iload_n hx hb dX1_spreadLayer_68 rfl (lv_at hl 4 rfl) ?_
            refine lv_aload_n hx hb dX1_spreadLayer_69 rfl (lv_at hl 2 rfl) ?_
            refine va_get (D := D) (ci := 1) (v := .ref a_this_held) (C := RX1) (T := TX1) (N := 7) hx hb hts jX1_spreadLayer_X1 hown hK hP 0 rfl rfl 2 (by decide) (hts _ kX1_spreadLayer_0) (fun _ h9 => h9) rfl dX1_spreadLayer_70 ?_
            refine lv_iload_n hx hb dX1_spreadLayer_73 rfl (lv_at hl 4 rfl) ?_
            obtain ⟨q9, hq9, hf⟩ := rf_bindq hf
            refine rf_Ni (As := [.ref a_this_held, .int x2]) (rest := [.int x2, .ref a_this_held]) (wr := [(a_this, .inr (1, rf_o1 a_this_finger a_this_waiting a_this_held a_this_seen yg_this)), (a_this_finger, .inr (0, rf_o0 a_this_finger_kinds a_this_finger_thicks yg_this_finger)), (a_this_finger_kinds, .inl (cA, 6, .inl f_this_finger_kinds)), (a_this_finger_thicks, .inl (cA, 6, .inl f_this_finger_thicks)), (a_this_waiting, .inl (cA, 5022, .inl q8)), (a_this_seen, .inl (cA, 558, .inl yf_this_seen))]) (wn := [(a_this, .inr (1, rf_o1 a_this_finger a_this_waiting a_this_held a_this_seen yg_this)), (a_this_finger, .inr (0, rf_o0 a_this_finger_kinds a_this_finger_thicks yg_this_finger)), (a_this_finger_kinds, .inl (cA, 6, .inl f_this_finger_kinds)), (a_this_finger_thicks, .inl (cA, 6, .inl f_this_finger_thicks)), (a_this_waiting, .inl (cA, 5022, .inl q8)), (a_this_held, .inl (cA, 9, .inl yf_this_held)), (a_this_seen, .inl (cA, 558, .inl yf_this_seen))]) ⟨hx, hb, hml, hown, hts⟩ hK hP hD hS hA hE (c_X2_at l D cA ad a_this_held H.size 9 yf_this_held x2 q9 hq9) ⟨va_cnB (host := "RingAndFinger") 2 hts gX1_spreadLayer_X2_at_n64 rfl rfl rfl (hE.1 5 _ rfl) (hts _ kX1_spreadLayer_1) hn_X2_at ⟨Nat.le_of_ble_eq_true rfl, Nat.le_of_ble_eq_true rfl⟩, (hts _ kX1_spreadLayer_2), trivial⟩ [5] [0, 1, 2, 3, 4, 6] [0, 1, 2, 3, 4, 6, 5] rfl rfl rfl rfl (by decide) rfl rfl rfl rfl hl.1 (Nat.le_of_ble_eq_true rfl) dX1_spreadLayer_74 ⟨Nat.zero_le _, Nat.zero_le _⟩ (fun H locs hP hD hS => ?_)
            refine lv_iconst (v := 1) hx hb dX1_spreadLayer_77 (by decide) ?_
            refine lv_isub hx hb dX1_spreadLayer_78 ?_
            obtain ⟨q10, hq10, hf⟩ := rf_bindq hf
            refine rf_Nv (As := [.ref a_this_held, .int x2, .int (q9 - 1)]) (rest := []) (wr := [(a_this, .inr (1, rf_o1 a_this_finger a_this_waiting a_this_held a_this_seen yg_this)), (a_this_finger, .inr (0, rf_o0 a_this_finger_kinds a_this_finger_thicks yg_this_finger)), (a_this_finger_kinds, .inl (cA, 6, .inl f_this_finger_kinds)), (a_this_finger_thicks, .inl (cA, 6, .inl f_this_finger_thicks)), (a_this_waiting, .inl (cA, 5022, .inl q8)), (a_this_seen, .inl (cA, 558, .inl yf_this_seen))]) (wn := [(a_this, .inr (1, rf_o1 a_this_finger a_this_waiting a_this_held a_this_seen yg_this)), (a_this_finger, .inr (0, rf_o0 a_this_finger_kinds a_this_finger_thicks yg_this_finger)), (a_this_finger_kinds, .inl (cA, 6, .inl f_this_finger_kinds)), (a_this_finger_thicks, .inl (cA, 6, .inl f_this_finger_thicks)), (a_this_waiting, .inl (cA, 5022, .inl q8)), (a_this_held, .inl (cA, 9, .inl q10)), (a_this_seen, .inl (cA, 558, .inl yf_this_seen))]) ⟨hx, hb, hml, hown, hts⟩ hK hP hD hS hA hE (c_X2_put l D cA ad a_this_held H.size 9 yf_this_held x2 (q9 - 1) q10 hq10) ⟨va_cnB (host := "RingAndFinger") 3 hts gX1_spreadLayer_X2_put_n71 rfl rfl rfl (hE.1 6 _ rfl) (hts _ kX1_spreadLayer_1) hn_X2_put ⟨Nat.le_of_ble_eq_true rfl, Nat.le_of_ble_eq_true rfl⟩, (hts _ kX1_spreadLayer_4), trivial⟩ [5] [0, 1, 2, 3, 4, 6] [0, 1, 2, 3, 4, 6, 5] rfl rfl rfl rfl (by decide) rfl rfl rfl rfl hl.1 (Nat.le_of_ble_eq_true rfl) dX1_spreadLayer_79 ⟨Nat.zero_le _, Nat.zero_le _⟩ (fun H locs hP hD hS => ?_)
            refine lv_aload_n hx hb dX1_spreadLayer_82 rfl (lv_at hl 2 rfl) ?_
            refine lv_dup hx hb dX1_spreadLayer_83 rfl ?_
            refine va_get (D := D) (ci := 1) (v := .int (yg_this 0)) (C := RX1) (T := TX1) (N := 7) hx hb hts jX1_spreadLayer_X1 hown hK hP 0 rfl rfl 4 (by decide) (hts _ kX1_spreadLayer_5) (fun _ h9 => h9) rfl dX1_spreadLayer_84 ?_
            refine lv_iconst (v := 1) hx hb dX1_spreadLayer_87 (by decide) ?_
            refine lv_isub hx hb dX1_spreadLayer_88 ?_
            refine lv_topi (fun v11 ev11 => ?_)
            have hf := rf_bindv hf ev11
            clear ev11
            refine va_put (D := D) (ci := 1) (v := .int v11) (ty := .int) (C := RX1) (T := TX1) (N := 7) hx hb hts jX1_spreadLayer_X1 tyX1 tyX1_ok nmX1 hown hK hP hD hS 0 rfl rfl 4 (by decide) (hts _ kX1_spreadLayer_5) (fun _ h9 => h9) rfl (by decide +kernel) rfl rfl (Nat.le_of_ble_eq_true rfl) dX1_spreadLayer_89 (fun H locs hP hD hS => ?_)
            have hP : va_P D vwCl [(a_this, .inr (1, rf_o1 a_this_finger a_this_waiting a_this_held a_this_seen (upd yg_this 0 v11))), (a_this_finger, .inr (0, rf_o0 a_this_finger_kinds a_this_finger_thicks yg_this_finger)), (a_this_finger_kinds, .inl (cA, 6, .inl f_this_finger_kinds)), (a_this_finger_thicks, .inl (cA, 6, .inl f_this_finger_thicks)), (a_this_waiting, .inl (cA, 5022, .inl q8)), (a_this_held, .inl (cA, 9, .inl q10)), (a_this_seen, .inl (cA, 558, .inl yf_this_seen))] H := hP
            have hD : va_D A [(a_this, .inr (1, rf_o1 a_this_finger a_this_waiting a_this_held a_this_seen (upd yg_this 0 v11))), (a_this_finger, .inr (0, rf_o0 a_this_finger_kinds a_this_finger_thicks yg_this_finger)), (a_this_finger_kinds, .inl (cA, 6, .inl f_this_finger_kinds)), (a_this_finger_thicks, .inl (cA, 6, .inl f_this_finger_thicks)), (a_this_waiting, .inl (cA, 5022, .inl q8)), (a_this_held, .inl (cA, 9, .inl q10)), (a_this_seen, .inl (cA, 558, .inl yf_this_seen))] := hD
            refine lv_aload_n hx hb dX1_spreadLayer_92 rfl (lv_at hl 2 rfl) ?_
            refine va_get (D := D) (ci := 1) (v := .ref a_this_seen) (C := RX1) (T := TX1) (N := 7) hx hb hts jX1_spreadLayer_X1 hown hK hP 0 rfl rfl 3 (by decide) (hts _ kX1_spreadLayer_6) (fun _ h9 => h9) rfl dX1_spreadLayer_93 ?_
            refine lv_iload_n hx hb dX1_spreadLayer_96 rfl (lv_at hl 5 rfl) ?_
            obtain ⟨q12, hq12, hf⟩ := rf_bindq hf
            refine rf_Ni (As := [.ref a_this_seen, .int x3]) (rest := []) (wr := [(a_this, .inr (1, rf_o1 a_this_finger a_this_waiting a_this_held a_this_seen (upd yg_this 0 v11))), (a_this_finger, .inr (0, rf_o0 a_this_finger_kinds a_this_finger_thicks yg_this_finger)), (a_this_finger_kinds, .inl (cA, 6, .inl f_this_finger_kinds)), (a_this_finger_thicks, .inl (cA, 6, .inl f_this_finger_thicks)), (a_this_waiting, .inl (cA, 5022, .inl q8)), (a_this_held, .inl (cA, 9, .inl q10))]) (wn := [(a_this, .inr (1, rf_o1 a_this_finger a_this_waiting a_this_held a_this_seen (upd yg_this 0 v11))), (a_this_finger, .inr (0, rf_o0 a_this_finger_kinds a_this_finger_thicks yg_this_finger)), (a_this_finger_kinds, .inl (cA, 6, .inl f_this_finger_kinds)), (a_this_finger_thicks, .inl (cA, 6, .inl f_this_finger_thicks)), (a_this_waiting, .inl (cA, 5022, .inl q8)), (a_this_held, .inl (cA, 9, .inl q10)), (a_this_seen, .inl (cA, 558, .inl yf_this_seen))]) ⟨hx, hb, hml, hown, hts⟩ hK hP hD hS hA hE (c_X2_at l D cA ad a_this_seen H.size 558 yf_this_seen x3 q12 hq12) ⟨va_cnB (host := "RingAndFinger") 2 hts gX1_spreadLayer_X2_at_n64 rfl rfl rfl (hE.1 5 _ rfl) (hts _ kX1_spreadLayer_1) hn_X2_at ⟨Nat.le_of_ble_eq_true rfl, Nat.le_of_ble_eq_true rfl⟩, (hts _ kX1_spreadLayer_2), trivial⟩ [6] [0, 1, 2, 3, 4, 5] [0, 1, 2, 3, 4, 5, 6] rfl rfl rfl rfl (by decide) rfl rfl rfl rfl hl.1 (Nat.le_of_ble_eq_true rfl) dX1_spreadLayer_97 ⟨Nat.zero_le _, Nat.zero_le _⟩ (fun H locs hP hD hS => ?_)
            refine lv_iload hx hb dX1_spreadLayer_100 (lv_at hl 0 rfl) ?_
            refine lv_icmp_gt (tgt := 120) hx hb dX1_spreadLayer_102 (by decide) (fun c13 => ?_) (fun c13 => ?_)
            · have hf := rf_ifp hf c13
              obtain ⟨v14, ev14⟩ : ∃ y : Int32, y = x3 + (-1) := ⟨_, rfl⟩
              have hf := rf_bindv hf ev14
              refine lv_iinc (v := v14) (lv' := [(3, .int v14), (5, .int v6), (4, .int v4), (0, .ref a_this), (1, .int p1), (2, .int x2)]) hx hb dX1_spreadLayer_120 hl (k := 5) rfl (by rw [ev14]; rfl) (by decide) rfl (fun ls hl => ?_)
              clear ev14
              refine lv_goto (tgt := 9) hx hb dX1_spreadLayer_123 (by decide) ?_
              exact ih v14 (upd yg_this 0 v11) yg_this_finger q8 q10 yf_this_seen ql hf _ _ _ hP hD hS (lv_sub hl [3, 4, 5, 0] rfl) kx
            · have hf := rf_ifn hf c13
              refine lv_aload_n hx hb dX1_spreadLayer_105 rfl (lv_at hl 2 rfl) ?_
              refine lv_iload_n hx hb dX1_spreadLayer_106 rfl (lv_at hl 5 rfl) ?_
              refine lv_iload hx hb dX1_spreadLayer_107 (lv_at hl 0 rfl) ?_
              obtain ⟨q15, hq15, hf⟩ := rf_bindq hf
              refine rf_Vv (As := [.int x3, .int v6]) (rest := []) (wr := [(a_this_finger, .inr (0, rf_o0 a_this_finger_kinds a_this_finger_thicks yg_this_finger)), (a_this_finger_kinds, .inl (cA, 6, .inl f_this_finger_kinds)), (a_this_finger_thicks, .inl (cA, 6, .inl f_this_finger_thicks)), (a_this_waiting, .inl (cA, 5022, .inl q8)), (a_this_held, .inl (cA, 9, .inl q10))]) (wn := [(a_this, .inr (1, rf_o1 a_this_finger a_this_waiting a_this_held a_this_seen (upd yg_this 0 v11))), (a_this_finger, .inr (0, rf_o0 a_this_finger_kinds a_this_finger_thicks yg_this_finger)), (a_this_finger_kinds, .inl (cA, 6, .inl f_this_finger_kinds)), (a_this_finger_thicks, .inl (cA, 6, .inl f_this_finger_thicks)), (a_this_waiting, .inl (cA, 5022, .inl q8)), (a_this_held, .inl (cA, 9, .inl q10)), (a_this_seen, .inl (cA, 558, .inl q15))]) ⟨hx, hb, hml, hown, hts⟩ hK hP hD hS hA hE (c_X1_see l D cA ad a_this a_this_finger a_this_waiting a_this_held a_this_seen H.size (upd yg_this 0 v11) yf_this_seen x3 v6 q15 hq15) (cwV 2 hts gX1_spreadLayer_X1_see rfl rfl rfl hv_X1_see ⟨Nat.le_of_ble_eq_true rfl, Nat.le_of_ble_eq_true rfl⟩) [0, 6] [1, 2, 3, 4, 5] [5, 0, 1, 2, 3, 4, 6] rfl rfl rfl rfl (by decide) rfl rfl 1 0 rfl rfl rfl rfl rfl hl.1 (Nat.le_of_ble_eq_true rfl) dX1_spreadLayer_109 ⟨Nat.zero_le _, Nat.zero_le _⟩ (fun H locs hP hD hS => ?_)
              refine lv_aload_n hx hb dX1_spreadLayer_112 rfl (lv_at hl 2 rfl) ?_
              refine lv_iload_n hx hb dX1_spreadLayer_113 rfl (lv_at hl 3 rfl) ?_
              refine lv_iload_n hx hb dX1_spreadLayer_114 rfl (lv_at hl 5 rfl) ?_
              refine lv_iload hx hb dX1_spreadLayer_115 (lv_at hl 0 rfl) ?_
              obtain ⟨q16, hq16, hf⟩ := rf_bindq hf
              refine rf_Vv (As := [.int p1, .int x3, .int v6]) (rest := []) (wr := []) (wn := [(a_this, .inr (1, rf_o1 a_this_finger a_this_waiting a_this_held a_this_seen q16.1)), (a_this_finger, .inr (0, rf_o0 a_this_finger_kinds a_this_finger_thicks q16.2.1)), (a_this_finger_kinds, .inl (cA, 6, .inl f_this_finger_kinds)), (a_this_finger_thicks, .inl (cA, 6, .inl f_this_finger_thicks)), (a_this_waiting, .inl (cA, 5022, .inl q16.2.2.1)), (a_this_held, .inl (cA, 9, .inl q16.2.2.2)), (a_this_seen, .inl (cA, 558, .inl q15))]) ⟨hx, hb, hml, hown, hts⟩ hK hP hD hS hA hE (c_X1_spread l D cA ad a_this a_this_finger a_this_waiting a_this_held a_this_seen a_this_finger_kinds a_this_finger_thicks H.size (upd yg_this 0 v11) yg_this_finger f_this_finger_kinds f_this_finger_thicks q8 q10 q15 p1 x3 v6 q16 hq16) (cwV 3 hts gX1_spreadLayer_X1_spread rfl rfl rfl hv_X1_spread ⟨Nat.le_of_ble_eq_true rfl, Nat.le_of_ble_eq_true rfl⟩) [0, 1, 2, 3, 4, 5, 6] [] [0, 1, 2, 3, 4, 5, 6] rfl rfl rfl rfl (by decide) rfl rfl 1 0 rfl rfl rfl rfl rfl hl.1 (Nat.le_of_ble_eq_true rfl) dX1_spreadLayer_117 ⟨Nat.zero_le _, Nat.zero_le _⟩ (fun H locs hP hD hS => ?_)
              obtain ⟨v17, ev17⟩ : ∃ y : Int32, y = x3 + (-1) := ⟨_, rfl⟩
              have hf := rf_bindv hf ev17
              refine lv_iinc (v := v17) (lv' := [(3, .int v17), (5, .int v6), (4, .int v4), (0, .ref a_this), (1, .int p1), (2, .int x2)]) hx hb dX1_spreadLayer_120 hl (k := 5) rfl (by rw [ev17]; rfl) (by decide) rfl (fun ls hl => ?_)
              clear ev17
              refine lv_goto (tgt := 9) hx hb dX1_spreadLayer_123 (by decide) ?_
              exact ih v17 q16.1 q16.2.1 q16.2.2.1 q16.2.2.2 q15 ql hf _ _ _ hP hD hS (lv_sub hl [3, 4, 5, 0] rfl) kx
          · have hf := rf_ifn hf c7
            refine lv_goto (tgt := 120) hx hb dX1_spreadLayer_51 (by decide) ?_
            obtain ⟨v18, ev18⟩ : ∃ y : Int32, y = x3 + (-1) := ⟨_, rfl⟩
            have hf := rf_bindv hf ev18
            refine lv_iinc (v := v18) (lv' := [(3, .int v18), (5, .int v6), (4, .int v4), (0, .ref a_this), (1, .int p1), (2, .int x2)]) hx hb dX1_spreadLayer_120 hl (k := 5) rfl (by rw [ev18]; rfl) (by decide) rfl (fun ls hl => ?_)
            clear ev18
            refine lv_goto (tgt := 9) hx hb dX1_spreadLayer_123 (by decide) ?_
            exact ih v18 yg_this yg_this_finger yf_this_waiting yf_this_held yf_this_seen ql hf _ _ _ hP hD hS (lv_sub hl [3, 4, 5, 0] rfl) kx
  rw [f_X1_spreadLayer] at hf
  refine lv_iload_n hx hb dX1_spreadLayer_0 rfl (lv_at hl 1 rfl) ?_
  refine lv_bipush (v := 9) hx hb dX1_spreadLayer_1 (by decide) ?_
  refine lv_irem hx hb dX1_spreadLayer_3 (by decide) ?_
  refine lv_topi (fun v19 ev19 => ?_)
  have hf := rf_bindv hf ev19
  clear ev19
  refine lv_istore_n (lv' := [(2, .int v19), (0, .ref a_this), (1, .int p1)]) hx hb dX1_spreadLayer_4 rfl hl (by decide) rfl (fun ls hl => ?_)
  refine lv_sipush (v := 557) hx hb dX1_spreadLayer_5 (by decide) ?_
  refine lv_istore_n (lv' := [(3, .int 557), (2, .int v19), (0, .ref a_this), (1, .int p1)]) hx hb dX1_spreadLayer_8 rfl hl (by decide) rfl (fun ls hl => ?_)
  obtain ⟨q20, hq20, hf⟩ := rf_bindq hf
  refine key_9 v19 rf_fu 557 g_this g_this_finger f_this_waiting f_this_held f_this_seen q20 hq20 _ _ _ hP hD hS (lv_sub hl [2, 3, 1, 0] rfl) (fun H locs ls hP hD hS hl => ?_)
  obtain rfl := Option.some.inj hf
  exact W.vret hx hb hr (fun t ht hW => ⟨⟨(), rfl, trivial, rf_mk ht hP hD⟩, hS.F ht⟩) hS.2.2 dX1_spreadLayer_126
theorem kX1_least_0 : (.fieldLink RX1 32 "RingAndFinger$Search" "best" "I" : Cond) ∈ wsX1_least := by decide +kernel
theorem kX1_least_1 : (.fieldLink RX1 28 "RingAndFinger$Search" "left" "I" : Cond) ∈ wsX1_least := by decide +kernel
theorem kX1_least_2 : (.fieldLink RX1 14 "RingAndFinger$Search" "finger" "LRingAndFinger$Finger;" : Cond) ∈ wsX1_least := by decide +kernel
theorem kX1_least_3 : (.fieldLink RX1 35 "RingAndFinger$Search" "gentle" "Z" : Cond) ∈ wsX1_least := by decide +kernel
theorem jX1_least_X1 : ∀ w ∈ u_ws RX1 TX1 7, w ∈ wsX1_least := by decide +kernel
set_option maxHeartbeats 8000000 in
set_option maxRecDepth 100000 in
theorem c_X1_least (l : Launch) (D : va_G) (cA : ClassId) (ad : Nat → Nat) (a_this a_this_finger a_this_waiting a_this_held a_this_seen a_this_finger_kinds a_this_finger_thicks a_o1 a_o1_kinds a_o1_thicks : Nat) (sz : Nat) (g_this g_this_finger f_this_finger_kinds f_this_finger_thicks f_this_waiting f_this_held f_this_seen g_o1 f_o1_kinds f_o1_thicks : Nat → Int32) (p2 p3 p4 : Int32) (q : Int32 × (Nat → Int32) × (Nat → Int32) × (Nat → Int32) × (Nat → Int32) × (Nat → Int32) × (Nat → Int32) × (Nat → Int32)) (hf : f_X1_least g_this g_this_finger f_this_finger_kinds f_this_finger_thicks f_this_waiting f_this_held f_this_seen g_o1 f_o1_kinds f_o1_thicks p2 p3 p4 = some q) : Met l yX1_least wsX1_least ({ frames := 5, cells := 0, slots := 0, locals := 121 } : Room) (va_Pc [.ref a_this, .ref a_o1, .int p2, .int p3, .int p4] (rf_Pre D cA ad [(a_this, .inr (1, rf_o1 a_this_finger a_this_waiting a_this_held a_this_seen g_this)), (a_this_finger, .inr (0, rf_o0 a_this_finger_kinds a_this_finger_thicks g_this_finger)), (a_this_finger_kinds, .inl (cA, 6, .inl f_this_finger_kinds)), (a_this_finger_thicks, .inl (cA, 6, .inl f_this_finger_thicks)), (a_this_waiting, .inl (cA, 5022, .inl f_this_waiting)), (a_this_held, .inl (cA, 9, .inl f_this_held)), (a_this_seen, .inl (cA, 558, .inl f_this_seen)), (a_o1, .inr (0, rf_o0 a_o1_kinds a_o1_thicks g_o1)), (a_o1_kinds, .inl (cA, 6, .inl f_o1_kinds)), (a_o1_thicks, .inl (cA, 6, .inl f_o1_thicks))] sz)) (va_Qi (fun (r : Int32) (_ : Unit) => r = q.1) (fun _ t => rf_Post D (va_A [(a_this, .inr (1, rf_o1 a_this_finger a_this_waiting a_this_held a_this_seen g_this)), (a_this_finger, .inr (0, rf_o0 a_this_finger_kinds a_this_finger_thicks g_this_finger)), (a_this_finger_kinds, .inl (cA, 6, .inl f_this_finger_kinds)), (a_this_finger_thicks, .inl (cA, 6, .inl f_this_finger_thicks)), (a_this_waiting, .inl (cA, 5022, .inl f_this_waiting)), (a_this_held, .inl (cA, 9, .inl f_this_held)), (a_this_seen, .inl (cA, 558, .inl f_this_seen)), (a_o1, .inr (0, rf_o0 a_o1_kinds a_o1_thicks g_o1)), (a_o1_kinds, .inl (cA, 6, .inl f_o1_kinds)), (a_o1_thicks, .inl (cA, 6, .inl f_o1_thicks))] sz) [(a_this, .inr (1, rf_o1 a_this_finger a_this_waiting a_this_held a_this_seen q.2.1)), (a_this_finger, .inr (0, rf_o0 a_this_finger_kinds a_this_finger_thicks q.2.2.1)), (a_this_finger_kinds, .inl (cA, 6, .inl q.2.2.2.1)), (a_this_finger_thicks, .inl (cA, 6, .inl q.2.2.2.2.1)), (a_this_waiting, .inl (cA, 5022, .inl q.2.2.2.2.2.1)), (a_this_held, .inl (cA, 9, .inl q.2.2.2.2.2.2.1)), (a_this_seen, .inl (cA, 558, .inl q.2.2.2.2.2.2.2)), (a_o1, .inr (0, rf_o0 a_o1_kinds a_o1_thicks g_o1)), (a_o1_kinds, .inl (cA, 6, .inl f_o1_kinds)), (a_o1_thicks, .inl (cA, 6, .inl f_o1_thicks))] t) (va_A [(a_this, .inr (1, rf_o1 a_this_finger a_this_waiting a_this_held a_this_seen g_this)), (a_this_finger, .inr (0, rf_o0 a_this_finger_kinds a_this_finger_thicks g_this_finger)), (a_this_finger_kinds, .inl (cA, 6, .inl f_this_finger_kinds)), (a_this_finger_thicks, .inl (cA, 6, .inl f_this_finger_thicks)), (a_this_waiting, .inl (cA, 5022, .inl f_this_waiting)), (a_this_held, .inl (cA, 9, .inl f_this_held)), (a_this_seen, .inl (cA, 558, .inl f_this_seen)), (a_o1, .inr (0, rf_o0 a_o1_kinds a_o1_thicks g_o1)), (a_o1_kinds, .inl (cA, 6, .inl f_o1_kinds)), (a_o1_thicks, .inl (cA, 6, .inl f_o1_thicks))] sz)) 0 0 (va_A [(a_this, .inr (1, rf_o1 a_this_finger a_this_waiting a_this_held a_this_seen g_this)), (a_this_finger, .inr (0, rf_o0 a_this_finger_kinds a_this_finger_thicks g_this_finger)), (a_this_finger_kinds, .inl (cA, 6, .inl f_this_finger_kinds)), (a_this_finger_thicks, .inl (cA, 6, .inl f_this_finger_thicks)), (a_this_waiting, .inl (cA, 5022, .inl f_this_waiting)), (a_this_held, .inl (cA, 9, .inl f_this_held)), (a_this_seen, .inl (cA, 558, .inl f_this_seen)), (a_o1, .inr (0, rf_o0 a_o1_kinds a_o1_thicks g_o1)), (a_o1_kinds, .inl (cA, 6, .inl f_o1_kinds)), (a_o1_thicks, .inl (cA, 6, .inl f_o1_thicks))] sz) := by
  refine Met.ofW (cc := cX1_least) (maxL := 6) (ret := (some .int)) (by decide) rfl ?_
  intro p e s m args below meth c s₁ B hml hv
  obtain ⟨rfl, hsz, hP, hK, hD0, hE⟩ := hv
  have hx := B.exec
  have hb := B.bytes
  have hr := B.returns
  have hts := atoms_spec (ws := wsX1_least) B.pre
  have hown : s.vm.findClass RX1 = some m.cls := findClass_of_methodNamed B.named
  have hlocks := B.notSynchronized
  subst hsz
  have hD := hD0.self (sz := s.heap.size)
  generalize hAe : va_A [(a_this, .inr (1, rf_o1 a_this_finger a_this_waiting a_this_held a_this_seen g_this)), (a_this_finger, .inr (0, rf_o0 a_this_finger_kinds a_this_finger_thicks g_this_finger)), (a_this_finger_kinds, .inl (cA, 6, .inl f_this_finger_kinds)), (a_this_finger_thicks, .inl (cA, 6, .inl f_this_finger_thicks)), (a_this_waiting, .inl (cA, 5022, .inl f_this_waiting)), (a_this_held, .inl (cA, 9, .inl f_this_held)), (a_this_seen, .inl (cA, 558, .inl f_this_seen)), (a_o1, .inr (0, rf_o0 a_o1_kinds a_o1_thicks g_o1)), (a_o1_kinds, .inl (cA, 6, .inl f_o1_kinds)), (a_o1_thicks, .inl (cA, 6, .inl f_o1_thicks))] s.heap.size = A at hD hE ⊢
  have hA : ∀ q : Nat, s.heap.size ≤ q → A q := fun q h => by rw [← hAe]; exact Or.inr h
  have hS : va_S A s.heap s.heap [] := va_S.rf
  have hP : va_P D vwCl [(a_this, .inr (1, rf_o1 a_this_finger a_this_waiting a_this_held a_this_seen g_this)), (a_this_finger, .inr (0, rf_o0 a_this_finger_kinds a_this_finger_thicks g_this_finger)), (a_this_finger_kinds, .inl (cA, 6, .inl f_this_finger_kinds)), (a_this_finger_thicks, .inl (cA, 6, .inl f_this_finger_thicks)), (a_this_waiting, .inl (cA, 5022, .inl f_this_waiting)), (a_this_held, .inl (cA, 9, .inl f_this_held)), (a_this_seen, .inl (cA, 558, .inl f_this_seen)), (a_o1, .inr (0, rf_o0 a_o1_kinds a_o1_thicks g_o1)), (a_o1_kinds, .inl (cA, 6, .inl f_o1_kinds)), (a_o1_thicks, .inl (cA, 6, .inl f_o1_thicks))] s.heap := hP
  have hl := lv_entry ([.ref a_this, .ref a_o1, .int p2, .int p3, .int p4]) (n := 6) (Nat.le_of_ble_eq_true rfl)
  rw [lg_entry_eq]
  generalize (lg_sl ([.ref a_this, .ref a_o1, .int p2, .int p3, .int p4]) ++ List.replicate (6 - (lg_sl ([.ref a_this, .ref a_o1, .int p2, .int p3, .int p4])).length) Slot.unset).toArray = ls at hl ⊢
  have hl : lv_has ls 6 [(0, .ref a_this), (1, .ref a_o1), (2, .int p2), (3, .int p3), (4, .int p4)] := hl
  have key_43 : ∀ (yf_this_finger_kinds yf_this_finger_thicks : Nat → Int32) (n : Nat) (x5 : Int32) (yg_this yg_this_finger yf_this_waiting yf_this_held yf_this_seen : Nat → Int32) (ql : Int32 × (Nat → Int32) × (Nat → Int32) × (Nat → Int32) × (Nat → Int32) × (Nat → Int32)), f_X1_least_L43 g_o1 f_o1_kinds f_o1_thicks p2 p3 p4 yf_this_finger_kinds yf_this_finger_thicks n x5 yg_this yg_this_finger yf_this_waiting yf_this_held yf_this_seen = some ql → ∀ (H : Heap) (locs : List Loc) (ls : Array Slot), va_P D vwCl [(a_this, .inr (1, rf_o1 a_this_finger a_this_waiting a_this_held a_this_seen yg_this)), (a_this_finger, .inr (0, rf_o0 a_this_finger_kinds a_this_finger_thicks yg_this_finger)), (a_this_finger_kinds, .inl (cA, 6, .inl yf_this_finger_kinds)), (a_this_finger_thicks, .inl (cA, 6, .inl yf_this_finger_thicks)), (a_this_waiting, .inl (cA, 5022, .inl yf_this_waiting)), (a_this_held, .inl (cA, 9, .inl yf_this_held)), (a_this_seen, .inl (cA, 558, .inl yf_this_seen)), (a_o1, .inr (0, rf_o0 a_o1_kinds a_o1_thicks g_o1)), (a_o1_kinds, .inl (cA, 6, .inl f_o1_kinds)), (a_o1_thicks, .inl (cA, 6, .inl f_o1_thicks))] H → va_D A [(a_this, .inr (1, rf_o1 a_this_finger a_this_waiting a_this_held a_this_seen yg_this)), (a_this_finger, .inr (0, rf_o0 a_this_finger_kinds a_this_finger_thicks yg_this_finger)), (a_this_finger_kinds, .inl (cA, 6, .inl yf_this_finger_kinds)), (a_this_finger_thicks, .inl (cA, 6, .inl yf_this_finger_thicks)), (a_this_waiting, .inl (cA, 5022, .inl yf_this_waiting)), (a_this_held, .inl (cA, 9, .inl yf_this_held)), (a_this_seen, .inl (cA, 558, .inl yf_this_seen)), (a_o1, .inr (0, rf_o0 a_o1_kinds a_o1_thicks g_o1)), (a_o1_kinds, .inl (cA, 6, .inl f_o1_kinds)), (a_o1_thicks, .inl (cA, 6, .inl f_o1_thicks))] → va_S A s.heap H locs → lv_has ls 6 [(0, .ref a_this), (4, .int p4), (5, .int x5)] → (∀ (H : Heap) (locs : List Loc) (ls : Array Slot), va_P D vwCl [(a_this, .inr (1, rf_o1 a_this_finger a_this_waiting a_this_held a_this_seen ql.2.1)), (a_this_finger, .inr (0, rf_o0 a_this_finger_kinds a_this_finger_thicks ql.2.2.1)), (a_this_finger_kinds, .inl (cA, 6, .inl yf_this_finger_kinds)), (a_this_finger_thicks, .inl (cA, 6, .inl yf_this_finger_thicks)), (a_this_waiting, .inl (cA, 5022, .inl ql.2.2.2.1)), (a_this_held, .inl (cA, 9, .inl ql.2.2.2.2.1)), (a_this_seen, .inl (cA, 558, .inl ql.2.2.2.2.2)), (a_o1, .inr (0, rf_o0 a_o1_kinds a_o1_thicks g_o1)), (a_o1_kinds, .inl (cA, 6, .inl f_o1_kinds)), (a_o1_thicks, .inl (cA, 6, .inl f_o1_thicks))] H → va_D A [(a_this, .inr (1, rf_o1 a_this_finger a_this_waiting a_this_held a_this_seen ql.2.1)), (a_this_finger, .inr (0, rf_o0 a_this_finger_kinds a_this_finger_thicks ql.2.2.1)), (a_this_finger_kinds, .inl (cA, 6, .inl yf_this_finger_kinds)), (a_this_finger_thicks, .inl (cA, 6, .inl yf_this_finger_thicks)), (a_this_waiting, .inl (cA, 5022, .inl ql.2.2.2.1)), (a_this_held, .inl (cA, 9, .inl ql.2.2.2.2.1)), (a_this_seen, .inl (cA, 558, .inl ql.2.2.2.2.2)), (a_o1, .inr (0, rf_o0 a_o1_kinds a_o1_thicks g_o1)), (a_o1_kinds, .inl (cA, 6, .inl f_o1_kinds)), (a_o1_thicks, .inl (cA, 6, .inl f_o1_thicks))] → va_S A s.heap H locs → lv_has ls 6 [(0, .ref a_this), (4, .int p4), (5, .int ql.1)] → W p l e (headSpec wsX1_least ({ frames := 5, cells := 0, slots := 0, locals := 121 } : Room)).room s m ([.ref a_this, .ref a_o1, .int p2, .int p3, .int p4] : List Value).toArray below meth c H locs 0 0 (MQ below (va_Qi (fun (r : Int32) (_ : Unit) => r = q.1) (fun _ t => rf_Post D A [(a_this, .inr (1, rf_o1 a_this_finger a_this_waiting a_this_held a_this_seen q.2.1)), (a_this_finger, .inr (0, rf_o0 a_this_finger_kinds a_this_finger_thicks q.2.2.1)), (a_this_finger_kinds, .inl (cA, 6, .inl q.2.2.2.1)), (a_this_finger_thicks, .inl (cA, 6, .inl q.2.2.2.2.1)), (a_this_waiting, .inl (cA, 5022, .inl q.2.2.2.2.2.1)), (a_this_held, .inl (cA, 9, .inl q.2.2.2.2.2.2.1)), (a_this_seen, .inl (cA, 558, .inl q.2.2.2.2.2.2.2)), (a_o1, .inr (0, rf_o0 a_o1_kinds a_o1_thicks g_o1)), (a_o1_kinds, .inl (cA, 6, .inl f_o1_kinds)), (a_o1_thicks, .inl (cA, 6, .inl f_o1_thicks))] t) A) ([.ref a_this, .ref a_o1, .int p2, .int p3, .int p4] : List Value).toArray s 0 0 A) (F0 m 71 ls [])) → W p l e (headSpec wsX1_least ({ frames := 5, cells := 0, slots := 0, locals := 121 } : Room)).room s m ([.ref a_this, .ref a_o1, .int p2, .int p3, .int p4] : List Value).toArray below meth c H locs 0 0 (MQ below (va_Qi (fun (r : Int32) (_ : Unit) => r = q.1) (fun _ t => rf_Post D A [(a_this, .inr (1, rf_o1 a_this_finger a_this_waiting a_this_held a_this_seen q.2.1)), (a_this_finger, .inr (0, rf_o0 a_this_finger_kinds a_this_finger_thicks q.2.2.1)), (a_this_finger_kinds, .inl (cA, 6, .inl q.2.2.2.1)), (a_this_finger_thicks, .inl (cA, 6, .inl q.2.2.2.2.1)), (a_this_waiting, .inl (cA, 5022, .inl q.2.2.2.2.2.1)), (a_this_held, .inl (cA, 9, .inl q.2.2.2.2.2.2.1)), (a_this_seen, .inl (cA, 558, .inl q.2.2.2.2.2.2.2)), (a_o1, .inr (0, rf_o0 a_o1_kinds a_o1_thicks g_o1)), (a_o1_kinds, .inl (cA, 6, .inl f_o1_kinds)), (a_o1_thicks, .inl (cA, 6, .inl f_o1_thicks))] t) A) ([.ref a_this, .ref a_o1, .int p2, .int p3, .int p4] : List Value).toArray s 0 0 A) (F0 m 43 ls []) := by
    intro yf_this_finger_kinds yf_this_finger_thicks n
    induction n with
    | zero =>
      intro x5 yg_this yg_this_finger yf_this_waiting yf_this_held yf_this_seen ql hf H locs ls hP hD hS hl kx
      exact absurd (show (none : Option (Int32 × (Nat → Int32) × (Nat → Int32) × (Nat → Int32) × (Nat → Int32) × (Nat → Int32))) = some ql from hf) (fun h9 => by cases h9)
    | succ n ih =>
      intro x5 yg_this yg_this_finger yf_this_waiting yf_this_held yf_this_seen ql hf H locs ls hP hD hS hl kx
      rw [f_X1_least_L43] at hf
      refine lv_iload hx hb dX1_least_43 (lv_at hl 2 rfl) ?_
      refine lv_aload_n hx hb dX1_least_45 rfl (lv_at hl 0 rfl) ?_
      refine va_get (D := D) (ci := 1) (v := .int (yg_this 1)) (C := RX1) (T := TX1) (N := 7) hx hb hts jX1_least_X1 hown hK hP 0 rfl rfl 5 (by decide) (hts _ kX1_least_0) (fun _ h9 => h9) rfl dX1_least_46 ?_
      refine lv_icmp_ge (tgt := 71) hx hb dX1_least_49 (by decide) (fun c1 => ?_) (fun c1 => ?_)
      · have hf := rf_ifp hf c1
        obtain rfl := Option.some.inj hf
        exact kx _ _ _ hP hD hS (lv_sub hl [0, 1, 2] rfl)
      · have hf := rf_ifn hf c1
        refine lv_aload_n hx hb dX1_least_52 rfl (lv_at hl 0 rfl) ?_
        refine va_get (D := D) (ci := 1) (v := .int (yg_this 0)) (C := RX1) (T := TX1) (N := 7) hx hb hts jX1_least_X1 hown hK hP 0 rfl rfl 4 (by decide) (hts _ kX1_least_1) (fun _ h9 => h9) rfl dX1_least_53 ?_
        refine lv_if_le (tgt := 71) hx hb dX1_least_56 (by decide) (fun c2 => ?_) (fun c2 => ?_)
        · have hf := rf_ifp hf c2
          obtain rfl := Option.some.inj hf
          exact kx _ _ _ hP hD hS (lv_sub hl [0, 1, 2] rfl)
        · have hf := rf_ifn hf c2
          refine lv_aload_n hx hb dX1_least_59 rfl (lv_at hl 0 rfl) ?_
          refine lv_iload hx hb dX1_least_60 (lv_at hl 2 rfl) ?_
          obtain ⟨q3, hq3, hf⟩ := rf_bindq hf
          refine rf_Vv (As := [.int x5]) (rest := []) (wr := [(a_o1, .inr (0, rf_o0 a_o1_kinds a_o1_thicks g_o1)), (a_o1_kinds, .inl (cA, 6, .inl f_o1_kinds)), (a_o1_thicks, .inl (cA, 6, .inl f_o1_thicks))]) (wn := [(a_this, .inr (1, rf_o1 a_this_finger a_this_waiting a_this_held a_this_seen q3.1)), (a_this_finger, .inr (0, rf_o0 a_this_finger_kinds a_this_finger_thicks q3.2.1)), (a_this_finger_kinds, .inl (cA, 6, .inl yf_this_finger_kinds)), (a_this_finger_thicks, .inl (cA, 6, .inl yf_this_finger_thicks)), (a_this_waiting, .inl (cA, 5022, .inl q3.2.2.1)), (a_this_held, .inl (cA, 9, .inl q3.2.2.2.1)), (a_this_seen, .inl (cA, 558, .inl q3.2.2.2.2)), (a_o1, .inr (0, rf_o0 a_o1_kinds a_o1_thicks g_o1)), (a_o1_kinds, .inl (cA, 6, .inl f_o1_kinds)), (a_o1_thicks, .inl (cA, 6, .inl f_o1_thicks))]) ⟨hx, hb, hml, hown, hts⟩ hK hP hD hS hA hE (c_X1_spreadLayer l D cA ad a_this a_this_finger a_this_waiting a_this_held a_this_seen a_this_finger_kinds a_this_finger_thicks H.size yg_this yg_this_finger yf_this_finger_kinds yf_this_finger_thicks yf_this_waiting yf_this_held yf_this_seen x5 q3 hq3) (cwV 1 hts gX1_least_X1_spreadLayer rfl rfl rfl hv_X1_spreadLayer ⟨Nat.le_of_ble_eq_true rfl, Nat.le_of_ble_eq_true rfl⟩) [0, 1, 2, 3, 4, 5, 6] [7, 8, 9] [3, 4, 5, 6, 7, 8, 9, 0, 1, 2] rfl rfl rfl rfl (by decide) rfl rfl 1 0 rfl rfl rfl rfl rfl hl.1 (Nat.le_of_ble_eq_true rfl) dX1_least_62 ⟨Nat.zero_le _, Nat.zero_le _⟩ (fun H locs hP hD hS => ?_)
          obtain ⟨v4, ev4⟩ : ∃ y : Int32, y = x5 + 1 := ⟨_, rfl⟩
          have hf := rf_bindv hf ev4
          refine lv_iinc (v := v4) (lv' := [(5, .int v4), (0, .ref a_this), (4, .int p4)]) hx hb dX1_least_65 hl (k := 2) rfl (by rw [ev4]; rfl) (by decide) rfl (fun ls hl => ?_)
          clear ev4
          refine lv_goto (tgt := 43) hx hb dX1_least_68 (by decide) ?_
          exact ih v4 q3.1 q3.2.1 q3.2.2.1 q3.2.2.2.1 q3.2.2.2.2 ql hf _ _ _ hP hD hS (lv_sub hl [1, 2, 0] rfl) kx
  rw [f_X1_least] at hf
  refine lv_aload_n hx hb dX1_least_0 rfl (lv_at hl 1 rfl) ?_
  obtain ⟨q5, hq5, hf⟩ := rf_bindq hf
  refine rf_Vi (As := []) (rest := []) (wr := [(a_this, .inr (1, rf_o1 a_this_finger a_this_waiting a_this_held a_this_seen g_this)), (a_this_finger, .inr (0, rf_o0 a_this_finger_kinds a_this_finger_thicks g_this_finger)), (a_this_finger_kinds, .inl (cA, 6, .inl f_this_finger_kinds)), (a_this_finger_thicks, .inl (cA, 6, .inl f_this_finger_thicks)), (a_this_waiting, .inl (cA, 5022, .inl f_this_waiting)), (a_this_held, .inl (cA, 9, .inl f_this_held)), (a_this_seen, .inl (cA, 558, .inl f_this_seen)), (a_o1_kinds, .inl (cA, 6, .inl f_o1_kinds)), (a_o1_thicks, .inl (cA, 6, .inl f_o1_thicks))]) (wn := [(a_this, .inr (1, rf_o1 a_this_finger a_this_waiting a_this_held a_this_seen g_this)), (a_this_finger, .inr (0, rf_o0 a_this_finger_kinds a_this_finger_thicks g_this_finger)), (a_this_finger_kinds, .inl (cA, 6, .inl f_this_finger_kinds)), (a_this_finger_thicks, .inl (cA, 6, .inl f_this_finger_thicks)), (a_this_waiting, .inl (cA, 5022, .inl f_this_waiting)), (a_this_held, .inl (cA, 9, .inl f_this_held)), (a_this_seen, .inl (cA, 558, .inl f_this_seen)), (a_o1, .inr (0, rf_o0 a_o1_kinds a_o1_thicks g_o1)), (a_o1_kinds, .inl (cA, 6, .inl f_o1_kinds)), (a_o1_thicks, .inl (cA, 6, .inl f_o1_thicks))]) ⟨hx, hb, hml, hown, hts⟩ hK hP hD hS hA hE (c_X0_isOff l D cA ad a_o1 a_o1_kinds a_o1_thicks s.heap.size g_o1 q5 hq5) (cwV 0 hts gX1_least_X0_isOff rfl rfl rfl hv_X0_isOff ⟨Nat.le_of_ble_eq_true rfl, Nat.le_of_ble_eq_true rfl⟩) [7] [0, 1, 2, 3, 4, 5, 6, 8, 9] [0, 1, 2, 3, 4, 5, 6, 9, 7, 8] rfl rfl rfl rfl (by decide) rfl rfl 0 7 rfl rfl rfl rfl rfl hl.1 (Nat.le_of_ble_eq_true rfl) dX1_least_1 ⟨Nat.zero_le _, Nat.zero_le _⟩ (fun H locs hP hD hS => ?_)
  refine lv_if_eq (tgt := 9) hx hb dX1_least_4 (by decide) (fun c6 => ?_) (fun c6 => ?_)
  · have hf := rf_ifp hf c6
    refine lv_aload_n hx hb dX1_least_9 rfl (lv_at hl 0 rfl) ?_
    obtain ⟨q7, hq7, hf⟩ := rf_bindq hf
    refine rf_Vv (As := []) (rest := []) (wr := [(a_this_finger, .inr (0, rf_o0 a_this_finger_kinds a_this_finger_thicks g_this_finger)), (a_this_finger_kinds, .inl (cA, 6, .inl f_this_finger_kinds)), (a_this_finger_thicks, .inl (cA, 6, .inl f_this_finger_thicks)), (a_o1, .inr (0, rf_o0 a_o1_kinds a_o1_thicks g_o1)), (a_o1_kinds, .inl (cA, 6, .inl f_o1_kinds)), (a_o1_thicks, .inl (cA, 6, .inl f_o1_thicks))]) (wn := [(a_this, .inr (1, rf_o1 a_this_finger a_this_waiting a_this_held a_this_seen q7.1)), (a_this_finger, .inr (0, rf_o0 a_this_finger_kinds a_this_finger_thicks g_this_finger)), (a_this_finger_kinds, .inl (cA, 6, .inl f_this_finger_kinds)), (a_this_finger_thicks, .inl (cA, 6, .inl f_this_finger_thicks)), (a_this_waiting, .inl (cA, 5022, .inl q7.2.1)), (a_this_held, .inl (cA, 9, .inl q7.2.2.1)), (a_this_seen, .inl (cA, 558, .inl q7.2.2.2)), (a_o1, .inr (0, rf_o0 a_o1_kinds a_o1_thicks g_o1)), (a_o1_kinds, .inl (cA, 6, .inl f_o1_kinds)), (a_o1_thicks, .inl (cA, 6, .inl f_o1_thicks))]) ⟨hx, hb, hml, hown, hts⟩ hK hP hD hS hA hE (c_X1_clear l D cA ad a_this a_this_finger a_this_waiting a_this_held a_this_seen H.size g_this f_this_waiting f_this_held f_this_seen q7 hq7) (cwV 0 hts gX1_least_X1_clear rfl rfl rfl hv_X1_clear ⟨Nat.le_of_ble_eq_true rfl, Nat.le_of_ble_eq_true rfl⟩) [0, 4, 5, 6] [1, 2, 3, 7, 8, 9] [6, 0, 1, 2, 7, 8, 9, 3, 4, 5] rfl rfl rfl rfl (by decide) rfl rfl 1 0 rfl rfl rfl rfl rfl hl.1 (Nat.le_of_ble_eq_true rfl) dX1_least_10 ⟨Nat.zero_le _, Nat.zero_le _⟩ (fun H locs hP hD hS => ?_)
    refine lv_aload_n hx hb dX1_least_13 rfl (lv_at hl 0 rfl) ?_
    refine va_get (D := D) (ci := 1) (v := .ref a_this_finger) (C := RX1) (T := TX1) (N := 7) hx hb hts jX1_least_X1 hown hK hP 0 rfl rfl 0 (by decide) (hts _ kX1_least_2) (fun _ h9 => h9) rfl dX1_least_14 ?_
    refine lv_aload_n hx hb dX1_least_17 rfl (lv_at hl 1 rfl) ?_
    obtain ⟨q8, hq8, hf⟩ := rf_bindq hf
    refine rf_Vv (As := [.ref a_o1]) (rest := []) (wr := [(a_this, .inr (1, rf_o1 a_this_finger a_this_waiting a_this_held a_this_seen q7.1)), (a_this_waiting, .inl (cA, 5022, .inl q7.2.1)), (a_this_held, .inl (cA, 9, .inl q7.2.2.1)), (a_this_seen, .inl (cA, 558, .inl q7.2.2.2))]) (wn := [(a_this, .inr (1, rf_o1 a_this_finger a_this_waiting a_this_held a_this_seen q7.1)), (a_this_finger, .inr (0, rf_o0 a_this_finger_kinds a_this_finger_thicks q8.1)), (a_this_finger_kinds, .inl (cA, 6, .inl q8.2.1)), (a_this_finger_thicks, .inl (cA, 6, .inl q8.2.2)), (a_this_waiting, .inl (cA, 5022, .inl q7.2.1)), (a_this_held, .inl (cA, 9, .inl q7.2.2.1)), (a_this_seen, .inl (cA, 558, .inl q7.2.2.2)), (a_o1, .inr (0, rf_o0 a_o1_kinds a_o1_thicks g_o1)), (a_o1_kinds, .inl (cA, 6, .inl f_o1_kinds)), (a_o1_thicks, .inl (cA, 6, .inl f_o1_thicks))]) ⟨hx, hb, hml, hown, hts⟩ hK hP hD hS hA hE (c_X0_copyFrom l D cA ad a_this_finger a_this_finger_kinds a_this_finger_thicks a_o1 a_o1_kinds a_o1_thicks H.size g_this_finger f_this_finger_kinds f_this_finger_thicks g_o1 f_o1_kinds f_o1_thicks q8 hq8) (cwV 1 hts gX1_least_X0_copyFrom rfl rfl rfl hv_X0_copyFrom ⟨Nat.le_of_ble_eq_true rfl, Nat.le_of_ble_eq_true rfl⟩) [1, 2, 3, 7, 8, 9] [0, 4, 5, 6] [0, 4, 5, 6, 1, 2, 3, 7, 8, 9] rfl rfl rfl rfl (by decide) rfl rfl 0 1 rfl rfl rfl rfl rfl hl.1 (Nat.le_of_ble_eq_true rfl) dX1_least_18 ⟨Nat.zero_le _, Nat.zero_le _⟩ (fun H locs hP hD hS => ?_)
    refine lv_aload_n hx hb dX1_least_21 rfl (lv_at hl 0 rfl) ?_
    refine lv_iload_n hx hb dX1_least_22 rfl (lv_at hl 3 rfl) ?_
    obtain ⟨c9, hf⟩ := rf_chk hf
    refine va_put (D := D) (ci := 1) (v := .int p3) (ty := .boolean) (C := RX1) (T := TX1) (N := 7) hx hb hts jX1_least_X1 tyX1 tyX1_ok nmX1 hown hK hP hD hS 0 rfl rfl 6 (by decide) (hts _ kX1_least_3) (fun _ h9 => h9) rfl (by decide +kernel) (rf_nb c9) (rf_fb c9) (Nat.le_of_ble_eq_true rfl) dX1_least_23 (fun H locs hP hD hS => ?_)
    have hP : va_P D vwCl [(a_this, .inr (1, rf_o1 a_this_finger a_this_waiting a_this_held a_this_seen (upd q7.1 2 p3))), (a_this_finger, .inr (0, rf_o0 a_this_finger_kinds a_this_finger_thicks q8.1)), (a_this_finger_kinds, .inl (cA, 6, .inl q8.2.1)), (a_this_finger_thicks, .inl (cA, 6, .inl q8.2.2)), (a_this_waiting, .inl (cA, 5022, .inl q7.2.1)), (a_this_held, .inl (cA, 9, .inl q7.2.2.1)), (a_this_seen, .inl (cA, 558, .inl q7.2.2.2)), (a_o1, .inr (0, rf_o0 a_o1_kinds a_o1_thicks g_o1)), (a_o1_kinds, .inl (cA, 6, .inl f_o1_kinds)), (a_o1_thicks, .inl (cA, 6, .inl f_o1_thicks))] H := hP
    have hD : va_D A [(a_this, .inr (1, rf_o1 a_this_finger a_this_waiting a_this_held a_this_seen (upd q7.1 2 p3))), (a_this_finger, .inr (0, rf_o0 a_this_finger_kinds a_this_finger_thicks q8.1)), (a_this_finger_kinds, .inl (cA, 6, .inl q8.2.1)), (a_this_finger_thicks, .inl (cA, 6, .inl q8.2.2)), (a_this_waiting, .inl (cA, 5022, .inl q7.2.1)), (a_this_held, .inl (cA, 9, .inl q7.2.2.1)), (a_this_seen, .inl (cA, 558, .inl q7.2.2.2)), (a_o1, .inr (0, rf_o0 a_o1_kinds a_o1_thicks g_o1)), (a_o1_kinds, .inl (cA, 6, .inl f_o1_kinds)), (a_o1_thicks, .inl (cA, 6, .inl f_o1_thicks))] := hD
    refine lv_aload_n hx hb dX1_least_26 rfl (lv_at hl 0 rfl) ?_
    refine lv_iload hx hb dX1_least_27 (lv_at hl 4 rfl) ?_
    refine lv_iconst (v := 1) hx hb dX1_least_29 (by decide) ?_
    refine lv_iadd hx hb dX1_least_30 ?_
    refine lv_topi (fun v10 ev10 => ?_)
    have hf := rf_bindv hf ev10
    clear ev10
    refine va_put (D := D) (ci := 1) (v := .int v10) (ty := .int) (C := RX1) (T := TX1) (N := 7) hx hb hts jX1_least_X1 tyX1 tyX1_ok nmX1 hown hK hP hD hS 0 rfl rfl 5 (by decide) (hts _ kX1_least_0) (fun _ h9 => h9) rfl (by decide +kernel) rfl rfl (Nat.le_of_ble_eq_true rfl) dX1_least_31 (fun H locs hP hD hS => ?_)
    have hP : va_P D vwCl [(a_this, .inr (1, rf_o1 a_this_finger a_this_waiting a_this_held a_this_seen (upd (upd q7.1 2 p3) 1 v10))), (a_this_finger, .inr (0, rf_o0 a_this_finger_kinds a_this_finger_thicks q8.1)), (a_this_finger_kinds, .inl (cA, 6, .inl q8.2.1)), (a_this_finger_thicks, .inl (cA, 6, .inl q8.2.2)), (a_this_waiting, .inl (cA, 5022, .inl q7.2.1)), (a_this_held, .inl (cA, 9, .inl q7.2.2.1)), (a_this_seen, .inl (cA, 558, .inl q7.2.2.2)), (a_o1, .inr (0, rf_o0 a_o1_kinds a_o1_thicks g_o1)), (a_o1_kinds, .inl (cA, 6, .inl f_o1_kinds)), (a_o1_thicks, .inl (cA, 6, .inl f_o1_thicks))] H := hP
    have hD : va_D A [(a_this, .inr (1, rf_o1 a_this_finger a_this_waiting a_this_held a_this_seen (upd (upd q7.1 2 p3) 1 v10))), (a_this_finger, .inr (0, rf_o0 a_this_finger_kinds a_this_finger_thicks q8.1)), (a_this_finger_kinds, .inl (cA, 6, .inl q8.2.1)), (a_this_finger_thicks, .inl (cA, 6, .inl q8.2.2)), (a_this_waiting, .inl (cA, 5022, .inl q7.2.1)), (a_this_held, .inl (cA, 9, .inl q7.2.2.1)), (a_this_seen, .inl (cA, 558, .inl q7.2.2.2)), (a_o1, .inr (0, rf_o0 a_o1_kinds a_o1_thicks g_o1)), (a_o1_kinds, .inl (cA, 6, .inl f_o1_kinds)), (a_o1_thicks, .inl (cA, 6, .inl f_o1_thicks))] := hD
    refine lv_aload_n hx hb dX1_least_34 rfl (lv_at hl 0 rfl) ?_
    refine lv_iconst (v := 0) hx hb dX1_least_35 (by decide) ?_
    refine lv_iload_n hx hb dX1_least_36 rfl (lv_at hl 2 rfl) ?_
    obtain ⟨q11, hq11, hf⟩ := rf_bindq hf
    refine rf_Vv (As := [.int 0, .int p2]) (rest := []) (wr := [(a_this_finger_kinds, .inl (cA, 6, .inl q8.2.1)), (a_this_finger_thicks, .inl (cA, 6, .inl q8.2.2)), (a_o1, .inr (0, rf_o0 a_o1_kinds a_o1_thicks g_o1)), (a_o1_kinds, .inl (cA, 6, .inl f_o1_kinds)), (a_o1_thicks, .inl (cA, 6, .inl f_o1_thicks))]) (wn := [(a_this, .inr (1, rf_o1 a_this_finger a_this_waiting a_this_held a_this_seen q11.1)), (a_this_finger, .inr (0, rf_o0 a_this_finger_kinds a_this_finger_thicks q8.1)), (a_this_finger_kinds, .inl (cA, 6, .inl q8.2.1)), (a_this_finger_thicks, .inl (cA, 6, .inl q8.2.2)), (a_this_waiting, .inl (cA, 5022, .inl q11.2.1)), (a_this_held, .inl (cA, 9, .inl q11.2.2)), (a_this_seen, .inl (cA, 558, .inl q7.2.2.2)), (a_o1, .inr (0, rf_o0 a_o1_kinds a_o1_thicks g_o1)), (a_o1_kinds, .inl (cA, 6, .inl f_o1_kinds)), (a_o1_thicks, .inl (cA, 6, .inl f_o1_thicks))]) ⟨hx, hb, hml, hown, hts⟩ hK hP hD hS hA hE (c_X1_arrive l D cA ad a_this a_this_finger a_this_waiting a_this_held a_this_seen a_this_finger_kinds a_this_finger_thicks H.size (upd (upd q7.1 2 p3) 1 v10) q8.1 q7.2.1 q7.2.2.1 q7.2.2.2 0 p2 q11 hq11) (cwV 2 hts gX1_least_X1_arrive rfl rfl rfl hv_X1_arrive ⟨Nat.le_of_ble_eq_true rfl, Nat.le_of_ble_eq_true rfl⟩) [0, 1, 4, 5, 6] [2, 3, 7, 8, 9] [5, 6, 0, 1, 7, 8, 9, 2, 3, 4] rfl rfl rfl rfl (by decide) rfl rfl 1 0 rfl rfl rfl rfl rfl hl.1 (Nat.le_of_ble_eq_true rfl) dX1_least_37 ⟨Nat.zero_le _, Nat.zero_le _⟩ (fun H locs hP hD hS => ?_)
    refine lv_iconst (v := 0) hx hb dX1_least_40 (by decide) ?_
    refine lv_istore (lv' := [(5, .int 0), (0, .ref a_this), (1, .ref a_o1), (2, .int p2), (3, .int p3), (4, .int p4)]) hx hb dX1_least_41 hl (by decide) rfl (fun ls hl => ?_)
    obtain ⟨q12, hq12, hf⟩ := rf_bindq hf
    refine key_43 q8.2.1 q8.2.2 rf_fu 0 q11.1 q8.1 q11.2.1 q11.2.2 q7.2.2.2 q12 hq12 _ _ _ hP hD hS (lv_sub hl [1, 5, 0] rfl) (fun H locs ls hP hD hS hl => ?_)
    refine lv_aload_n hx hb dX1_least_71 rfl (lv_at hl 0 rfl) ?_
    refine va_get (D := D) (ci := 1) (v := .int (q12.2.1 1)) (C := RX1) (T := TX1) (N := 7) hx hb hts jX1_least_X1 hown hK hP 0 rfl rfl 5 (by decide) (hts _ kX1_least_0) (fun _ h9 => h9) rfl dX1_least_72 ?_
    refine lv_iload hx hb dX1_least_75 (lv_at hl 1 rfl) ?_
    refine lv_icmp_gt (tgt := 87) hx hb dX1_least_77 (by decide) (fun c13 => ?_) (fun c13 => ?_)
    · have hf := rf_ifp hf c13
      refine lv_bipush (v := (-9)) hx hb dX1_least_87 (by decide) ?_
      obtain rfl := Option.some.inj hf
      exact W.iret (v := (-9)) hx hb hr (fun t ht hW => ⟨⟨(-9), (), rfl, rfl, rf_mk ht hP hD⟩, hS.F ht⟩) hS.2.2 dX1_least_89
    · have hf := rf_ifn hf c13
      refine lv_aload_n hx hb dX1_least_80 rfl (lv_at hl 0 rfl) ?_
      refine va_get (D := D) (ci := 1) (v := .int (q12.2.1 1)) (C := RX1) (T := TX1) (N := 7) hx hb hts jX1_least_X1 hown hK hP 0 rfl rfl 5 (by decide) (hts _ kX1_least_0) (fun _ h9 => h9) rfl dX1_least_81 ?_
      refine lv_goto (tgt := 89) hx hb dX1_least_84 (by decide) ?_
      obtain rfl := Option.some.inj hf
      exact W.iret (v := (q12.2.1 1)) hx hb hr (fun t ht hW => ⟨⟨(q12.2.1 1), (), rfl, rfl, rf_mk ht hP hD⟩, hS.F ht⟩) hS.2.2 dX1_least_89
  · have hf := rf_ifn hf c6
    refine lv_iconst (v := 0) hx hb dX1_least_7 (by decide) ?_
    obtain rfl := Option.some.inj hf
    exact W.iret (v := 0) hx hb hr (fun t ht hW => ⟨⟨0, (), rfl, rfl, rf_mk ht hP hD⟩, hS.F ht⟩) hS.2.2 dX1_least_8
theorem kX2_refuse_0 : (.fieldLink RX2 39 "RingAndFinger" "refusals" "[I" : Cond) ∈ wsX2_refuse := by decide +kernel
theorem jX2_refuse_X2 : ∀ w ∈ u_ws RX2 TX2 12, w ∈ wsX2_refuse := by decide +kernel
set_option maxHeartbeats 8000000 in
set_option maxRecDepth 100000 in
theorem c_X2_refuse (l : Launch) (D : va_G) (cA : ClassId) (ad : Nat → Nat) (a_this a_this_now a_this_then a_this_trial a_this_search a_this_letters a_this_numbers a_this_thickest a_this_refusals : Nat) (sz : Nat) (g_this f_this_refusals : Nat → Int32) (p1 : Int32) (q : Int32 × (Nat → Int32)) (hf : f_X2_refuse g_this f_this_refusals p1 = some q) : Met l yX2_refuse wsX2_refuse ({ frames := 1, cells := 0, slots := 0, locals := 22 } : Room) (va_Pc [.ref a_this, .int p1] (rf_Pre D cA ad [(a_this, .inr (2, rf_o2 a_this_now a_this_then a_this_trial a_this_search a_this_letters a_this_numbers a_this_thickest a_this_refusals g_this)), (a_this_refusals, .inl (cA, 7, .inl f_this_refusals))] sz)) (va_Qi (fun (r : Int32) (_ : Unit) => r = q.1) (fun _ t => rf_Post D (va_A [(a_this, .inr (2, rf_o2 a_this_now a_this_then a_this_trial a_this_search a_this_letters a_this_numbers a_this_thickest a_this_refusals g_this)), (a_this_refusals, .inl (cA, 7, .inl f_this_refusals))] sz) [(a_this, .inr (2, rf_o2 a_this_now a_this_then a_this_trial a_this_search a_this_letters a_this_numbers a_this_thickest a_this_refusals g_this)), (a_this_refusals, .inl (cA, 7, .inl q.2))] t) (va_A [(a_this, .inr (2, rf_o2 a_this_now a_this_then a_this_trial a_this_search a_this_letters a_this_numbers a_this_thickest a_this_refusals g_this)), (a_this_refusals, .inl (cA, 7, .inl f_this_refusals))] sz)) 0 0 (va_A [(a_this, .inr (2, rf_o2 a_this_now a_this_then a_this_trial a_this_search a_this_letters a_this_numbers a_this_thickest a_this_refusals g_this)), (a_this_refusals, .inl (cA, 7, .inl f_this_refusals))] sz) := by
  refine Met.ofW (cc := cX2_refuse) (maxL := 2) (ret := (some .int)) (by decide) rfl ?_
  intro p e s m args below meth c s₁ B hml hv
  obtain ⟨rfl, hsz, hP, hK, hD0, hE⟩ := hv
  have hx := B.exec
  have hb := B.bytes
  have hr := B.returns
  have hts := atoms_spec (ws := wsX2_refuse) B.pre
  have hown : s.vm.findClass RX2 = some m.cls := findClass_of_methodNamed B.named
  have hlocks := B.notSynchronized
  subst hsz
  have hD := hD0.self (sz := s.heap.size)
  generalize hAe : va_A [(a_this, .inr (2, rf_o2 a_this_now a_this_then a_this_trial a_this_search a_this_letters a_this_numbers a_this_thickest a_this_refusals g_this)), (a_this_refusals, .inl (cA, 7, .inl f_this_refusals))] s.heap.size = A at hD hE ⊢
  have hA : ∀ q : Nat, s.heap.size ≤ q → A q := fun q h => by rw [← hAe]; exact Or.inr h
  have hS : va_S A s.heap s.heap [] := va_S.rf
  have hP : va_P D vwCl [(a_this, .inr (2, rf_o2 a_this_now a_this_then a_this_trial a_this_search a_this_letters a_this_numbers a_this_thickest a_this_refusals g_this)), (a_this_refusals, .inl (cA, 7, .inl f_this_refusals))] s.heap := hP
  have hl := lv_entry ([.ref a_this, .int p1]) (n := 2) (Nat.le_of_ble_eq_true rfl)
  rw [lg_entry_eq]
  generalize (lg_sl ([.ref a_this, .int p1]) ++ List.replicate (2 - (lg_sl ([.ref a_this, .int p1])).length) Slot.unset).toArray = ls at hl ⊢
  have hl : lv_has ls 2 [(0, .ref a_this), (1, .int p1)] := hl
  rw [f_X2_refuse] at hf
  refine lv_aload_n hx hb dX2_refuse_0 rfl (lv_at hl 0 rfl) ?_
  refine va_get (D := D) (ci := 2) (v := .ref a_this_refusals) (C := RX2) (T := TX2) (N := 12) hx hb hts jX2_refuse_X2 hown hK hP 0 rfl rfl 7 (by decide) (hts _ kX2_refuse_0) (fun _ h9 => h9) rfl dX2_refuse_1 ?_
  refine lv_iload_n hx hb dX2_refuse_4 rfl (lv_at hl 1 rfl) ?_
  refine lv_ineg hx hb dX2_refuse_5 ?_
  refine lv_aload_n hx hb dX2_refuse_6 rfl (lv_at hl 0 rfl) ?_
  refine va_get (D := D) (ci := 2) (v := .ref a_this_refusals) (C := RX2) (T := TX2) (N := 12) hx hb hts jX2_refuse_X2 hown hK hP 0 rfl rfl 7 (by decide) (hts _ kX2_refuse_0) (fun _ h9 => h9) rfl dX2_refuse_7 ?_
  refine lv_iload_n hx hb dX2_refuse_10 rfl (lv_at hl 1 rfl) ?_
  refine lv_ineg hx hb dX2_refuse_11 ?_
  obtain ⟨q1, hq1, hf⟩ := rf_bindq hf
  refine rf_Si (As := [.ref a_this_refusals, .int (-p1)]) (rest := [.int (-p1), .ref a_this_refusals]) (wr := [(a_this, .inr (2, rf_o2 a_this_now a_this_then a_this_trial a_this_search a_this_letters a_this_numbers a_this_thickest a_this_refusals g_this))]) (wn := [(a_this, .inr (2, rf_o2 a_this_now a_this_then a_this_trial a_this_search a_this_letters a_this_numbers a_this_thickest a_this_refusals g_this)), (a_this_refusals, .inl (cA, 7, .inl f_this_refusals))]) ⟨hx, hb, hml, hown, hts⟩ hK hP hD hS hA hE (c_X2_at l D cA ad a_this_refusals s.heap.size 7 f_this_refusals (-p1) q1 hq1) (va_cwS 2 hts gX2_refuse_X2_at rfl rfl rfl hs_X2_at ⟨Nat.le_of_ble_eq_true rfl, Nat.le_of_ble_eq_true rfl⟩) [1] [0] [0, 1] rfl rfl rfl rfl (by decide) rfl rfl rfl rfl hl.1 (Nat.le_of_ble_eq_true rfl) dX2_refuse_12 ⟨Nat.zero_le _, Nat.zero_le _⟩ (fun H locs hP hD hS => ?_)
  refine lv_iconst (v := 1) hx hb dX2_refuse_15 (by decide) ?_
  refine lv_iadd hx hb dX2_refuse_16 ?_
  obtain ⟨q2, hq2, hf⟩ := rf_bindq hf
  refine rf_Sv (As := [.ref a_this_refusals, .int (-p1), .int (q1 + 1)]) (rest := []) (wr := [(a_this, .inr (2, rf_o2 a_this_now a_this_then a_this_trial a_this_search a_this_letters a_this_numbers a_this_thickest a_this_refusals g_this))]) (wn := [(a_this, .inr (2, rf_o2 a_this_now a_this_then a_this_trial a_this_search a_this_letters a_this_numbers a_this_thickest a_this_refusals g_this)), (a_this_refusals, .inl (cA, 7, .inl q2))]) ⟨hx, hb, hml, hown, hts⟩ hK hP hD hS hA hE (c_X2_put l D cA ad a_this_refusals H.size 7 f_this_refusals (-p1) (q1 + 1) q2 hq2) (va_cwS 3 hts gX2_refuse_X2_put rfl rfl rfl hs_X2_put ⟨Nat.le_of_ble_eq_true rfl, Nat.le_of_ble_eq_true rfl⟩) [1] [0] [0, 1] rfl rfl rfl rfl (by decide) rfl rfl rfl rfl hl.1 (Nat.le_of_ble_eq_true rfl) dX2_refuse_17 ⟨Nat.zero_le _, Nat.zero_le _⟩ (fun H locs hP hD hS => ?_)
  refine lv_iload_n hx hb dX2_refuse_20 rfl (lv_at hl 1 rfl) ?_
  obtain rfl := Option.some.inj hf
  exact W.iret (v := p1) hx hb hr (fun t ht hW => ⟨⟨p1, (), rfl, rfl, rf_mk ht hP hD⟩, hS.F ht⟩) hS.2.2 dX2_refuse_21
theorem kX2_letter_0 : (.fieldLink RX2 42 "RingAndFinger" "letterCount" "I" : Cond) ∈ wsX2_letter := by decide +kernel
theorem kX2_letter_1 : (.fieldLink RX2 29 "RingAndFinger" "letters" "[I" : Cond) ∈ wsX2_letter := by decide +kernel
theorem jX2_letter_X2 : ∀ w ∈ u_ws RX2 TX2 12, w ∈ wsX2_letter := by decide +kernel
set_option maxHeartbeats 8000000 in
set_option maxRecDepth 100000 in
theorem c_X2_letter (l : Launch) (D : va_G) (cA : ClassId) (ad : Nat → Nat) (a_this a_this_now a_this_then a_this_trial a_this_search a_this_letters a_this_numbers a_this_thickest a_this_refusals : Nat) (sz : Nat) (g_this f_this_letters f_this_refusals : Nat → Int32) (p1 : Int32) (q : Int32 × (Nat → Int32) × (Nat → Int32) × (Nat → Int32)) (hf : f_X2_letter g_this f_this_letters f_this_refusals p1 = some q) : Met l yX2_letter wsX2_letter ({ frames := 2, cells := 0, slots := 0, locals := 43 } : Room) (va_Pc [.ref a_this, .int p1] (rf_Pre D cA ad [(a_this, .inr (2, rf_o2 a_this_now a_this_then a_this_trial a_this_search a_this_letters a_this_numbers a_this_thickest a_this_refusals g_this)), (a_this_letters, .inl (cA, 96, .inl f_this_letters)), (a_this_refusals, .inl (cA, 7, .inl f_this_refusals))] sz)) (va_Qi (fun (r : Int32) (_ : Unit) => r = q.1) (fun _ t => rf_Post D (va_A [(a_this, .inr (2, rf_o2 a_this_now a_this_then a_this_trial a_this_search a_this_letters a_this_numbers a_this_thickest a_this_refusals g_this)), (a_this_letters, .inl (cA, 96, .inl f_this_letters)), (a_this_refusals, .inl (cA, 7, .inl f_this_refusals))] sz) [(a_this, .inr (2, rf_o2 a_this_now a_this_then a_this_trial a_this_search a_this_letters a_this_numbers a_this_thickest a_this_refusals q.2.1)), (a_this_letters, .inl (cA, 96, .inl q.2.2.1)), (a_this_refusals, .inl (cA, 7, .inl q.2.2.2))] t) (va_A [(a_this, .inr (2, rf_o2 a_this_now a_this_then a_this_trial a_this_search a_this_letters a_this_numbers a_this_thickest a_this_refusals g_this)), (a_this_letters, .inl (cA, 96, .inl f_this_letters)), (a_this_refusals, .inl (cA, 7, .inl f_this_refusals))] sz)) 0 0 (va_A [(a_this, .inr (2, rf_o2 a_this_now a_this_then a_this_trial a_this_search a_this_letters a_this_numbers a_this_thickest a_this_refusals g_this)), (a_this_letters, .inl (cA, 96, .inl f_this_letters)), (a_this_refusals, .inl (cA, 7, .inl f_this_refusals))] sz) := by
  refine Met.ofW (cc := cX2_letter) (maxL := 2) (ret := (some .int)) (by decide) rfl ?_
  intro p e s m args below meth c s₁ B hml hv
  obtain ⟨rfl, hsz, hP, hK, hD0, hE⟩ := hv
  have hx := B.exec
  have hb := B.bytes
  have hr := B.returns
  have hts := atoms_spec (ws := wsX2_letter) B.pre
  have hown : s.vm.findClass RX2 = some m.cls := findClass_of_methodNamed B.named
  have hlocks := B.notSynchronized
  subst hsz
  have hD := hD0.self (sz := s.heap.size)
  generalize hAe : va_A [(a_this, .inr (2, rf_o2 a_this_now a_this_then a_this_trial a_this_search a_this_letters a_this_numbers a_this_thickest a_this_refusals g_this)), (a_this_letters, .inl (cA, 96, .inl f_this_letters)), (a_this_refusals, .inl (cA, 7, .inl f_this_refusals))] s.heap.size = A at hD hE ⊢
  have hA : ∀ q : Nat, s.heap.size ≤ q → A q := fun q h => by rw [← hAe]; exact Or.inr h
  have hS : va_S A s.heap s.heap [] := va_S.rf
  have hP : va_P D vwCl [(a_this, .inr (2, rf_o2 a_this_now a_this_then a_this_trial a_this_search a_this_letters a_this_numbers a_this_thickest a_this_refusals g_this)), (a_this_letters, .inl (cA, 96, .inl f_this_letters)), (a_this_refusals, .inl (cA, 7, .inl f_this_refusals))] s.heap := hP
  have hl := lv_entry ([.ref a_this, .int p1]) (n := 2) (Nat.le_of_ble_eq_true rfl)
  rw [lg_entry_eq]
  generalize (lg_sl ([.ref a_this, .int p1]) ++ List.replicate (2 - (lg_sl ([.ref a_this, .int p1])).length) Slot.unset).toArray = ls at hl ⊢
  have hl : lv_has ls 2 [(0, .ref a_this), (1, .int p1)] := hl
  rw [f_X2_letter] at hf
  refine lv_iload_n hx hb dX2_letter_0 rfl (lv_at hl 1 rfl) ?_
  refine lv_if_ge (tgt := 11) hx hb dX2_letter_1 (by decide) (fun c1 => ?_) (fun c1 => ?_)
  · have hf := rf_ifp hf c1
    refine lv_iload_n hx hb dX2_letter_11 rfl (lv_at hl 1 rfl) ?_
    refine lv_sipush (v := 255) hx hb dX2_letter_12 (by decide) ?_
    refine lv_icmp_gt (tgt := 27) hx hb dX2_letter_15 (by decide) (fun c2 => ?_) (fun c2 => ?_)
    · have hf := rf_ifp hf c2
      refine lv_aload_n hx hb dX2_letter_27 rfl (lv_at hl 0 rfl) ?_
      refine lv_bipush (v := (-6)) hx hb dX2_letter_28 (by decide) ?_
      obtain ⟨q3, hq3, hf⟩ := rf_bindq hf
      refine rf_Vi (As := [.int (-6)]) (rest := []) (wr := [(a_this_letters, .inl (cA, 96, .inl f_this_letters))]) (wn := [(a_this, .inr (2, rf_o2 a_this_now a_this_then a_this_trial a_this_search a_this_letters a_this_numbers a_this_thickest a_this_refusals g_this)), (a_this_letters, .inl (cA, 96, .inl f_this_letters)), (a_this_refusals, .inl (cA, 7, .inl q3.2))]) ⟨hx, hb, hml, hown, hts⟩ hK hP hD hS hA hE (c_X2_refuse l D cA ad a_this a_this_now a_this_then a_this_trial a_this_search a_this_letters a_this_numbers a_this_thickest a_this_refusals s.heap.size g_this f_this_refusals (-6) q3 hq3) (cwV 1 hts gX2_letter_X2_refuse rfl rfl rfl hv_X2_refuse ⟨Nat.le_of_ble_eq_true rfl, Nat.le_of_ble_eq_true rfl⟩) [0, 2] [1] [1, 0, 2] rfl rfl rfl rfl (by decide) rfl rfl 2 0 rfl rfl rfl rfl rfl hl.1 (Nat.le_of_ble_eq_true rfl) dX2_letter_30 ⟨Nat.zero_le _, Nat.zero_le _⟩ (fun H locs hP hD hS => ?_)
      obtain rfl := Option.some.inj hf
      exact W.iret (v := q3.1) hx hb hr (fun t ht hW => ⟨⟨q3.1, (), rfl, rfl, rf_mk ht hP hD⟩, hS.F ht⟩) hS.2.2 dX2_letter_33
    · have hf := rf_ifn hf c2
      refine lv_aload_n hx hb dX2_letter_18 rfl (lv_at hl 0 rfl) ?_
      refine va_get (D := D) (ci := 2) (v := .int (g_this 0)) (C := RX2) (T := TX2) (N := 12) hx hb hts jX2_letter_X2 hown hK hP 0 rfl rfl 8 (by decide) (hts _ kX2_letter_0) (fun _ h9 => h9) rfl dX2_letter_19 ?_
      refine lv_bipush (v := 96) hx hb dX2_letter_22 (by decide) ?_
      refine lv_icmp_lt (tgt := 34) hx hb dX2_letter_24 (by decide) (fun c4 => ?_) (fun c4 => ?_)
      · have hf := rf_ifp hf c4
        refine lv_aload_n hx hb dX2_letter_34 rfl (lv_at hl 0 rfl) ?_
        refine va_get (D := D) (ci := 2) (v := .ref a_this_letters) (C := RX2) (T := TX2) (N := 12) hx hb hts jX2_letter_X2 hown hK hP 0 rfl rfl 4 (by decide) (hts _ kX2_letter_1) (fun _ h9 => h9) rfl dX2_letter_35 ?_
        refine lv_aload_n hx hb dX2_letter_38 rfl (lv_at hl 0 rfl) ?_
        refine va_get (D := D) (ci := 2) (v := .int (g_this 0)) (C := RX2) (T := TX2) (N := 12) hx hb hts jX2_letter_X2 hown hK hP 0 rfl rfl 8 (by decide) (hts _ kX2_letter_0) (fun _ h9 => h9) rfl dX2_letter_39 ?_
        refine lv_iload_n hx hb dX2_letter_42 rfl (lv_at hl 1 rfl) ?_
        obtain ⟨q5, hq5, hf⟩ := rf_bindq hf
        refine rf_Sv (As := [.ref a_this_letters, .int (g_this 0), .int p1]) (rest := []) (wr := [(a_this, .inr (2, rf_o2 a_this_now a_this_then a_this_trial a_this_search a_this_letters a_this_numbers a_this_thickest a_this_refusals g_this)), (a_this_refusals, .inl (cA, 7, .inl f_this_refusals))]) (wn := [(a_this, .inr (2, rf_o2 a_this_now a_this_then a_this_trial a_this_search a_this_letters a_this_numbers a_this_thickest a_this_refusals g_this)), (a_this_letters, .inl (cA, 96, .inl q5)), (a_this_refusals, .inl (cA, 7, .inl f_this_refusals))]) ⟨hx, hb, hml, hown, hts⟩ hK hP hD hS hA hE (c_X2_put l D cA ad a_this_letters s.heap.size 96 f_this_letters (g_this 0) p1 q5 hq5) (va_cwS 3 hts gX2_letter_X2_put rfl rfl rfl hs_X2_put ⟨Nat.le_of_ble_eq_true rfl, Nat.le_of_ble_eq_true rfl⟩) [1] [0, 2] [0, 2, 1] rfl rfl rfl rfl (by decide) rfl rfl rfl rfl hl.1 (Nat.le_of_ble_eq_true rfl) dX2_letter_43 ⟨Nat.zero_le _, Nat.zero_le _⟩ (fun H locs hP hD hS => ?_)
        refine lv_aload_n hx hb dX2_letter_46 rfl (lv_at hl 0 rfl) ?_
        refine lv_dup hx hb dX2_letter_47 rfl ?_
        refine va_get (D := D) (ci := 2) (v := .int (g_this 0)) (C := RX2) (T := TX2) (N := 12) hx hb hts jX2_letter_X2 hown hK hP 0 rfl rfl 8 (by decide) (hts _ kX2_letter_0) (fun _ h9 => h9) rfl dX2_letter_48 ?_
        refine lv_iconst (v := 1) hx hb dX2_letter_51 (by decide) ?_
        refine lv_iadd hx hb dX2_letter_52 ?_
        refine lv_topi (fun v6 ev6 => ?_)
        have hf := rf_bindv hf ev6
        clear ev6
        refine va_put (D := D) (ci := 2) (v := .int v6) (ty := .int) (C := RX2) (T := TX2) (N := 12) hx hb hts jX2_letter_X2 tyX2 tyX2_ok nmX2 hown hK hP hD hS 0 rfl rfl 8 (by decide) (hts _ kX2_letter_0) (fun _ h9 => h9) rfl (by decide +kernel) rfl rfl (Nat.le_of_ble_eq_true rfl) dX2_letter_53 (fun H locs hP hD hS => ?_)
        have hP : va_P D vwCl [(a_this, .inr (2, rf_o2 a_this_now a_this_then a_this_trial a_this_search a_this_letters a_this_numbers a_this_thickest a_this_refusals (upd g_this 0 v6))), (a_this_letters, .inl (cA, 96, .inl q5)), (a_this_refusals, .inl (cA, 7, .inl f_this_refusals))] H := hP
        have hD : va_D A [(a_this, .inr (2, rf_o2 a_this_now a_this_then a_this_trial a_this_search a_this_letters a_this_numbers a_this_thickest a_this_refusals (upd g_this 0 v6))), (a_this_letters, .inl (cA, 96, .inl q5)), (a_this_refusals, .inl (cA, 7, .inl f_this_refusals))] := hD
        refine lv_aload_n hx hb dX2_letter_56 rfl (lv_at hl 0 rfl) ?_
        refine va_get (D := D) (ci := 2) (v := .int v6) (C := RX2) (T := TX2) (N := 12) hx hb hts jX2_letter_X2 hown hK hP 0 rfl rfl 8 (by decide) (hts _ kX2_letter_0) (fun _ h9 => h9) rfl dX2_letter_57 ?_
        obtain rfl := Option.some.inj hf
        exact W.iret (v := v6) hx hb hr (fun t ht hW => ⟨⟨v6, (), rfl, rfl, rf_mk ht hP hD⟩, hS.F ht⟩) hS.2.2 dX2_letter_60
      · have hf := rf_ifn hf c4
        refine lv_aload_n hx hb dX2_letter_27 rfl (lv_at hl 0 rfl) ?_
        refine lv_bipush (v := (-6)) hx hb dX2_letter_28 (by decide) ?_
        obtain ⟨q7, hq7, hf⟩ := rf_bindq hf
        refine rf_Vi (As := [.int (-6)]) (rest := []) (wr := [(a_this_letters, .inl (cA, 96, .inl f_this_letters))]) (wn := [(a_this, .inr (2, rf_o2 a_this_now a_this_then a_this_trial a_this_search a_this_letters a_this_numbers a_this_thickest a_this_refusals g_this)), (a_this_letters, .inl (cA, 96, .inl f_this_letters)), (a_this_refusals, .inl (cA, 7, .inl q7.2))]) ⟨hx, hb, hml, hown, hts⟩ hK hP hD hS hA hE (c_X2_refuse l D cA ad a_this a_this_now a_this_then a_this_trial a_this_search a_this_letters a_this_numbers a_this_thickest a_this_refusals s.heap.size g_this f_this_refusals (-6) q7 hq7) (cwV 1 hts gX2_letter_X2_refuse rfl rfl rfl hv_X2_refuse ⟨Nat.le_of_ble_eq_true rfl, Nat.le_of_ble_eq_true rfl⟩) [0, 2] [1] [1, 0, 2] rfl rfl rfl rfl (by decide) rfl rfl 2 0 rfl rfl rfl rfl rfl hl.1 (Nat.le_of_ble_eq_true rfl) dX2_letter_30 ⟨Nat.zero_le _, Nat.zero_le _⟩ (fun H locs hP hD hS => ?_)
        obtain rfl := Option.some.inj hf
        exact W.iret (v := q7.1) hx hb hr (fun t ht hW => ⟨⟨q7.1, (), rfl, rfl, rf_mk ht hP hD⟩, hS.F ht⟩) hS.2.2 dX2_letter_33
  · have hf := rf_ifn hf c1
    refine lv_aload_n hx hb dX2_letter_4 rfl (lv_at hl 0 rfl) ?_
    refine lv_bipush (v := (-4)) hx hb dX2_letter_5 (by decide) ?_
    obtain ⟨q8, hq8, hf⟩ := rf_bindq hf
    refine rf_Vi (As := [.int (-4)]) (rest := []) (wr := [(a_this_letters, .inl (cA, 96, .inl f_this_letters))]) (wn := [(a_this, .inr (2, rf_o2 a_this_now a_this_then a_this_trial a_this_search a_this_letters a_this_numbers a_this_thickest a_this_refusals g_this)), (a_this_letters, .inl (cA, 96, .inl f_this_letters)), (a_this_refusals, .inl (cA, 7, .inl q8.2))]) ⟨hx, hb, hml, hown, hts⟩ hK hP hD hS hA hE (c_X2_refuse l D cA ad a_this a_this_now a_this_then a_this_trial a_this_search a_this_letters a_this_numbers a_this_thickest a_this_refusals s.heap.size g_this f_this_refusals (-4) q8 hq8) (cwV 1 hts gX2_letter_X2_refuse rfl rfl rfl hv_X2_refuse ⟨Nat.le_of_ble_eq_true rfl, Nat.le_of_ble_eq_true rfl⟩) [0, 2] [1] [1, 0, 2] rfl rfl rfl rfl (by decide) rfl rfl 2 0 rfl rfl rfl rfl rfl hl.1 (Nat.le_of_ble_eq_true rfl) dX2_letter_7 ⟨Nat.zero_le _, Nat.zero_le _⟩ (fun H locs hP hD hS => ?_)
    obtain rfl := Option.some.inj hf
    exact W.iret (v := q8.1) hx hb hr (fun t ht hW => ⟨⟨q8.1, (), rfl, rfl, rf_mk ht hP hD⟩, hS.F ht⟩) hS.2.2 dX2_letter_10

set_option maxHeartbeats 8000000 in
set_option maxRecDepth 100000 in
theorem c_X2_kindOf (l : Launch) (D : va_G) (cA : ClassId) (ad : Nat → Nat) (sz : Nat) (p0 : Int32) (q : Int32) (hf : f_X2_kindOf p0 = some q) : Met l yX2_kindOf wsX2_kindOf ({ frames := 0, cells := 0, slots := 0, locals := 0 } : Room) (va_Pc [.int p0] (rf_Pre D cA ad [] sz)) (va_Qi (fun (r : Int32) (_ : Unit) => r = q) (fun _ t => rf_Post D (va_A [] sz) [] t) (va_A [] sz)) 0 0 (va_A [] sz) := by
  refine Met.ofW (cc := cX2_kindOf) (maxL := 1) (ret := (some .int)) (by decide) rfl ?_
  intro p e s m args below meth c s₁ B hml hv
  obtain ⟨rfl, hsz, hP, hK, hD0, hE⟩ := hv
  have hx := B.exec
  have hb := B.bytes
  have hr := B.returns
  have hts := atoms_spec (ws := wsX2_kindOf) B.pre
  have hown : s.vm.findClass RX2 = some m.cls := findClass_of_methodNamed B.named
  have hlocks := B.notSynchronized
  subst hsz
  have hD := hD0.self (sz := s.heap.size)
  generalize hAe : va_A [] s.heap.size = A at hD hE ⊢
  have hA : ∀ q : Nat, s.heap.size ≤ q → A q := fun q h => by rw [← hAe]; exact Or.inr h
  have hS : va_S A s.heap s.heap [] := va_S.rf
  have hP : va_P D vwCl [] s.heap := hP
  have hl := lv_entry ([.int p0]) (n := 1) (Nat.le_of_ble_eq_true rfl)
  rw [lg_entry_eq]
  generalize (lg_sl ([.int p0]) ++ List.replicate (1 - (lg_sl ([.int p0])).length) Slot.unset).toArray = ls at hl ⊢
  have hl : lv_has ls 1 [(0, .int p0)] := hl
  rw [f_X2_kindOf] at hf
  refine lv_iload_n hx hb dX2_kindOf_0 rfl (lv_at hl 0 rfl) ?_
  by_cases c1 : p0 = 106
  · have hf := rf_ifp hf c1
    refine rf_tabC (off := 67) (tgt := 68) hx hb dX2_kindOf_1 c1 (by decide) (by decide) (by decide) (by decide) ?_
    refine lv_iconst (v := 4) hx hb dX2_kindOf_68 (by decide) ?_
    obtain rfl := Option.some.inj hf
    exact W.iret (v := 4) hx hb hr (fun t ht hW => ⟨⟨4, (), rfl, rfl, rf_mk ht hP hD⟩, hS.F ht⟩) hS.2.2 dX2_kindOf_69
  · have hf := rf_ifn hf c1
    by_cases c2 : p0 = 107
    · have hf := rf_ifp hf c2
      refine rf_tabC (off := 61) (tgt := 62) hx hb dX2_kindOf_1 c2 (by decide) (by decide) (by decide) (by decide) ?_
      refine lv_iconst (v := 1) hx hb dX2_kindOf_62 (by decide) ?_
      obtain rfl := Option.some.inj hf
      exact W.iret (v := 1) hx hb hr (fun t ht hW => ⟨⟨1, (), rfl, rfl, rf_mk ht hP hD⟩, hS.F ht⟩) hS.2.2 dX2_kindOf_63
    · have hf := rf_ifn hf c2
      by_cases c3 : p0 = 112
      · have hf := rf_ifp hf c3
        refine rf_tabC (off := 59) (tgt := 60) hx hb dX2_kindOf_1 c3 (by decide) (by decide) (by decide) (by decide) ?_
        refine lv_iconst (v := 0) hx hb dX2_kindOf_60 (by decide) ?_
        obtain rfl := Option.some.inj hf
        exact W.iret (v := 0) hx hb hr (fun t ht hW => ⟨⟨0, (), rfl, rfl, rf_mk ht hP hD⟩, hS.F ht⟩) hS.2.2 dX2_kindOf_61
      · have hf := rf_ifn hf c3
        by_cases c4 : p0 = 114
        · have hf := rf_ifp hf c4
          refine rf_tabC (off := 65) (tgt := 66) hx hb dX2_kindOf_1 c4 (by decide) (by decide) (by decide) (by decide) ?_
          refine lv_iconst (v := 3) hx hb dX2_kindOf_66 (by decide) ?_
          obtain rfl := Option.some.inj hf
          exact W.iret (v := 3) hx hb hr (fun t ht hW => ⟨⟨3, (), rfl, rfl, rf_mk ht hP hD⟩, hS.F ht⟩) hS.2.2 dX2_kindOf_67
        · have hf := rf_ifn hf c4
          by_cases c5 : p0 = 115
          · have hf := rf_ifp hf c5
            refine rf_tabC (off := 63) (tgt := 64) hx hb dX2_kindOf_1 c5 (by decide) (by decide) (by decide) (by decide) ?_
            refine lv_iconst (v := 2) hx hb dX2_kindOf_64 (by decide) ?_
            obtain rfl := Option.some.inj hf
            exact W.iret (v := 2) hx hb hr (fun t ht hW => ⟨⟨2, (), rfl, rfl, rf_mk ht hP hD⟩, hS.F ht⟩) hS.2.2 dX2_kindOf_65
          · have hf := rf_ifn hf c5
            by_cases c6 : p0 = 116
            · have hf := rf_ifp hf c6
              refine rf_tabC (off := 69) (tgt := 70) hx hb dX2_kindOf_1 c6 (by decide) (by decide) (by decide) (by decide) ?_
              refine lv_iconst (v := 5) hx hb dX2_kindOf_70 (by decide) ?_
              obtain rfl := Option.some.inj hf
              exact W.iret (v := 5) hx hb hr (fun t ht hW => ⟨⟨5, (), rfl, rfl, rf_mk ht hP hD⟩, hS.F ht⟩) hS.2.2 dX2_kindOf_71
            · have hf := rf_ifn hf c6
              refine rf_tabD (tgt := 72) (ks := [106, 107, 112, 114, 115, 116]) hx hb dX2_kindOf_1 (by intro z hz; simp only [List.mem_cons, List.not_mem_nil, or_false] at hz; rcases hz with rfl | rfl | rfl | rfl | rfl | rfl <;> assumption) (by decide) (by decide) ?_
              refine lv_iconst (v := (-1)) hx hb dX2_kindOf_72 (by decide) ?_
              obtain rfl := Option.some.inj hf
              exact W.iret (v := (-1)) hx hb hr (fun t ht hW => ⟨⟨(-1), (), rfl, rfl, rf_mk ht hP hD⟩, hS.F ht⟩) hS.2.2 dX2_kindOf_73

set_option maxHeartbeats 8000000 in
set_option maxRecDepth 100000 in
theorem c_X2_fits (l : Launch) (D : va_G) (cA : ClassId) (ad : Nat → Nat) (sz : Nat) (p0 p1 p2 p3 : Int32) (q : Int32) (hf : f_X2_fits p0 p1 p2 p3 = some q) : Met l yX2_fits wsX2_fits ({ frames := 1, cells := 0, slots := 0, locals := 20 } : Room) (va_Pc [.int p0, .int p1, .int p2, .int p3] (rf_Pre D cA ad [] sz)) (va_Qi (fun (r : Int32) (_ : Unit) => r = q) (fun _ t => rf_Post D (va_A [] sz) [] t) (va_A [] sz)) 0 0 (va_A [] sz) := by
  refine Met.ofW (cc := cX2_fits) (maxL := 4) (ret := (some .boolean)) (by decide) rfl ?_
  intro p e s m args below meth c s₁ B hml hv
  obtain ⟨rfl, hsz, hP, hK, hD0, hE⟩ := hv
  have hx := B.exec
  have hb := B.bytes
  have hr := B.returns
  have hts := atoms_spec (ws := wsX2_fits) B.pre
  have hown : s.vm.findClass RX2 = some m.cls := findClass_of_methodNamed B.named
  have hlocks := B.notSynchronized
  subst hsz
  have hD := hD0.self (sz := s.heap.size)
  generalize hAe : va_A [] s.heap.size = A at hD hE ⊢
  have hA : ∀ q : Nat, s.heap.size ≤ q → A q := fun q h => by rw [← hAe]; exact Or.inr h
  have hS : va_S A s.heap s.heap [] := va_S.rf
  have hP : va_P D vwCl [] s.heap := hP
  have hl := lv_entry ([.int p0, .int p1, .int p2, .int p3]) (n := 4) (Nat.le_of_ble_eq_true rfl)
  rw [lg_entry_eq]
  generalize (lg_sl ([.int p0, .int p1, .int p2, .int p3]) ++ List.replicate (4 - (lg_sl ([.int p0, .int p1, .int p2, .int p3])).length) Slot.unset).toArray = ls at hl ⊢
  have hl : lv_has ls 4 [(0, .int p0), (1, .int p1), (2, .int p2), (3, .int p3)] := hl
  rw [f_X2_fits] at hf
  refine lv_iload_n hx hb dX2_fits_0 rfl (lv_at hl 1 rfl) ?_
  refine lv_iload_n hx hb dX2_fits_1 rfl (lv_at hl 2 rfl) ?_
  refine lv_iconst (v := 1) hx hb dX2_fits_2 (by decide) ?_
  refine lv_isub hx hb dX2_fits_3 ?_
  refine lv_icmp_ne (tgt := 19) hx hb dX2_fits_4 (by decide) (fun c1 => ?_) (fun c1 => ?_)
  · have hf := rf_ifn hf c1
    refine lv_iload_n hx hb dX2_fits_19 rfl (lv_at hl 0 rfl) ?_
    refine lv_bipush (v := 112) hx hb dX2_fits_20 (by decide) ?_
    refine lv_icmp_ne (tgt := 43) hx hb dX2_fits_22 (by decide) (fun c2 => ?_) (fun c2 => ?_)
    · have hf := rf_ifn hf c2
      refine lv_iload_n hx hb dX2_fits_43 rfl (lv_at hl 3 rfl) ?_
      refine lv_bipush (v := 48) hx hb dX2_fits_44 (by decide) ?_
      refine lv_icmp_lt (tgt := 59) hx hb dX2_fits_46 (by decide) (fun c3 => ?_) (fun c3 => ?_)
      · have hf := rf_ifp hf c3
        refine lv_iconst (v := 0) hx hb dX2_fits_59 (by decide) ?_
        obtain rfl := Option.some.inj hf
        exact W.zret (v := 0) hx hb hr rfl (fun t ht hW => ⟨⟨0, (), rfl, rfl, rf_mk ht hP hD⟩, hS.F ht⟩) hS.2.2 dX2_fits_60
      · have hf := rf_ifn hf c3
        refine lv_iload_n hx hb dX2_fits_49 rfl (lv_at hl 3 rfl) ?_
        refine lv_bipush (v := 57) hx hb dX2_fits_50 (by decide) ?_
        refine lv_icmp_gt (tgt := 59) hx hb dX2_fits_52 (by decide) (fun c4 => ?_) (fun c4 => ?_)
        · have hf := rf_ifp hf c4
          refine lv_iconst (v := 0) hx hb dX2_fits_59 (by decide) ?_
          obtain rfl := Option.some.inj hf
          exact W.zret (v := 0) hx hb hr rfl (fun t ht hW => ⟨⟨0, (), rfl, rfl, rf_mk ht hP hD⟩, hS.F ht⟩) hS.2.2 dX2_fits_60
        · have hf := rf_ifn hf c4
          refine lv_iconst (v := 1) hx hb dX2_fits_55 (by decide) ?_
          refine lv_goto (tgt := 60) hx hb dX2_fits_56 (by decide) ?_
          obtain rfl := Option.some.inj hf
          exact W.zret (v := 1) hx hb hr rfl (fun t ht hW => ⟨⟨1, (), rfl, rfl, rf_mk ht hP hD⟩, hS.F ht⟩) hS.2.2 dX2_fits_60
    · have hf := rf_ifp hf c2
      refine lv_iload_n hx hb dX2_fits_25 rfl (lv_at hl 1 rfl) ?_
      refine lv_iconst (v := 1) hx hb dX2_fits_26 (by decide) ?_
      refine lv_icmp_ne (tgt := 43) hx hb dX2_fits_27 (by decide) (fun c5 => ?_) (fun c5 => ?_)
      · have hf := rf_ifn hf c5
        refine lv_iload_n hx hb dX2_fits_43 rfl (lv_at hl 3 rfl) ?_
        refine lv_bipush (v := 48) hx hb dX2_fits_44 (by decide) ?_
        refine lv_icmp_lt (tgt := 59) hx hb dX2_fits_46 (by decide) (fun c6 => ?_) (fun c6 => ?_)
        · have hf := rf_ifp hf c6
          refine lv_iconst (v := 0) hx hb dX2_fits_59 (by decide) ?_
          obtain rfl := Option.some.inj hf
          exact W.zret (v := 0) hx hb hr rfl (fun t ht hW => ⟨⟨0, (), rfl, rfl, rf_mk ht hP hD⟩, hS.F ht⟩) hS.2.2 dX2_fits_60
        · have hf := rf_ifn hf c6
          refine lv_iload_n hx hb dX2_fits_49 rfl (lv_at hl 3 rfl) ?_
          refine lv_bipush (v := 57) hx hb dX2_fits_50 (by decide) ?_
          refine lv_icmp_gt (tgt := 59) hx hb dX2_fits_52 (by decide) (fun c7 => ?_) (fun c7 => ?_)
          · have hf := rf_ifp hf c7
            refine lv_iconst (v := 0) hx hb dX2_fits_59 (by decide) ?_
            obtain rfl := Option.some.inj hf
            exact W.zret (v := 0) hx hb hr rfl (fun t ht hW => ⟨⟨0, (), rfl, rfl, rf_mk ht hP hD⟩, hS.F ht⟩) hS.2.2 dX2_fits_60
          · have hf := rf_ifn hf c7
            refine lv_iconst (v := 1) hx hb dX2_fits_55 (by decide) ?_
            refine lv_goto (tgt := 60) hx hb dX2_fits_56 (by decide) ?_
            obtain rfl := Option.some.inj hf
            exact W.zret (v := 1) hx hb hr rfl (fun t ht hW => ⟨⟨1, (), rfl, rfl, rf_mk ht hP hD⟩, hS.F ht⟩) hS.2.2 dX2_fits_60
      · have hf := rf_ifp hf c5
        refine lv_iload_n hx hb dX2_fits_30 rfl (lv_at hl 3 rfl) ?_
        obtain ⟨q8, hq8, hf⟩ := rf_bindq hf
        refine rf_Si (As := [.int p3]) (rest := []) (wr := []) (wn := []) ⟨hx, hb, hml, hown, hts⟩ hK hP hD hS hA hE (c_X2_kindOf l D cA ad s.heap.size p3 q8 hq8) (va_cwS 1 hts gX2_fits_X2_kindOf rfl rfl rfl hs_X2_kindOf ⟨Nat.le_of_ble_eq_true rfl, Nat.le_of_ble_eq_true rfl⟩) [] [] [] rfl rfl rfl rfl (by decide) rfl rfl rfl rfl hl.1 (Nat.le_of_ble_eq_true rfl) dX2_fits_31 ⟨Nat.zero_le _, Nat.zero_le _⟩ (fun H locs hP hD hS => ?_)
        refine lv_if_lt (tgt := 41) hx hb dX2_fits_34 (by decide) (fun c9 => ?_) (fun c9 => ?_)
        · have hf := rf_ifp hf c9
          refine lv_iconst (v := 0) hx hb dX2_fits_41 (by decide) ?_
          obtain rfl := Option.some.inj hf
          exact W.zret (v := 0) hx hb hr rfl (fun t ht hW => ⟨⟨0, (), rfl, rfl, rf_mk ht hP hD⟩, hS.F ht⟩) hS.2.2 dX2_fits_42
        · have hf := rf_ifn hf c9
          refine lv_iconst (v := 1) hx hb dX2_fits_37 (by decide) ?_
          refine lv_goto (tgt := 42) hx hb dX2_fits_38 (by decide) ?_
          obtain rfl := Option.some.inj hf
          exact W.zret (v := 1) hx hb hr rfl (fun t ht hW => ⟨⟨1, (), rfl, rfl, rf_mk ht hP hD⟩, hS.F ht⟩) hS.2.2 dX2_fits_42
  · have hf := rf_ifp hf c1
    refine lv_iload_n hx hb dX2_fits_7 rfl (lv_at hl 3 rfl) ?_
    refine lv_bipush (v := 59) hx hb dX2_fits_8 (by decide) ?_
    refine lv_icmp_ne (tgt := 17) hx hb dX2_fits_10 (by decide) (fun c10 => ?_) (fun c10 => ?_)
    · have hf := rf_ifn hf c10
      refine lv_iconst (v := 0) hx hb dX2_fits_17 (by decide) ?_
      obtain rfl := Option.some.inj hf
      exact W.zret (v := 0) hx hb hr rfl (fun t ht hW => ⟨⟨0, (), rfl, rfl, rf_mk ht hP hD⟩, hS.F ht⟩) hS.2.2 dX2_fits_18
    · have hf := rf_ifp hf c10
      refine lv_iconst (v := 1) hx hb dX2_fits_13 (by decide) ?_
      refine lv_goto (tgt := 18) hx hb dX2_fits_14 (by decide) ?_
      obtain rfl := Option.some.inj hf
      exact W.zret (v := 1) hx hb hr rfl (fun t ht hW => ⟨⟨1, (), rfl, rfl, rf_mk ht hP hD⟩, hS.F ht⟩) hS.2.2 dX2_fits_18
theorem kX2_letterAt_0 : (.fieldLink RX2 42 "RingAndFinger" "letterCount" "I" : Cond) ∈ wsX2_letterAt := by decide +kernel
theorem kX2_letterAt_1 : (.fieldLink RX2 29 "RingAndFinger" "letters" "[I" : Cond) ∈ wsX2_letterAt := by decide +kernel
theorem jX2_letterAt_X2 : ∀ w ∈ u_ws RX2 TX2 12, w ∈ wsX2_letterAt := by decide +kernel
set_option maxHeartbeats 8000000 in
set_option maxRecDepth 100000 in
theorem c_X2_letterAt (l : Launch) (D : va_G) (cA : ClassId) (ad : Nat → Nat) (a_this a_this_now a_this_then a_this_trial a_this_search a_this_letters a_this_numbers a_this_thickest a_this_refusals : Nat) (sz : Nat) (g_this f_this_letters : Nat → Int32) (p1 : Int32) (q : Int32) (hf : f_X2_letterAt g_this f_this_letters p1 = some q) : Met l yX2_letterAt wsX2_letterAt ({ frames := 1, cells := 0, slots := 0, locals := 21 } : Room) (va_Pc [.ref a_this, .int p1] (rf_Pre D cA ad [(a_this, .inr (2, rf_o2 a_this_now a_this_then a_this_trial a_this_search a_this_letters a_this_numbers a_this_thickest a_this_refusals g_this)), (a_this_letters, .inl (cA, 96, .inl f_this_letters))] sz)) (va_Qi (fun (r : Int32) (_ : Unit) => r = q) (fun _ t => rf_Post D (va_A [(a_this, .inr (2, rf_o2 a_this_now a_this_then a_this_trial a_this_search a_this_letters a_this_numbers a_this_thickest a_this_refusals g_this)), (a_this_letters, .inl (cA, 96, .inl f_this_letters))] sz) [(a_this, .inr (2, rf_o2 a_this_now a_this_then a_this_trial a_this_search a_this_letters a_this_numbers a_this_thickest a_this_refusals g_this)), (a_this_letters, .inl (cA, 96, .inl f_this_letters))] t) (va_A [(a_this, .inr (2, rf_o2 a_this_now a_this_then a_this_trial a_this_search a_this_letters a_this_numbers a_this_thickest a_this_refusals g_this)), (a_this_letters, .inl (cA, 96, .inl f_this_letters))] sz)) 0 0 (va_A [(a_this, .inr (2, rf_o2 a_this_now a_this_then a_this_trial a_this_search a_this_letters a_this_numbers a_this_thickest a_this_refusals g_this)), (a_this_letters, .inl (cA, 96, .inl f_this_letters))] sz) := by
  refine Met.ofW (cc := cX2_letterAt) (maxL := 2) (ret := (some .int)) (by decide) rfl ?_
  intro p e s m args below meth c s₁ B hml hv
  obtain ⟨rfl, hsz, hP, hK, hD0, hE⟩ := hv
  have hx := B.exec
  have hb := B.bytes
  have hr := B.returns
  have hts := atoms_spec (ws := wsX2_letterAt) B.pre
  have hown : s.vm.findClass RX2 = some m.cls := findClass_of_methodNamed B.named
  have hlocks := B.notSynchronized
  subst hsz
  have hD := hD0.self (sz := s.heap.size)
  generalize hAe : va_A [(a_this, .inr (2, rf_o2 a_this_now a_this_then a_this_trial a_this_search a_this_letters a_this_numbers a_this_thickest a_this_refusals g_this)), (a_this_letters, .inl (cA, 96, .inl f_this_letters))] s.heap.size = A at hD hE ⊢
  have hA : ∀ q : Nat, s.heap.size ≤ q → A q := fun q h => by rw [← hAe]; exact Or.inr h
  have hS : va_S A s.heap s.heap [] := va_S.rf
  have hP : va_P D vwCl [(a_this, .inr (2, rf_o2 a_this_now a_this_then a_this_trial a_this_search a_this_letters a_this_numbers a_this_thickest a_this_refusals g_this)), (a_this_letters, .inl (cA, 96, .inl f_this_letters))] s.heap := hP
  have hl := lv_entry ([.ref a_this, .int p1]) (n := 2) (Nat.le_of_ble_eq_true rfl)
  rw [lg_entry_eq]
  generalize (lg_sl ([.ref a_this, .int p1]) ++ List.replicate (2 - (lg_sl ([.ref a_this, .int p1])).length) Slot.unset).toArray = ls at hl ⊢
  have hl : lv_has ls 2 [(0, .ref a_this), (1, .int p1)] := hl
  rw [f_X2_letterAt] at hf
  refine lv_iload_n hx hb dX2_letterAt_0 rfl (lv_at hl 1 rfl) ?_
  refine lv_aload_n hx hb dX2_letterAt_1 rfl (lv_at hl 0 rfl) ?_
  refine va_get (D := D) (ci := 2) (v := .int (g_this 0)) (C := RX2) (T := TX2) (N := 12) hx hb hts jX2_letterAt_X2 hown hK hP 0 rfl rfl 8 (by decide) (hts _ kX2_letterAt_0) (fun _ h9 => h9) rfl dX2_letterAt_2 ?_
  refine lv_icmp_ge (tgt := 19) hx hb dX2_letterAt_5 (by decide) (fun c1 => ?_) (fun c1 => ?_)
  · have hf := rf_ifp hf c1
    refine lv_iconst (v := (-1)) hx hb dX2_letterAt_19 (by decide) ?_
    obtain rfl := Option.some.inj hf
    exact W.iret (v := (-1)) hx hb hr (fun t ht hW => ⟨⟨(-1), (), rfl, rfl, rf_mk ht hP hD⟩, hS.F ht⟩) hS.2.2 dX2_letterAt_20
  · have hf := rf_ifn hf c1
    refine lv_aload_n hx hb dX2_letterAt_8 rfl (lv_at hl 0 rfl) ?_
    refine va_get (D := D) (ci := 2) (v := .ref a_this_letters) (C := RX2) (T := TX2) (N := 12) hx hb hts jX2_letterAt_X2 hown hK hP 0 rfl rfl 4 (by decide) (hts _ kX2_letterAt_1) (fun _ h9 => h9) rfl dX2_letterAt_9 ?_
    refine lv_iload_n hx hb dX2_letterAt_12 rfl (lv_at hl 1 rfl) ?_
    obtain ⟨q2, hq2, hf⟩ := rf_bindq hf
    refine rf_Si (As := [.ref a_this_letters, .int p1]) (rest := []) (wr := [(a_this, .inr (2, rf_o2 a_this_now a_this_then a_this_trial a_this_search a_this_letters a_this_numbers a_this_thickest a_this_refusals g_this))]) (wn := [(a_this, .inr (2, rf_o2 a_this_now a_this_then a_this_trial a_this_search a_this_letters a_this_numbers a_this_thickest a_this_refusals g_this)), (a_this_letters, .inl (cA, 96, .inl f_this_letters))]) ⟨hx, hb, hml, hown, hts⟩ hK hP hD hS hA hE (c_X2_at l D cA ad a_this_letters s.heap.size 96 f_this_letters p1 q2 hq2) (va_cwS 2 hts gX2_letterAt_X2_at rfl rfl rfl hs_X2_at ⟨Nat.le_of_ble_eq_true rfl, Nat.le_of_ble_eq_true rfl⟩) [1] [0] [0, 1] rfl rfl rfl rfl (by decide) rfl rfl rfl rfl hl.1 (Nat.le_of_ble_eq_true rfl) dX2_letterAt_13 ⟨Nat.zero_le _, Nat.zero_le _⟩ (fun H locs hP hD hS => ?_)
    refine lv_goto (tgt := 20) hx hb dX2_letterAt_16 (by decide) ?_
    obtain rfl := Option.some.inj hf
    exact W.iret (v := q2) hx hb hr (fun t ht hW => ⟨⟨q2, (), rfl, rfl, rf_mk ht hP hD⟩, hS.F ht⟩) hS.2.2 dX2_letterAt_20
