
theorem kX2_on_0 : (.fieldLink RX2 49 "RingAndFinger" "imaged" "Z" : Cond) ∈ wsX2_on := by decide +kernel
theorem kX2_on_1 : (.fieldLink RX2 10 "RingAndFinger" "now" "LRingAndFinger$Finger;" : Cond) ∈ wsX2_on := by decide +kernel
theorem kX2_on_2 : (.fieldLink RX2 16 "RingAndFinger" "then" "LRingAndFinger$Finger;" : Cond) ∈ wsX2_on := by decide +kernel
theorem kX2_on_3 : (.fieldLink RX2 136 "RingAndFinger$Finger" "minute" "I" : Cond) ∈ wsX2_on := by decide +kernel
theorem jX2_on_X2 : ∀ w ∈ u_ws RX2 TX2 12, w ∈ wsX2_on := by decide +kernel
theorem jX2_on_X0 : ∀ w ∈ u_ws RX0 TX0 12, w ∈ wsX2_on := by decide +kernel
set_option maxHeartbeats 8000000 in
set_option maxRecDepth 100000 in
theorem c_X2_on (l : Launch) (D : va_G) (cA : ClassId) (ad : Nat → Nat) (a_this a_this_now a_this_then a_this_trial a_this_search a_this_letters a_this_numbers a_this_thickest a_this_refusals a_this_now_kinds a_this_now_thicks a_this_then_kinds a_this_then_thicks : Nat) (sz : Nat) (g_this g_this_now f_this_now_kinds f_this_now_thicks g_this_then f_this_then_kinds f_this_then_thicks f_this_refusals : Nat → Int32) (q : Int32 × (Nat → Int32) × (Nat → Int32) × (Nat → Int32) × (Nat → Int32)) (hf : f_X2_on g_this g_this_now f_this_now_kinds f_this_now_thicks g_this_then f_this_then_kinds f_this_then_thicks f_this_refusals = some q) : Met l yX2_on wsX2_on ({ frames := 2, cells := 0, slots := 0, locals := 81 } : Room) (va_Pc [.ref a_this] (rf_Pre D cA ad [(a_this, .inr (2, rf_o2 a_this_now a_this_then a_this_trial a_this_search a_this_letters a_this_numbers a_this_thickest a_this_refusals g_this)), (a_this_now, .inr (0, rf_o0 a_this_now_kinds a_this_now_thicks g_this_now)), (a_this_now_kinds, .inl (cA, 6, .inl f_this_now_kinds)), (a_this_now_thicks, .inl (cA, 6, .inl f_this_now_thicks)), (a_this_then, .inr (0, rf_o0 a_this_then_kinds a_this_then_thicks g_this_then)), (a_this_then_kinds, .inl (cA, 6, .inl f_this_then_kinds)), (a_this_then_thicks, .inl (cA, 6, .inl f_this_then_thicks)), (a_this_refusals, .inl (cA, 7, .inl f_this_refusals))] sz)) (va_Qi (fun (r : Int32) (_ : Unit) => r = q.1) (fun _ t => rf_Post D (va_A [(a_this, .inr (2, rf_o2 a_this_now a_this_then a_this_trial a_this_search a_this_letters a_this_numbers a_this_thickest a_this_refusals g_this)), (a_this_now, .inr (0, rf_o0 a_this_now_kinds a_this_now_thicks g_this_now)), (a_this_now_kinds, .inl (cA, 6, .inl f_this_now_kinds)), (a_this_now_thicks, .inl (cA, 6, .inl f_this_now_thicks)), (a_this_then, .inr (0, rf_o0 a_this_then_kinds a_this_then_thicks g_this_then)), (a_this_then_kinds, .inl (cA, 6, .inl f_this_then_kinds)), (a_this_then_thicks, .inl (cA, 6, .inl f_this_then_thicks)), (a_this_refusals, .inl (cA, 7, .inl f_this_refusals))] sz) [(a_this, .inr (2, rf_o2 a_this_now a_this_then a_this_trial a_this_search a_this_letters a_this_numbers a_this_thickest a_this_refusals g_this)), (a_this_now, .inr (0, rf_o0 a_this_now_kinds a_this_now_thicks q.2.1)), (a_this_now_kinds, .inl (cA, 6, .inl q.2.2.1)), (a_this_now_thicks, .inl (cA, 6, .inl q.2.2.2.1)), (a_this_then, .inr (0, rf_o0 a_this_then_kinds a_this_then_thicks g_this_then)), (a_this_then_kinds, .inl (cA, 6, .inl f_this_then_kinds)), (a_this_then_thicks, .inl (cA, 6, .inl f_this_then_thicks)), (a_this_refusals, .inl (cA, 7, .inl q.2.2.2.2))] t) (va_A [(a_this, .inr (2, rf_o2 a_this_now a_this_then a_this_trial a_this_search a_this_letters a_this_numbers a_this_thickest a_this_refusals g_this)), (a_this_now, .inr (0, rf_o0 a_this_now_kinds a_this_now_thicks g_this_now)), (a_this_now_kinds, .inl (cA, 6, .inl f_this_now_kinds)), (a_this_now_thicks, .inl (cA, 6, .inl f_this_now_thicks)), (a_this_then, .inr (0, rf_o0 a_this_then_kinds a_this_then_thicks g_this_then)), (a_this_then_kinds, .inl (cA, 6, .inl f_this_then_kinds)), (a_this_then_thicks, .inl (cA, 6, .inl f_this_then_thicks)), (a_this_refusals, .inl (cA, 7, .inl f_this_refusals))] sz)) 0 0 (va_A [(a_this, .inr (2, rf_o2 a_this_now a_this_then a_this_trial a_this_search a_this_letters a_this_numbers a_this_thickest a_this_refusals g_this)), (a_this_now, .inr (0, rf_o0 a_this_now_kinds a_this_now_thicks g_this_now)), (a_this_now_kinds, .inl (cA, 6, .inl f_this_now_kinds)), (a_this_now_thicks, .inl (cA, 6, .inl f_this_now_thicks)), (a_this_then, .inr (0, rf_o0 a_this_then_kinds a_this_then_thicks g_this_then)), (a_this_then_kinds, .inl (cA, 6, .inl f_this_then_kinds)), (a_this_then_thicks, .inl (cA, 6, .inl f_this_then_thicks)), (a_this_refusals, .inl (cA, 7, .inl f_this_refusals))] sz) := by
  refine Met.ofW (cc := cX2_on) (maxL := 1) (ret := (some .int)) (by decide) rfl ?_
  intro p e s m args below meth c s₁ B hml hv
  obtain ⟨rfl, hsz, hP, hK, hD0, hE⟩ := hv
  have hx := B.exec
  have hb := B.bytes
  have hr := B.returns
  have hts := atoms_spec (ws := wsX2_on) B.pre
  have hown : s.vm.findClass RX2 = some m.cls := findClass_of_methodNamed B.named
  have hlocks := B.notSynchronized
  subst hsz
  have hD := hD0.self (sz := s.heap.size)
  generalize hAe : va_A [(a_this, .inr (2, rf_o2 a_this_now a_this_then a_this_trial a_this_search a_this_letters a_this_numbers a_this_thickest a_this_refusals g_this)), (a_this_now, .inr (0, rf_o0 a_this_now_kinds a_this_now_thicks g_this_now)), (a_this_now_kinds, .inl (cA, 6, .inl f_this_now_kinds)), (a_this_now_thicks, .inl (cA, 6, .inl f_this_now_thicks)), (a_this_then, .inr (0, rf_o0 a_this_then_kinds a_this_then_thicks g_this_then)), (a_this_then_kinds, .inl (cA, 6, .inl f_this_then_kinds)), (a_this_then_thicks, .inl (cA, 6, .inl f_this_then_thicks)), (a_this_refusals, .inl (cA, 7, .inl f_this_refusals))] s.heap.size = A at hD hE ⊢
  have hA : ∀ q : Nat, s.heap.size ≤ q → A q := fun q h => by rw [← hAe]; exact Or.inr h
  have hS : va_S A s.heap s.heap [] := va_S.rf
  have hP : va_P D vwCl [(a_this, .inr (2, rf_o2 a_this_now a_this_then a_this_trial a_this_search a_this_letters a_this_numbers a_this_thickest a_this_refusals g_this)), (a_this_now, .inr (0, rf_o0 a_this_now_kinds a_this_now_thicks g_this_now)), (a_this_now_kinds, .inl (cA, 6, .inl f_this_now_kinds)), (a_this_now_thicks, .inl (cA, 6, .inl f_this_now_thicks)), (a_this_then, .inr (0, rf_o0 a_this_then_kinds a_this_then_thicks g_this_then)), (a_this_then_kinds, .inl (cA, 6, .inl f_this_then_kinds)), (a_this_then_thicks, .inl (cA, 6, .inl f_this_then_thicks)), (a_this_refusals, .inl (cA, 7, .inl f_this_refusals))] s.heap := hP
  have hl := lv_entry ([.ref a_this]) (n := 1) (Nat.le_of_ble_eq_true rfl)
  rw [lg_entry_eq]
  generalize (lg_sl ([.ref a_this]) ++ List.replicate (1 - (lg_sl ([.ref a_this])).length) Slot.unset).toArray = ls at hl ⊢
  have hl : lv_has ls 1 [(0, .ref a_this)] := hl
  rw [f_X2_on] at hf
  refine lv_aload_n hx hb dX2_on_0 rfl (lv_at hl 0 rfl) ?_
  refine va_get (D := D) (ci := 2) (v := .int (g_this 2)) (C := RX2) (T := TX2) (N := 12) hx hb hts jX2_on_X2 hown hK hP 0 rfl rfl 10 (by decide) (hts _ kX2_on_0) (fun _ h9 => h9) rfl dX2_on_1 ?_
  refine lv_if_ne (tgt := 14) hx hb dX2_on_4 (by decide) (fun c1 => ?_) (fun c1 => ?_)
  · have hf := rf_ifn hf c1
    refine lv_aload_n hx hb dX2_on_14 rfl (lv_at hl 0 rfl) ?_
    refine va_get (D := D) (ci := 2) (v := .ref a_this_now) (C := RX2) (T := TX2) (N := 12) hx hb hts jX2_on_X2 hown hK hP 0 rfl rfl 0 (by decide) (hts _ kX2_on_1) (fun _ h9 => h9) rfl dX2_on_15 ?_
    refine lv_aload_n hx hb dX2_on_18 rfl (lv_at hl 0 rfl) ?_
    refine va_get (D := D) (ci := 2) (v := .ref a_this_then) (C := RX2) (T := TX2) (N := 12) hx hb hts jX2_on_X2 hown hK hP 0 rfl rfl 1 (by decide) (hts _ kX2_on_2) (fun _ h9 => h9) rfl dX2_on_19 ?_
    obtain ⟨q2, hq2, hf⟩ := rf_bindq hf
    refine rf_Vv (As := [.ref a_this_then]) (rest := []) (wr := [(a_this, .inr (2, rf_o2 a_this_now a_this_then a_this_trial a_this_search a_this_letters a_this_numbers a_this_thickest a_this_refusals g_this)), (a_this_refusals, .inl (cA, 7, .inl f_this_refusals))]) (wn := [(a_this, .inr (2, rf_o2 a_this_now a_this_then a_this_trial a_this_search a_this_letters a_this_numbers a_this_thickest a_this_refusals g_this)), (a_this_now, .inr (0, rf_o0 a_this_now_kinds a_this_now_thicks q2.1)), (a_this_now_kinds, .inl (cA, 6, .inl q2.2.1)), (a_this_now_thicks, .inl (cA, 6, .inl q2.2.2)), (a_this_then, .inr (0, rf_o0 a_this_then_kinds a_this_then_thicks g_this_then)), (a_this_then_kinds, .inl (cA, 6, .inl f_this_then_kinds)), (a_this_then_thicks, .inl (cA, 6, .inl f_this_then_thicks)), (a_this_refusals, .inl (cA, 7, .inl f_this_refusals))]) ⟨hx, hb, hml, hown, hts⟩ hK hP hD hS hA hE (c_X0_copyFrom l D cA ad a_this_now a_this_now_kinds a_this_now_thicks a_this_then a_this_then_kinds a_this_then_thicks s.heap.size g_this_now f_this_now_kinds f_this_now_thicks g_this_then f_this_then_kinds f_this_then_thicks q2 hq2) (cwV 1 hts gX2_on_X0_copyFrom rfl rfl rfl hv_X0_copyFrom ⟨Nat.le_of_ble_eq_true rfl, Nat.le_of_ble_eq_true rfl⟩) [1, 2, 3, 4, 5, 6] [0, 7] [0, 2, 3, 4, 5, 6, 7, 1] rfl rfl rfl rfl (by decide) rfl rfl 0 1 rfl rfl rfl rfl rfl hl.1 (Nat.le_of_ble_eq_true rfl) dX2_on_22 ⟨Nat.zero_le _, Nat.zero_le _⟩ (fun H locs hP hD hS => ?_)
    refine lv_aload_n hx hb dX2_on_25 rfl (lv_at hl 0 rfl) ?_
    refine va_get (D := D) (ci := 2) (v := .ref a_this_now) (C := RX2) (T := TX2) (N := 12) hx hb hts jX2_on_X2 hown hK hP 0 rfl rfl 0 (by decide) (hts _ kX2_on_1) (fun _ h9 => h9) rfl dX2_on_26 ?_
    refine va_get (D := D) (ci := 0) (v := .int (q2.1 8)) (C := RX0) (T := TX0) (N := 12) hx hb hts jX2_on_X0 hown hK hP 1 rfl rfl 10 (by decide) (hts _ kX2_on_3) (fun _ h9 => h9) rfl dX2_on_29 ?_
    obtain rfl := Option.some.inj hf
    exact W.iret (v := (q2.1 8)) hx hb hr (fun t ht hW => ⟨⟨(q2.1 8), (), rfl, rfl, rf_mk ht hP hD⟩, hS.F ht⟩) hS.2.2 dX2_on_32
  · have hf := rf_ifp hf c1
    refine lv_aload_n hx hb dX2_on_7 rfl (lv_at hl 0 rfl) ?_
    refine lv_bipush (v := (-3)) hx hb dX2_on_8 (by decide) ?_
    obtain ⟨q3, hq3, hf⟩ := rf_bindq hf
    refine rf_Vi (As := [.int (-3)]) (rest := []) (wr := [(a_this_now, .inr (0, rf_o0 a_this_now_kinds a_this_now_thicks g_this_now)), (a_this_now_kinds, .inl (cA, 6, .inl f_this_now_kinds)), (a_this_now_thicks, .inl (cA, 6, .inl f_this_now_thicks)), (a_this_then, .inr (0, rf_o0 a_this_then_kinds a_this_then_thicks g_this_then)), (a_this_then_kinds, .inl (cA, 6, .inl f_this_then_kinds)), (a_this_then_thicks, .inl (cA, 6, .inl f_this_then_thicks))]) (wn := [(a_this, .inr (2, rf_o2 a_this_now a_this_then a_this_trial a_this_search a_this_letters a_this_numbers a_this_thickest a_this_refusals g_this)), (a_this_now, .inr (0, rf_o0 a_this_now_kinds a_this_now_thicks g_this_now)), (a_this_now_kinds, .inl (cA, 6, .inl f_this_now_kinds)), (a_this_now_thicks, .inl (cA, 6, .inl f_this_now_thicks)), (a_this_then, .inr (0, rf_o0 a_this_then_kinds a_this_then_thicks g_this_then)), (a_this_then_kinds, .inl (cA, 6, .inl f_this_then_kinds)), (a_this_then_thicks, .inl (cA, 6, .inl f_this_then_thicks)), (a_this_refusals, .inl (cA, 7, .inl q3.2))]) ⟨hx, hb, hml, hown, hts⟩ hK hP hD hS hA hE (c_X2_refuse l D cA ad a_this a_this_now a_this_then a_this_trial a_this_search a_this_letters a_this_numbers a_this_thickest a_this_refusals s.heap.size g_this f_this_refusals (-3) q3 hq3) (cwV 1 hts gX2_on_X2_refuse rfl rfl rfl hv_X2_refuse ⟨Nat.le_of_ble_eq_true rfl, Nat.le_of_ble_eq_true rfl⟩) [0, 7] [1, 2, 3, 4, 5, 6] [6, 0, 1, 2, 3, 4, 5, 7] rfl rfl rfl rfl (by decide) rfl rfl 2 0 rfl rfl rfl rfl rfl hl.1 (Nat.le_of_ble_eq_true rfl) dX2_on_10 ⟨Nat.zero_le _, Nat.zero_le _⟩ (fun H locs hP hD hS => ?_)
    obtain rfl := Option.some.inj hf
    exact W.iret (v := q3.1) hx hb hr (fun t ht hW => ⟨⟨q3.1, (), rfl, rfl, rf_mk ht hP hD⟩, hS.F ht⟩) hS.2.2 dX2_on_13
theorem kX2_count_0 : (.fieldLink RX2 10 "RingAndFinger" "now" "LRingAndFinger$Finger;" : Cond) ∈ wsX2_count := by decide +kernel
theorem kX2_count_1 : (.fieldLink RX2 71 "RingAndFinger$Finger" "parts" "I" : Cond) ∈ wsX2_count := by decide +kernel
theorem kX2_count_2 : (.fieldLink RX2 100 "RingAndFinger$Finger" "front" "I" : Cond) ∈ wsX2_count := by decide +kernel
theorem kX2_count_3 : (.fieldLink RX2 214 "RingAndFinger$Finger" "swell" "I" : Cond) ∈ wsX2_count := by decide +kernel
theorem kX2_count_4 : (.fieldLink RX2 235 "RingAndFinger$Finger" "cold" "I" : Cond) ∈ wsX2_count := by decide +kernel
theorem kX2_count_5 : (.fieldLink RX2 167 "RingAndFinger$Finger" "blue" "I" : Cond) ∈ wsX2_count := by decide +kernel
theorem kX2_count_6 : (.fieldLink RX2 136 "RingAndFinger$Finger" "minute" "I" : Cond) ∈ wsX2_count := by decide +kernel
theorem kX2_count_7 : (.fieldLink RX2 238 "RingAndFinger$Finger" "harm" "I" : Cond) ∈ wsX2_count := by decide +kernel
theorem kX2_count_8 : (.fieldLink RX2 146 "RingAndFinger$Finger" "size" "I" : Cond) ∈ wsX2_count := by decide +kernel
theorem kX2_count_9 : (.fieldLink RX2 46 "RingAndFinger" "numberCount" "I" : Cond) ∈ wsX2_count := by decide +kernel
theorem kX2_count_10 : (.fieldLink RX2 42 "RingAndFinger" "letterCount" "I" : Cond) ∈ wsX2_count := by decide +kernel
theorem kX2_count_11 : (.fieldLink RX2 241 "RingAndFinger$Finger" "heat" "I" : Cond) ∈ wsX2_count := by decide +kernel
theorem kX2_count_12 : (.fieldLink RX2 107 "RingAndFinger$Finger" "broad" "I" : Cond) ∈ wsX2_count := by decide +kernel
theorem kX2_count_13 : (.fieldLink RX2 39 "RingAndFinger" "refusals" "[I" : Cond) ∈ wsX2_count := by decide +kernel
theorem jX2_count_X2 : ∀ w ∈ u_ws RX2 TX2 12, w ∈ wsX2_count := by decide +kernel
theorem jX2_count_X0 : ∀ w ∈ u_ws RX0 TX0 12, w ∈ wsX2_count := by decide +kernel
set_option maxHeartbeats 8000000 in
set_option maxRecDepth 100000 in
theorem c_X2_count (l : Launch) (D : va_G) (cA : ClassId) (ad : Nat → Nat) (a_this a_this_now a_this_then a_this_trial a_this_search a_this_letters a_this_numbers a_this_thickest a_this_refusals a_this_now_kinds a_this_now_thicks : Nat) (sz : Nat) (g_this g_this_now f_this_refusals : Nat → Int32) (p1 : Int32) (q : Int32) (hf : f_X2_count g_this g_this_now f_this_refusals p1 = some q) : Met l yX2_count wsX2_count ({ frames := 1, cells := 0, slots := 0, locals := 21 } : Room) (va_Pc [.ref a_this, .int p1] (rf_Pre D cA ad [(a_this, .inr (2, rf_o2 a_this_now a_this_then a_this_trial a_this_search a_this_letters a_this_numbers a_this_thickest a_this_refusals g_this)), (a_this_now, .inr (0, rf_o0 a_this_now_kinds a_this_now_thicks g_this_now)), (a_this_refusals, .inl (cA, 7, .inl f_this_refusals))] sz)) (va_Qi (fun (r : Int32) (_ : Unit) => r = q) (fun _ t => rf_Post D (va_A [(a_this, .inr (2, rf_o2 a_this_now a_this_then a_this_trial a_this_search a_this_letters a_this_numbers a_this_thickest a_this_refusals g_this)), (a_this_now, .inr (0, rf_o0 a_this_now_kinds a_this_now_thicks g_this_now)), (a_this_refusals, .inl (cA, 7, .inl f_this_refusals))] sz) [(a_this, .inr (2, rf_o2 a_this_now a_this_then a_this_trial a_this_search a_this_letters a_this_numbers a_this_thickest a_this_refusals g_this)), (a_this_now, .inr (0, rf_o0 a_this_now_kinds a_this_now_thicks g_this_now)), (a_this_refusals, .inl (cA, 7, .inl f_this_refusals))] t) (va_A [(a_this, .inr (2, rf_o2 a_this_now a_this_then a_this_trial a_this_search a_this_letters a_this_numbers a_this_thickest a_this_refusals g_this)), (a_this_now, .inr (0, rf_o0 a_this_now_kinds a_this_now_thicks g_this_now)), (a_this_refusals, .inl (cA, 7, .inl f_this_refusals))] sz)) 0 0 (va_A [(a_this, .inr (2, rf_o2 a_this_now a_this_then a_this_trial a_this_search a_this_letters a_this_numbers a_this_thickest a_this_refusals g_this)), (a_this_now, .inr (0, rf_o0 a_this_now_kinds a_this_now_thicks g_this_now)), (a_this_refusals, .inl (cA, 7, .inl f_this_refusals))] sz) := by
  refine Met.ofW (cc := cX2_count) (maxL := 2) (ret := (some .int)) (by decide) rfl ?_
  intro p e s m args below meth c s₁ B hml hv
  obtain ⟨rfl, hsz, hP, hK, hD0, hE⟩ := hv
  have hx := B.exec
  have hb := B.bytes
  have hr := B.returns
  have hts := atoms_spec (ws := wsX2_count) B.pre
  have hown : s.vm.findClass RX2 = some m.cls := findClass_of_methodNamed B.named
  have hlocks := B.notSynchronized
  subst hsz
  have hD := hD0.self (sz := s.heap.size)
  generalize hAe : va_A [(a_this, .inr (2, rf_o2 a_this_now a_this_then a_this_trial a_this_search a_this_letters a_this_numbers a_this_thickest a_this_refusals g_this)), (a_this_now, .inr (0, rf_o0 a_this_now_kinds a_this_now_thicks g_this_now)), (a_this_refusals, .inl (cA, 7, .inl f_this_refusals))] s.heap.size = A at hD hE ⊢
  have hA : ∀ q : Nat, s.heap.size ≤ q → A q := fun q h => by rw [← hAe]; exact Or.inr h
  have hS : va_S A s.heap s.heap [] := va_S.rf
  have hP : va_P D vwCl [(a_this, .inr (2, rf_o2 a_this_now a_this_then a_this_trial a_this_search a_this_letters a_this_numbers a_this_thickest a_this_refusals g_this)), (a_this_now, .inr (0, rf_o0 a_this_now_kinds a_this_now_thicks g_this_now)), (a_this_refusals, .inl (cA, 7, .inl f_this_refusals))] s.heap := hP
  have hl := lv_entry ([.ref a_this, .int p1]) (n := 2) (Nat.le_of_ble_eq_true rfl)
  rw [lg_entry_eq]
  generalize (lg_sl ([.ref a_this, .int p1]) ++ List.replicate (2 - (lg_sl ([.ref a_this, .int p1])).length) Slot.unset).toArray = ls at hl ⊢
  have hl : lv_has ls 2 [(0, .ref a_this), (1, .int p1)] := hl
  rw [f_X2_count] at hf
  refine lv_iload_n hx hb dX2_count_0 rfl (lv_at hl 1 rfl) ?_
  refine lv_bipush (v := 10) hx hb dX2_count_1 (by decide) ?_
  refine lv_icmp_le (tgt := 24) hx hb dX2_count_3 (by decide) (fun c1 => ?_) (fun c1 => ?_)
  · have hf := rf_ifp hf c1
    refine lv_iload_n hx hb dX2_count_24 rfl (lv_at hl 1 rfl) ?_
    by_cases c2 : p1 = 0
    · have hf := rf_ifp hf c2
      refine rf_tabC (off := 87) (tgt := 112) hx hb dX2_count_25 c2 (by decide) (by decide) (by decide) (by decide) ?_
      refine lv_aload_n hx hb dX2_count_112 rfl (lv_at hl 0 rfl) ?_
      refine va_get (D := D) (ci := 2) (v := .ref a_this_now) (C := RX2) (T := TX2) (N := 12) hx hb hts jX2_count_X2 hown hK hP 0 rfl rfl 0 (by decide) (hts _ kX2_count_0) (fun _ h9 => h9) rfl dX2_count_113 ?_
      refine va_get (D := D) (ci := 0) (v := .int (g_this_now 0)) (C := RX0) (T := TX0) (N := 12) hx hb hts jX2_count_X0 hown hK hP 1 rfl rfl 2 (by decide) (hts _ kX2_count_1) (fun _ h9 => h9) rfl dX2_count_116 ?_
      obtain rfl := Option.some.inj hf
      exact W.iret (v := (g_this_now 0)) hx hb hr (fun t ht hW => ⟨⟨(g_this_now 0), (), rfl, rfl, rf_mk ht hP hD⟩, hS.F ht⟩) hS.2.2 dX2_count_119
    · have hf := rf_ifn hf c2
      by_cases c3 : p1 = 1
      · have hf := rf_ifp hf c3
        refine rf_tabC (off := 95) (tgt := 120) hx hb dX2_count_25 c3 (by decide) (by decide) (by decide) (by decide) ?_
        refine lv_aload_n hx hb dX2_count_120 rfl (lv_at hl 0 rfl) ?_
        refine va_get (D := D) (ci := 2) (v := .ref a_this_now) (C := RX2) (T := TX2) (N := 12) hx hb hts jX2_count_X2 hown hK hP 0 rfl rfl 0 (by decide) (hts _ kX2_count_0) (fun _ h9 => h9) rfl dX2_count_121 ?_
        refine va_get (D := D) (ci := 0) (v := .int (g_this_now 3)) (C := RX0) (T := TX0) (N := 12) hx hb hts jX2_count_X0 hown hK hP 1 rfl rfl 5 (by decide) (hts _ kX2_count_2) (fun _ h9 => h9) rfl dX2_count_124 ?_
        obtain rfl := Option.some.inj hf
        exact W.iret (v := (g_this_now 3)) hx hb hr (fun t ht hW => ⟨⟨(g_this_now 3), (), rfl, rfl, rf_mk ht hP hD⟩, hS.F ht⟩) hS.2.2 dX2_count_127
      · have hf := rf_ifn hf c3
        by_cases c4 : p1 = 2
        · have hf := rf_ifp hf c4
          refine rf_tabC (off := 103) (tgt := 128) hx hb dX2_count_25 c4 (by decide) (by decide) (by decide) (by decide) ?_
          refine lv_aload_n hx hb dX2_count_128 rfl (lv_at hl 0 rfl) ?_
          refine va_get (D := D) (ci := 2) (v := .ref a_this_now) (C := RX2) (T := TX2) (N := 12) hx hb hts jX2_count_X2 hown hK hP 0 rfl rfl 0 (by decide) (hts _ kX2_count_0) (fun _ h9 => h9) rfl dX2_count_129 ?_
          refine va_get (D := D) (ci := 0) (v := .int (g_this_now 4)) (C := RX0) (T := TX0) (N := 12) hx hb hts jX2_count_X0 hown hK hP 1 rfl rfl 6 (by decide) (hts _ kX2_count_3) (fun _ h9 => h9) rfl dX2_count_132 ?_
          obtain rfl := Option.some.inj hf
          exact W.iret (v := (g_this_now 4)) hx hb hr (fun t ht hW => ⟨⟨(g_this_now 4), (), rfl, rfl, rf_mk ht hP hD⟩, hS.F ht⟩) hS.2.2 dX2_count_135
        · have hf := rf_ifn hf c4
          by_cases c5 : p1 = 3
          · have hf := rf_ifp hf c5
            refine rf_tabC (off := 111) (tgt := 136) hx hb dX2_count_25 c5 (by decide) (by decide) (by decide) (by decide) ?_
            refine lv_aload_n hx hb dX2_count_136 rfl (lv_at hl 0 rfl) ?_
            refine va_get (D := D) (ci := 2) (v := .ref a_this_now) (C := RX2) (T := TX2) (N := 12) hx hb hts jX2_count_X2 hown hK hP 0 rfl rfl 0 (by decide) (hts _ kX2_count_0) (fun _ h9 => h9) rfl dX2_count_137 ?_
            refine va_get (D := D) (ci := 0) (v := .int (g_this_now 5)) (C := RX0) (T := TX0) (N := 12) hx hb hts jX2_count_X0 hown hK hP 1 rfl rfl 7 (by decide) (hts _ kX2_count_4) (fun _ h9 => h9) rfl dX2_count_140 ?_
            obtain rfl := Option.some.inj hf
            exact W.iret (v := (g_this_now 5)) hx hb hr (fun t ht hW => ⟨⟨(g_this_now 5), (), rfl, rfl, rf_mk ht hP hD⟩, hS.F ht⟩) hS.2.2 dX2_count_143
          · have hf := rf_ifn hf c5
            by_cases c6 : p1 = 4
            · have hf := rf_ifp hf c6
              refine rf_tabC (off := 119) (tgt := 144) hx hb dX2_count_25 c6 (by decide) (by decide) (by decide) (by decide) ?_
              refine lv_aload_n hx hb dX2_count_144 rfl (lv_at hl 0 rfl) ?_
              refine va_get (D := D) (ci := 2) (v := .ref a_this_now) (C := RX2) (T := TX2) (N := 12) hx hb hts jX2_count_X2 hown hK hP 0 rfl rfl 0 (by decide) (hts _ kX2_count_0) (fun _ h9 => h9) rfl dX2_count_145 ?_
              refine va_get (D := D) (ci := 0) (v := .int (g_this_now 6)) (C := RX0) (T := TX0) (N := 12) hx hb hts jX2_count_X0 hown hK hP 1 rfl rfl 8 (by decide) (hts _ kX2_count_5) (fun _ h9 => h9) rfl dX2_count_148 ?_
              obtain rfl := Option.some.inj hf
              exact W.iret (v := (g_this_now 6)) hx hb hr (fun t ht hW => ⟨⟨(g_this_now 6), (), rfl, rfl, rf_mk ht hP hD⟩, hS.F ht⟩) hS.2.2 dX2_count_151
            · have hf := rf_ifn hf c6
              by_cases c7 : p1 = 5
              · have hf := rf_ifp hf c7
                refine rf_tabC (off := 127) (tgt := 152) hx hb dX2_count_25 c7 (by decide) (by decide) (by decide) (by decide) ?_
                refine lv_aload_n hx hb dX2_count_152 rfl (lv_at hl 0 rfl) ?_
                refine va_get (D := D) (ci := 2) (v := .ref a_this_now) (C := RX2) (T := TX2) (N := 12) hx hb hts jX2_count_X2 hown hK hP 0 rfl rfl 0 (by decide) (hts _ kX2_count_0) (fun _ h9 => h9) rfl dX2_count_153 ?_
                refine va_get (D := D) (ci := 0) (v := .int (g_this_now 8)) (C := RX0) (T := TX0) (N := 12) hx hb hts jX2_count_X0 hown hK hP 1 rfl rfl 10 (by decide) (hts _ kX2_count_6) (fun _ h9 => h9) rfl dX2_count_156 ?_
                obtain rfl := Option.some.inj hf
                exact W.iret (v := (g_this_now 8)) hx hb hr (fun t ht hW => ⟨⟨(g_this_now 8), (), rfl, rfl, rf_mk ht hP hD⟩, hS.F ht⟩) hS.2.2 dX2_count_159
              · have hf := rf_ifn hf c7
                by_cases c8 : p1 = 6
                · have hf := rf_ifp hf c8
                  refine rf_tabC (off := 135) (tgt := 160) hx hb dX2_count_25 c8 (by decide) (by decide) (by decide) (by decide) ?_
                  refine lv_aload_n hx hb dX2_count_160 rfl (lv_at hl 0 rfl) ?_
                  refine va_get (D := D) (ci := 2) (v := .ref a_this_now) (C := RX2) (T := TX2) (N := 12) hx hb hts jX2_count_X2 hown hK hP 0 rfl rfl 0 (by decide) (hts _ kX2_count_0) (fun _ h9 => h9) rfl dX2_count_161 ?_
                  refine va_get (D := D) (ci := 0) (v := .int (g_this_now 9)) (C := RX0) (T := TX0) (N := 12) hx hb hts jX2_count_X0 hown hK hP 1 rfl rfl 11 (by decide) (hts _ kX2_count_7) (fun _ h9 => h9) rfl dX2_count_164 ?_
                  obtain rfl := Option.some.inj hf
                  exact W.iret (v := (g_this_now 9)) hx hb hr (fun t ht hW => ⟨⟨(g_this_now 9), (), rfl, rfl, rf_mk ht hP hD⟩, hS.F ht⟩) hS.2.2 dX2_count_167
                · have hf := rf_ifn hf c8
                  by_cases c9 : p1 = 7
                  · have hf := rf_ifp hf c9
                    refine rf_tabC (off := 143) (tgt := 168) hx hb dX2_count_25 c9 (by decide) (by decide) (by decide) (by decide) ?_
                    refine lv_aload_n hx hb dX2_count_168 rfl (lv_at hl 0 rfl) ?_
                    refine va_get (D := D) (ci := 2) (v := .ref a_this_now) (C := RX2) (T := TX2) (N := 12) hx hb hts jX2_count_X2 hown hK hP 0 rfl rfl 0 (by decide) (hts _ kX2_count_0) (fun _ h9 => h9) rfl dX2_count_169 ?_
                    refine va_get (D := D) (ci := 0) (v := .int (g_this_now 1)) (C := RX0) (T := TX0) (N := 12) hx hb hts jX2_count_X0 hown hK hP 1 rfl rfl 3 (by decide) (hts _ kX2_count_8) (fun _ h9 => h9) rfl dX2_count_172 ?_
                    obtain rfl := Option.some.inj hf
                    exact W.iret (v := (g_this_now 1)) hx hb hr (fun t ht hW => ⟨⟨(g_this_now 1), (), rfl, rfl, rf_mk ht hP hD⟩, hS.F ht⟩) hS.2.2 dX2_count_175
                  · have hf := rf_ifn hf c9
                    by_cases c10 : p1 = 8
                    · have hf := rf_ifp hf c10
                      refine rf_tabC (off := 151) (tgt := 176) hx hb dX2_count_25 c10 (by decide) (by decide) (by decide) (by decide) ?_
                      refine lv_aload_n hx hb dX2_count_176 rfl (lv_at hl 0 rfl) ?_
                      refine va_get (D := D) (ci := 2) (v := .int (g_this 1)) (C := RX2) (T := TX2) (N := 12) hx hb hts jX2_count_X2 hown hK hP 0 rfl rfl 9 (by decide) (hts _ kX2_count_9) (fun _ h9 => h9) rfl dX2_count_177 ?_
                      obtain rfl := Option.some.inj hf
                      exact W.iret (v := (g_this 1)) hx hb hr (fun t ht hW => ⟨⟨(g_this 1), (), rfl, rfl, rf_mk ht hP hD⟩, hS.F ht⟩) hS.2.2 dX2_count_180
                    · have hf := rf_ifn hf c10
                      by_cases c11 : p1 = 9
                      · have hf := rf_ifp hf c11
                        refine rf_tabC (off := 156) (tgt := 181) hx hb dX2_count_25 c11 (by decide) (by decide) (by decide) (by decide) ?_
                        refine lv_aload_n hx hb dX2_count_181 rfl (lv_at hl 0 rfl) ?_
                        refine va_get (D := D) (ci := 2) (v := .int (g_this 0)) (C := RX2) (T := TX2) (N := 12) hx hb hts jX2_count_X2 hown hK hP 0 rfl rfl 8 (by decide) (hts _ kX2_count_10) (fun _ h9 => h9) rfl dX2_count_182 ?_
                        obtain rfl := Option.some.inj hf
                        exact W.iret (v := (g_this 0)) hx hb hr (fun t ht hW => ⟨⟨(g_this 0), (), rfl, rfl, rf_mk ht hP hD⟩, hS.F ht⟩) hS.2.2 dX2_count_185
                      · have hf := rf_ifn hf c11
                        by_cases c12 : p1 = 10
                        · have hf := rf_ifp hf c12
                          refine rf_tabC (off := 161) (tgt := 186) hx hb dX2_count_25 c12 (by decide) (by decide) (by decide) (by decide) ?_
                          refine lv_aload_n hx hb dX2_count_186 rfl (lv_at hl 0 rfl) ?_
                          refine va_get (D := D) (ci := 2) (v := .ref a_this_now) (C := RX2) (T := TX2) (N := 12) hx hb hts jX2_count_X2 hown hK hP 0 rfl rfl 0 (by decide) (hts _ kX2_count_0) (fun _ h9 => h9) rfl dX2_count_187 ?_
                          refine va_get (D := D) (ci := 0) (v := .int (g_this_now 7)) (C := RX0) (T := TX0) (N := 12) hx hb hts jX2_count_X0 hown hK hP 1 rfl rfl 9 (by decide) (hts _ kX2_count_11) (fun _ h9 => h9) rfl dX2_count_190 ?_
                          obtain rfl := Option.some.inj hf
                          exact W.iret (v := (g_this_now 7)) hx hb hr (fun t ht hW => ⟨⟨(g_this_now 7), (), rfl, rfl, rf_mk ht hP hD⟩, hS.F ht⟩) hS.2.2 dX2_count_193
                        · have hf := rf_ifn hf c12
                          by_cases c13 : p1 = 17
                          · have hf := rf_ifp hf c13
                            refine rf_tabC (off := 169) (tgt := 194) hx hb dX2_count_25 c13 (by decide) (by decide) (by decide) (by decide) ?_
                            refine lv_aload_n hx hb dX2_count_194 rfl (lv_at hl 0 rfl) ?_
                            refine va_get (D := D) (ci := 2) (v := .ref a_this_now) (C := RX2) (T := TX2) (N := 12) hx hb hts jX2_count_X2 hown hK hP 0 rfl rfl 0 (by decide) (hts _ kX2_count_0) (fun _ h9 => h9) rfl dX2_count_195 ?_
                            refine va_get (D := D) (ci := 0) (v := .int (g_this_now 2)) (C := RX0) (T := TX0) (N := 12) hx hb hts jX2_count_X0 hown hK hP 1 rfl rfl 4 (by decide) (hts _ kX2_count_12) (fun _ h9 => h9) rfl dX2_count_198 ?_
                            obtain rfl := Option.some.inj hf
                            exact W.iret (v := (g_this_now 2)) hx hb hr (fun t ht hW => ⟨⟨(g_this_now 2), (), rfl, rfl, rf_mk ht hP hD⟩, hS.F ht⟩) hS.2.2 dX2_count_201
                          · have hf := rf_ifn hf c13
                            refine rf_tabD (tgt := 202) (ks := [0, 1, 2, 3, 4, 5, 6, 7, 8, 9, 10, 17]) hx hb dX2_count_25 (by intro z hz; simp only [List.mem_cons, List.not_mem_nil, or_false] at hz; rcases hz with rfl | rfl | rfl | rfl | rfl | rfl | rfl | rfl | rfl | rfl | rfl | rfl <;> assumption) (by decide) (by decide) ?_
                            refine lv_bipush (v := (-9)) hx hb dX2_count_202 (by decide) ?_
                            obtain rfl := Option.some.inj hf
                            exact W.iret (v := (-9)) hx hb hr (fun t ht hW => ⟨⟨(-9), (), rfl, rfl, rf_mk ht hP hD⟩, hS.F ht⟩) hS.2.2 dX2_count_204
  · have hf := rf_ifn hf c1
    refine lv_iload_n hx hb dX2_count_6 rfl (lv_at hl 1 rfl) ?_
    refine lv_bipush (v := 17) hx hb dX2_count_7 (by decide) ?_
    refine lv_icmp_ge (tgt := 24) hx hb dX2_count_9 (by decide) (fun c14 => ?_) (fun c14 => ?_)
    · have hf := rf_ifp hf c14
      refine lv_iload_n hx hb dX2_count_24 rfl (lv_at hl 1 rfl) ?_
      by_cases c15 : p1 = 0
      · have hf := rf_ifp hf c15
        refine rf_tabC (off := 87) (tgt := 112) hx hb dX2_count_25 c15 (by decide) (by decide) (by decide) (by decide) ?_
        refine lv_aload_n hx hb dX2_count_112 rfl (lv_at hl 0 rfl) ?_
        refine va_get (D := D) (ci := 2) (v := .ref a_this_now) (C := RX2) (T := TX2) (N := 12) hx hb hts jX2_count_X2 hown hK hP 0 rfl rfl 0 (by decide) (hts _ kX2_count_0) (fun _ h9 => h9) rfl dX2_count_113 ?_
        refine va_get (D := D) (ci := 0) (v := .int (g_this_now 0)) (C := RX0) (T := TX0) (N := 12) hx hb hts jX2_count_X0 hown hK hP 1 rfl rfl 2 (by decide) (hts _ kX2_count_1) (fun _ h9 => h9) rfl dX2_count_116 ?_
        obtain rfl := Option.some.inj hf
        exact W.iret (v := (g_this_now 0)) hx hb hr (fun t ht hW => ⟨⟨(g_this_now 0), (), rfl, rfl, rf_mk ht hP hD⟩, hS.F ht⟩) hS.2.2 dX2_count_119
      · have hf := rf_ifn hf c15
        by_cases c16 : p1 = 1
        · have hf := rf_ifp hf c16
          refine rf_tabC (off := 95) (tgt := 120) hx hb dX2_count_25 c16 (by decide) (by decide) (by decide) (by decide) ?_
          refine lv_aload_n hx hb dX2_count_120 rfl (lv_at hl 0 rfl) ?_
          refine va_get (D := D) (ci := 2) (v := .ref a_this_now) (C := RX2) (T := TX2) (N := 12) hx hb hts jX2_count_X2 hown hK hP 0 rfl rfl 0 (by decide) (hts _ kX2_count_0) (fun _ h9 => h9) rfl dX2_count_121 ?_
          refine va_get (D := D) (ci := 0) (v := .int (g_this_now 3)) (C := RX0) (T := TX0) (N := 12) hx hb hts jX2_count_X0 hown hK hP 1 rfl rfl 5 (by decide) (hts _ kX2_count_2) (fun _ h9 => h9) rfl dX2_count_124 ?_
          obtain rfl := Option.some.inj hf
          exact W.iret (v := (g_this_now 3)) hx hb hr (fun t ht hW => ⟨⟨(g_this_now 3), (), rfl, rfl, rf_mk ht hP hD⟩, hS.F ht⟩) hS.2.2 dX2_count_127
        · have hf := rf_ifn hf c16
          by_cases c17 : p1 = 2
          · have hf := rf_ifp hf c17
            refine rf_tabC (off := 103) (tgt := 128) hx hb dX2_count_25 c17 (by decide) (by decide) (by decide) (by decide) ?_
            refine lv_aload_n hx hb dX2_count_128 rfl (lv_at hl 0 rfl) ?_
            refine va_get (D := D) (ci := 2) (v := .ref a_this_now) (C := RX2) (T := TX2) (N := 12) hx hb hts jX2_count_X2 hown hK hP 0 rfl rfl 0 (by decide) (hts _ kX2_count_0) (fun _ h9 => h9) rfl dX2_count_129 ?_
            refine va_get (D := D) (ci := 0) (v := .int (g_this_now 4)) (C := RX0) (T := TX0) (N := 12) hx hb hts jX2_count_X0 hown hK hP 1 rfl rfl 6 (by decide) (hts _ kX2_count_3) (fun _ h9 => h9) rfl dX2_count_132 ?_
            obtain rfl := Option.some.inj hf
            exact W.iret (v := (g_this_now 4)) hx hb hr (fun t ht hW => ⟨⟨(g_this_now 4), (), rfl, rfl, rf_mk ht hP hD⟩, hS.F ht⟩) hS.2.2 dX2_count_135
          · have hf := rf_ifn hf c17
            by_cases c18 : p1 = 3
            · have hf := rf_ifp hf c18
              refine rf_tabC (off := 111) (tgt := 136) hx hb dX2_count_25 c18 (by decide) (by decide) (by decide) (by decide) ?_
              refine lv_aload_n hx hb dX2_count_136 rfl (lv_at hl 0 rfl) ?_
              refine va_get (D := D) (ci := 2) (v := .ref a_this_now) (C := RX2) (T := TX2) (N := 12) hx hb hts jX2_count_X2 hown hK hP 0 rfl rfl 0 (by decide) (hts _ kX2_count_0) (fun _ h9 => h9) rfl dX2_count_137 ?_
              refine va_get (D := D) (ci := 0) (v := .int (g_this_now 5)) (C := RX0) (T := TX0) (N := 12) hx hb hts jX2_count_X0 hown hK hP 1 rfl rfl 7 (by decide) (hts _ kX2_count_4) (fun _ h9 => h9) rfl dX2_count_140 ?_
              obtain rfl := Option.some.inj hf
              exact W.iret (v := (g_this_now 5)) hx hb hr (fun t ht hW => ⟨⟨(g_this_now 5), (), rfl, rfl, rf_mk ht hP hD⟩, hS.F ht⟩) hS.2.2 dX2_count_143
            · have hf := rf_ifn hf c18
              by_cases c19 : p1 = 4
              · have hf := rf_ifp hf c19
                refine rf_tabC (off := 119) (tgt := 144) hx hb dX2_count_25 c19 (by decide) (by decide) (by decide) (by decide) ?_
                refine lv_aload_n hx hb dX2_count_144 rfl (lv_at hl 0 rfl) ?_
                refine va_get (D := D) (ci := 2) (v := .ref a_this_now) (C := RX2) (T := TX2) (N := 12) hx hb hts jX2_count_X2 hown hK hP 0 rfl rfl 0 (by decide) (hts _ kX2_count_0) (fun _ h9 => h9) rfl dX2_count_145 ?_
                refine va_get (D := D) (ci := 0) (v := .int (g_this_now 6)) (C := RX0) (T := TX0) (N := 12) hx hb hts jX2_count_X0 hown hK hP 1 rfl rfl 8 (by decide) (hts _ kX2_count_5) (fun _ h9 => h9) rfl dX2_count_148 ?_
                obtain rfl := Option.some.inj hf
                exact W.iret (v := (g_this_now 6)) hx hb hr (fun t ht hW => ⟨⟨(g_this_now 6), (), rfl, rfl, rf_mk ht hP hD⟩, hS.F ht⟩) hS.2.2 dX2_count_151
              · have hf := rf_ifn hf c19
                by_cases c20 : p1 = 5
                · have hf := rf_ifp hf c20
                  refine rf_tabC (off := 127) (tgt := 152) hx hb dX2_count_25 c20 (by decide) (by decide) (by decide) (by decide) ?_
                  refine lv_aload_n hx hb dX2_count_152 rfl (lv_at hl 0 rfl) ?_
                  refine va_get (D := D) (ci := 2) (v := .ref a_this_now) (C := RX2) (T := TX2) (N := 12) hx hb hts jX2_count_X2 hown hK hP 0 rfl rfl 0 (by decide) (hts _ kX2_count_0) (fun _ h9 => h9) rfl dX2_count_153 ?_
                  refine va_get (D := D) (ci := 0) (v := .int (g_this_now 8)) (C := RX0) (T := TX0) (N := 12) hx hb hts jX2_count_X0 hown hK hP 1 rfl rfl 10 (by decide) (hts _ kX2_count_6) (fun _ h9 => h9) rfl dX2_count_156 ?_
                  obtain rfl := Option.some.inj hf
                  exact W.iret (v := (g_this_now 8)) hx hb hr (fun t ht hW => ⟨⟨(g_this_now 8), (), rfl, rfl, rf_mk ht hP hD⟩, hS.F ht⟩) hS.2.2 dX2_count_159
                · have hf := rf_ifn hf c20
                  by_cases c21 : p1 = 6
                  · have hf := rf_ifp hf c21
                    refine rf_tabC (off := 135) (tgt := 160) hx hb dX2_count_25 c21 (by decide) (by decide) (by decide) (by decide) ?_
                    refine lv_aload_n hx hb dX2_count_160 rfl (lv_at hl 0 rfl) ?_
                    refine va_get (D := D) (ci := 2) (v := .ref a_this_now) (C := RX2) (T := TX2) (N := 12) hx hb hts jX2_count_X2 hown hK hP 0 rfl rfl 0 (by decide) (hts _ kX2_count_0) (fun _ h9 => h9) rfl dX2_count_161 ?_
                    refine va_get (D := D) (ci := 0) (v := .int (g_this_now 9)) (C := RX0) (T := TX0) (N := 12) hx hb hts jX2_count_X0 hown hK hP 1 rfl rfl 11 (by decide) (hts _ kX2_count_7) (fun _ h9 => h9) rfl dX2_count_164 ?_
                    obtain rfl := Option.some.inj hf
                    exact W.iret (v := (g_this_now 9)) hx hb hr (fun t ht hW => ⟨⟨(g_this_now 9), (), rfl, rfl, rf_mk ht hP hD⟩, hS.F ht⟩) hS.2.2 dX2_count_167
                  · have hf := rf_ifn hf c21
                    by_cases c22 : p1 = 7
                    · have hf := rf_ifp hf c22
                      refine rf_tabC (off := 143) (tgt := 168) hx hb dX2_count_25 c22 (by decide) (by decide) (by decide) (by decide) ?_
                      refine lv_aload_n hx hb dX2_count_168 rfl (lv_at hl 0 rfl) ?_
                      refine va_get (D := D) (ci := 2) (v := .ref a_this_now) (C := RX2) (T := TX2) (N := 12) hx hb hts jX2_count_X2 hown hK hP 0 rfl rfl 0 (by decide) (hts _ kX2_count_0) (fun _ h9 => h9) rfl dX2_count_169 ?_
                      refine va_get (D := D) (ci := 0) (v := .int (g_this_now 1)) (C := RX0) (T := TX0) (N := 12) hx hb hts jX2_count_X0 hown hK hP 1 rfl rfl 3 (by decide) (hts _ kX2_count_8) (fun _ h9 => h9) rfl dX2_count_172 ?_
                      obtain rfl := Option.some.inj hf
                      exact W.iret (v := (g_this_now 1)) hx hb hr (fun t ht hW => ⟨⟨(g_this_now 1), (), rfl, rfl, rf_mk ht hP hD⟩, hS.F ht⟩) hS.2.2 dX2_count_175
                    · have hf := rf_ifn hf c22
                      by_cases c23 : p1 = 8
                      · have hf := rf_ifp hf c23
                        refine rf_tabC (off := 151) (tgt := 176) hx hb dX2_count_25 c23 (by decide) (by decide) (by decide) (by decide) ?_
                        refine lv_aload_n hx hb dX2_count_176 rfl (lv_at hl 0 rfl) ?_
                        refine va_get (D := D) (ci := 2) (v := .int (g_this 1)) (C := RX2) (T := TX2) (N := 12) hx hb hts jX2_count_X2 hown hK hP 0 rfl rfl 9 (by decide) (hts _ kX2_count_9) (fun _ h9 => h9) rfl dX2_count_177 ?_
                        obtain rfl := Option.some.inj hf
                        exact W.iret (v := (g_this 1)) hx hb hr (fun t ht hW => ⟨⟨(g_this 1), (), rfl, rfl, rf_mk ht hP hD⟩, hS.F ht⟩) hS.2.2 dX2_count_180
                      · have hf := rf_ifn hf c23
                        by_cases c24 : p1 = 9
                        · have hf := rf_ifp hf c24
                          refine rf_tabC (off := 156) (tgt := 181) hx hb dX2_count_25 c24 (by decide) (by decide) (by decide) (by decide) ?_
                          refine lv_aload_n hx hb dX2_count_181 rfl (lv_at hl 0 rfl) ?_
                          refine va_get (D := D) (ci := 2) (v := .int (g_this 0)) (C := RX2) (T := TX2) (N := 12) hx hb hts jX2_count_X2 hown hK hP 0 rfl rfl 8 (by decide) (hts _ kX2_count_10) (fun _ h9 => h9) rfl dX2_count_182 ?_
                          obtain rfl := Option.some.inj hf
                          exact W.iret (v := (g_this 0)) hx hb hr (fun t ht hW => ⟨⟨(g_this 0), (), rfl, rfl, rf_mk ht hP hD⟩, hS.F ht⟩) hS.2.2 dX2_count_185
                        · have hf := rf_ifn hf c24
                          by_cases c25 : p1 = 10
                          · have hf := rf_ifp hf c25
                            refine rf_tabC (off := 161) (tgt := 186) hx hb dX2_count_25 c25 (by decide) (by decide) (by decide) (by decide) ?_
                            refine lv_aload_n hx hb dX2_count_186 rfl (lv_at hl 0 rfl) ?_
                            refine va_get (D := D) (ci := 2) (v := .ref a_this_now) (C := RX2) (T := TX2) (N := 12) hx hb hts jX2_count_X2 hown hK hP 0 rfl rfl 0 (by decide) (hts _ kX2_count_0) (fun _ h9 => h9) rfl dX2_count_187 ?_
                            refine va_get (D := D) (ci := 0) (v := .int (g_this_now 7)) (C := RX0) (T := TX0) (N := 12) hx hb hts jX2_count_X0 hown hK hP 1 rfl rfl 9 (by decide) (hts _ kX2_count_11) (fun _ h9 => h9) rfl dX2_count_190 ?_
                            obtain rfl := Option.some.inj hf
                            exact W.iret (v := (g_this_now 7)) hx hb hr (fun t ht hW => ⟨⟨(g_this_now 7), (), rfl, rfl, rf_mk ht hP hD⟩, hS.F ht⟩) hS.2.2 dX2_count_193
                          · have hf := rf_ifn hf c25
                            by_cases c26 : p1 = 17
                            · have hf := rf_ifp hf c26
                              refine rf_tabC (off := 169) (tgt := 194) hx hb dX2_count_25 c26 (by decide) (by decide) (by decide) (by decide) ?_
                              refine lv_aload_n hx hb dX2_count_194 rfl (lv_at hl 0 rfl) ?_
                              refine va_get (D := D) (ci := 2) (v := .ref a_this_now) (C := RX2) (T := TX2) (N := 12) hx hb hts jX2_count_X2 hown hK hP 0 rfl rfl 0 (by decide) (hts _ kX2_count_0) (fun _ h9 => h9) rfl dX2_count_195 ?_
                              refine va_get (D := D) (ci := 0) (v := .int (g_this_now 2)) (C := RX0) (T := TX0) (N := 12) hx hb hts jX2_count_X0 hown hK hP 1 rfl rfl 4 (by decide) (hts _ kX2_count_12) (fun _ h9 => h9) rfl dX2_count_198 ?_
                              obtain rfl := Option.some.inj hf
                              exact W.iret (v := (g_this_now 2)) hx hb hr (fun t ht hW => ⟨⟨(g_this_now 2), (), rfl, rfl, rf_mk ht hP hD⟩, hS.F ht⟩) hS.2.2 dX2_count_201
                            · have hf := rf_ifn hf c26
                              refine rf_tabD (tgt := 202) (ks := [0, 1, 2, 3, 4, 5, 6, 7, 8, 9, 10, 17]) hx hb dX2_count_25 (by intro z hz; simp only [List.mem_cons, List.not_mem_nil, or_false] at hz; rcases hz with rfl | rfl | rfl | rfl | rfl | rfl | rfl | rfl | rfl | rfl | rfl | rfl <;> assumption) (by decide) (by decide) ?_
                              refine lv_bipush (v := (-9)) hx hb dX2_count_202 (by decide) ?_
                              obtain rfl := Option.some.inj hf
                              exact W.iret (v := (-9)) hx hb hr (fun t ht hW => ⟨⟨(-9), (), rfl, rfl, rf_mk ht hP hD⟩, hS.F ht⟩) hS.2.2 dX2_count_204
    · have hf := rf_ifn hf c14
      refine lv_aload_n hx hb dX2_count_12 rfl (lv_at hl 0 rfl) ?_
      refine va_get (D := D) (ci := 2) (v := .ref a_this_refusals) (C := RX2) (T := TX2) (N := 12) hx hb hts jX2_count_X2 hown hK hP 0 rfl rfl 7 (by decide) (hts _ kX2_count_13) (fun _ h9 => h9) rfl dX2_count_13 ?_
      refine lv_iload_n hx hb dX2_count_16 rfl (lv_at hl 1 rfl) ?_
      refine lv_bipush (v := 10) hx hb dX2_count_17 (by decide) ?_
      refine lv_isub hx hb dX2_count_19 ?_
      obtain ⟨q27, hq27, hf⟩ := rf_bindq hf
      refine rf_Si (As := [.ref a_this_refusals, .int (p1 - 10)]) (rest := []) (wr := [(a_this, .inr (2, rf_o2 a_this_now a_this_then a_this_trial a_this_search a_this_letters a_this_numbers a_this_thickest a_this_refusals g_this)), (a_this_now, .inr (0, rf_o0 a_this_now_kinds a_this_now_thicks g_this_now))]) (wn := [(a_this, .inr (2, rf_o2 a_this_now a_this_then a_this_trial a_this_search a_this_letters a_this_numbers a_this_thickest a_this_refusals g_this)), (a_this_now, .inr (0, rf_o0 a_this_now_kinds a_this_now_thicks g_this_now)), (a_this_refusals, .inl (cA, 7, .inl f_this_refusals))]) ⟨hx, hb, hml, hown, hts⟩ hK hP hD hS hA hE (c_X2_at l D cA ad a_this_refusals s.heap.size 7 f_this_refusals (p1 - 10) q27 hq27) (va_cwS 2 hts gX2_count_X2_at rfl rfl rfl hs_X2_at ⟨Nat.le_of_ble_eq_true rfl, Nat.le_of_ble_eq_true rfl⟩) [2] [0, 1] [0, 1, 2] rfl rfl rfl rfl (by decide) rfl rfl rfl rfl hl.1 (Nat.le_of_ble_eq_true rfl) dX2_count_20 ⟨Nat.zero_le _, Nat.zero_le _⟩ (fun H locs hP hD hS => ?_)
      obtain rfl := Option.some.inj hf
      exact W.iret (v := q27) hx hb hr (fun t ht hW => ⟨⟨q27, (), rfl, rfl, rf_mk ht hP hD⟩, hS.F ht⟩) hS.2.2 dX2_count_23
