theorem hv_X2_draw : yX2_draw.cls = RX2 ∧ yX2_draw.cls ≠ "java/lang/invoke/MethodHandle" ∧ yX2_draw.cls ≠ "java/lang/invoke/VarHandle" ∧ (parseMethodDescriptor yX2_draw.desc).map (fun d => d.parameters.length) = some 1 := by decide +kernel
theorem hv_X2_eveningHarm : yX2_eveningHarm.cls = RX2 ∧ yX2_eveningHarm.cls ≠ "java/lang/invoke/MethodHandle" ∧ yX2_eveningHarm.cls ≠ "java/lang/invoke/VarHandle" ∧ (parseMethodDescriptor yX2_eveningHarm.desc).map (fun d => d.parameters.length) = some 0 := by decide +kernel
theorem kX2_judge_0 : (.fieldLink RX2 19 "RingAndFinger" "trial" "LRingAndFinger$Finger;" : Cond) ∈ wsX2_judge := by decide +kernel
theorem kX2_judge_1 : (.fieldLink RX2 33 "RingAndFinger" "numbers" "[I" : Cond) ∈ wsX2_judge := by decide +kernel
theorem kX2_judge_2 : (.fieldLink RX2 46 "RingAndFinger" "numberCount" "I" : Cond) ∈ wsX2_judge := by decide +kernel
theorem kX2_judge_3 : (.fieldLink RX2 10 "RingAndFinger" "now" "LRingAndFinger$Finger;" : Cond) ∈ wsX2_judge := by decide +kernel
theorem jX2_judge_X2 : ∀ w ∈ u_ws RX2 TX2 12, w ∈ wsX2_judge := by decide +kernel
set_option maxHeartbeats 8000000 in
set_option maxRecDepth 100000 in
theorem c_X2_judge (l : Launch) (D : va_G) (cA : ClassId) (ad : Nat → Nat) (a_this a_this_now a_this_then a_this_trial a_this_search a_this_letters a_this_numbers a_this_thickest a_this_refusals a_this_now_kinds a_this_now_thicks a_this_trial_kinds a_this_trial_thicks : Nat) (sz : Nat) (g_this g_this_now f_this_now_kinds f_this_now_thicks g_this_trial f_this_trial_kinds f_this_trial_thicks f_this_numbers : Nat → Int32) (q : Int32 × (Nat → Int32) × (Nat → Int32) × (Nat → Int32) × (Nat → Int32)) (hf : f_X2_judge g_this g_this_now f_this_now_kinds f_this_now_thicks g_this_trial f_this_trial_kinds f_this_trial_thicks f_this_numbers = some q) : Met l yX2_judge wsX2_judge ({ frames := 5, cells := 0, slots := 0, locals := 112 } : Room) (va_Pc [.ref a_this] (rf_Pre D cA ad [(a_this, .inr (2, rf_o2 a_this_now a_this_then a_this_trial a_this_search a_this_letters a_this_numbers a_this_thickest a_this_refusals g_this)), (a_this_now, .inr (0, rf_o0 a_this_now_kinds a_this_now_thicks g_this_now)), (a_this_now_kinds, .inl (cA, 6, .inl f_this_now_kinds)), (a_this_now_thicks, .inl (cA, 6, .inl f_this_now_thicks)), (a_this_trial, .inr (0, rf_o0 a_this_trial_kinds a_this_trial_thicks g_this_trial)), (a_this_trial_kinds, .inl (cA, 6, .inl f_this_trial_kinds)), (a_this_trial_thicks, .inl (cA, 6, .inl f_this_trial_thicks)), (a_this_numbers, .inl (cA, 12, .inl f_this_numbers))] sz)) (va_Qi (fun (r : Int32) (_ : Unit) => r = q.1) (fun _ t => rf_Post D (va_A [(a_this, .inr (2, rf_o2 a_this_now a_this_then a_this_trial a_this_search a_this_letters a_this_numbers a_this_thickest a_this_refusals g_this)), (a_this_now, .inr (0, rf_o0 a_this_now_kinds a_this_now_thicks g_this_now)), (a_this_now_kinds, .inl (cA, 6, .inl f_this_now_kinds)), (a_this_now_thicks, .inl (cA, 6, .inl f_this_now_thicks)), (a_this_trial, .inr (0, rf_o0 a_this_trial_kinds a_this_trial_thicks g_this_trial)), (a_this_trial_kinds, .inl (cA, 6, .inl f_this_trial_kinds)), (a_this_trial_thicks, .inl (cA, 6, .inl f_this_trial_thicks)), (a_this_numbers, .inl (cA, 12, .inl f_this_numbers))] sz) [(a_this, .inr (2, rf_o2 a_this_now a_this_then a_this_trial a_this_search a_this_letters a_this_numbers a_this_thickest a_this_refusals q.2.1)), (a_this_now, .inr (0, rf_o0 a_this_now_kinds a_this_now_thicks g_this_now)), (a_this_now_kinds, .inl (cA, 6, .inl f_this_now_kinds)), (a_this_now_thicks, .inl (cA, 6, .inl f_this_now_thicks)), (a_this_trial, .inr (0, rf_o0 a_this_trial_kinds a_this_trial_thicks q.2.2.1)), (a_this_trial_kinds, .inl (cA, 6, .inl q.2.2.2.1)), (a_this_trial_thicks, .inl (cA, 6, .inl q.2.2.2.2)), (a_this_numbers, .inl (cA, 12, .inl f_this_numbers))] t) (va_A [(a_this, .inr (2, rf_o2 a_this_now a_this_then a_this_trial a_this_search a_this_letters a_this_numbers a_this_thickest a_this_refusals g_this)), (a_this_now, .inr (0, rf_o0 a_this_now_kinds a_this_now_thicks g_this_now)), (a_this_now_kinds, .inl (cA, 6, .inl f_this_now_kinds)), (a_this_now_thicks, .inl (cA, 6, .inl f_this_now_thicks)), (a_this_trial, .inr (0, rf_o0 a_this_trial_kinds a_this_trial_thicks g_this_trial)), (a_this_trial_kinds, .inl (cA, 6, .inl f_this_trial_kinds)), (a_this_trial_thicks, .inl (cA, 6, .inl f_this_trial_thicks)), (a_this_numbers, .inl (cA, 12, .inl f_this_numbers))] sz)) 0 0 (va_A [(a_this, .inr (2, rf_o2 a_this_now a_this_then a_this_trial a_this_search a_this_letters a_this_numbers a_this_thickest a_this_refusals g_this)), (a_this_now, .inr (0, rf_o0 a_this_now_kinds a_this_now_thicks g_this_now)), (a_this_now_kinds, .inl (cA, 6, .inl f_this_now_kinds)), (a_this_now_thicks, .inl (cA, 6, .inl f_this_now_thicks)), (a_this_trial, .inr (0, rf_o0 a_this_trial_kinds a_this_trial_thicks g_this_trial)), (a_this_trial_kinds, .inl (cA, 6, .inl f_this_trial_kinds)), (a_this_trial_thicks, .inl (cA, 6, .inl f_this_trial_thicks)), (a_this_numbers, .inl (cA, 12, .inl f_this_numbers))] sz) := by
  refine Met.ofW (cc := cX2_judge) (maxL := 3) (ret := (some .int)) (by decide) rfl ?_
  intro p e s m args below meth c s₁ B hml hv
  obtain ⟨rfl, hsz, hP, hK, hD0, hE⟩ := hv
  have hx := B.exec
  have hb := B.bytes
  have hr := B.returns
  have hts := atoms_spec (ws := wsX2_judge) B.pre
  have hown : s.vm.findClass RX2 = some m.cls := findClass_of_methodNamed B.named
  have hlocks := B.notSynchronized
  subst hsz
  have hD := hD0.self (sz := s.heap.size)
  generalize hAe : va_A [(a_this, .inr (2, rf_o2 a_this_now a_this_then a_this_trial a_this_search a_this_letters a_this_numbers a_this_thickest a_this_refusals g_this)), (a_this_now, .inr (0, rf_o0 a_this_now_kinds a_this_now_thicks g_this_now)), (a_this_now_kinds, .inl (cA, 6, .inl f_this_now_kinds)), (a_this_now_thicks, .inl (cA, 6, .inl f_this_now_thicks)), (a_this_trial, .inr (0, rf_o0 a_this_trial_kinds a_this_trial_thicks g_this_trial)), (a_this_trial_kinds, .inl (cA, 6, .inl f_this_trial_kinds)), (a_this_trial_thicks, .inl (cA, 6, .inl f_this_trial_thicks)), (a_this_numbers, .inl (cA, 12, .inl f_this_numbers))] s.heap.size = A at hD hE ⊢
  have hA : ∀ q : Nat, s.heap.size ≤ q → A q := fun q h => by rw [← hAe]; exact Or.inr h
  have hS : va_S A s.heap s.heap [] := va_S.rf
  have hP : va_P D vwCl [(a_this, .inr (2, rf_o2 a_this_now a_this_then a_this_trial a_this_search a_this_letters a_this_numbers a_this_thickest a_this_refusals g_this)), (a_this_now, .inr (0, rf_o0 a_this_now_kinds a_this_now_thicks g_this_now)), (a_this_now_kinds, .inl (cA, 6, .inl f_this_now_kinds)), (a_this_now_thicks, .inl (cA, 6, .inl f_this_now_thicks)), (a_this_trial, .inr (0, rf_o0 a_this_trial_kinds a_this_trial_thicks g_this_trial)), (a_this_trial_kinds, .inl (cA, 6, .inl f_this_trial_kinds)), (a_this_trial_thicks, .inl (cA, 6, .inl f_this_trial_thicks)), (a_this_numbers, .inl (cA, 12, .inl f_this_numbers))] s.heap := hP
  have hl := lv_entry ([.ref a_this]) (n := 3) (Nat.le_of_ble_eq_true rfl)
  rw [lg_entry_eq]
  generalize (lg_sl ([.ref a_this]) ++ List.replicate (3 - (lg_sl ([.ref a_this])).length) Slot.unset).toArray = ls at hl ⊢
  have hl : lv_has ls 3 [(0, .ref a_this)] := hl
  have key_36 : ∀ (x1 : Int32) (yg_this yf_this_trial_kinds yf_this_trial_thicks : Nat → Int32) (n : Nat) (x2 : Int32) (yg_this_trial : Nat → Int32) (ql : (Int32 × (Nat → Int32) × (Nat → Int32) × (Nat → Int32) × (Nat → Int32)) ⊕ (Int32 × (Nat → Int32))), f_X2_judge_L36 g_this_now f_this_now_kinds f_this_now_thicks f_this_numbers x1 yg_this yf_this_trial_kinds yf_this_trial_thicks n x2 yg_this_trial = some ql → ∀ (H : Heap) (locs : List Loc) (ls : Array Slot), va_P D vwCl [(a_this, .inr (2, rf_o2 a_this_now a_this_then a_this_trial a_this_search a_this_letters a_this_numbers a_this_thickest a_this_refusals yg_this)), (a_this_now, .inr (0, rf_o0 a_this_now_kinds a_this_now_thicks g_this_now)), (a_this_now_kinds, .inl (cA, 6, .inl f_this_now_kinds)), (a_this_now_thicks, .inl (cA, 6, .inl f_this_now_thicks)), (a_this_trial, .inr (0, rf_o0 a_this_trial_kinds a_this_trial_thicks yg_this_trial)), (a_this_trial_kinds, .inl (cA, 6, .inl yf_this_trial_kinds)), (a_this_trial_thicks, .inl (cA, 6, .inl yf_this_trial_thicks)), (a_this_numbers, .inl (cA, 12, .inl f_this_numbers))] H → va_D A [(a_this, .inr (2, rf_o2 a_this_now a_this_then a_this_trial a_this_search a_this_letters a_this_numbers a_this_thickest a_this_refusals yg_this)), (a_this_now, .inr (0, rf_o0 a_this_now_kinds a_this_now_thicks g_this_now)), (a_this_now_kinds, .inl (cA, 6, .inl f_this_now_kinds)), (a_this_now_thicks, .inl (cA, 6, .inl f_this_now_thicks)), (a_this_trial, .inr (0, rf_o0 a_this_trial_kinds a_this_trial_thicks yg_this_trial)), (a_this_trial_kinds, .inl (cA, 6, .inl yf_this_trial_kinds)), (a_this_trial_thicks, .inl (cA, 6, .inl yf_this_trial_thicks)), (a_this_numbers, .inl (cA, 12, .inl f_this_numbers))] → va_S A s.heap H locs → lv_has ls 3 [(0, .ref a_this), (1, .int x1), (2, .int x2)] → (∀ r : Int32 × (Nat → Int32) × (Nat → Int32) × (Nat → Int32) × (Nat → Int32), ql = .inl r → r = q) → (∀ (x : Int32 × (Nat → Int32)), ql = .inr x → ∀ (H : Heap) (locs : List Loc) (ls : Array Slot), va_P D vwCl [(a_this, .inr (2, rf_o2 a_this_now a_this_then a_this_trial a_this_search a_this_letters a_this_numbers a_this_thickest a_this_refusals yg_this)), (a_this_now, .inr (0, rf_o0 a_this_now_kinds a_this_now_thicks g_this_now)), (a_this_now_kinds, .inl (cA, 6, .inl f_this_now_kinds)), (a_this_now_thicks, .inl (cA, 6, .inl f_this_now_thicks)), (a_this_trial, .inr (0, rf_o0 a_this_trial_kinds a_this_trial_thicks x.2)), (a_this_trial_kinds, .inl (cA, 6, .inl yf_this_trial_kinds)), (a_this_trial_thicks, .inl (cA, 6, .inl yf_this_trial_thicks)), (a_this_numbers, .inl (cA, 12, .inl f_this_numbers))] H → va_D A [(a_this, .inr (2, rf_o2 a_this_now a_this_then a_this_trial a_this_search a_this_letters a_this_numbers a_this_thickest a_this_refusals yg_this)), (a_this_now, .inr (0, rf_o0 a_this_now_kinds a_this_now_thicks g_this_now)), (a_this_now_kinds, .inl (cA, 6, .inl f_this_now_kinds)), (a_this_now_thicks, .inl (cA, 6, .inl f_this_now_thicks)), (a_this_trial, .inr (0, rf_o0 a_this_trial_kinds a_this_trial_thicks x.2)), (a_this_trial_kinds, .inl (cA, 6, .inl yf_this_trial_kinds)), (a_this_trial_thicks, .inl (cA, 6, .inl yf_this_trial_thicks)), (a_this_numbers, .inl (cA, 12, .inl f_this_numbers))] → va_S A s.heap H locs → lv_has ls 3 [(0, .ref a_this), (1, .int x1), (2, .int x.1)] → W p l e (headSpec wsX2_judge ({ frames := 5, cells := 0, slots := 0, locals := 112 } : Room)).room s m ([.ref a_this] : List Value).toArray below meth c H locs 0 0 (MQ below (va_Qi (fun (r : Int32) (_ : Unit) => r = q.1) (fun _ t => rf_Post D A [(a_this, .inr (2, rf_o2 a_this_now a_this_then a_this_trial a_this_search a_this_letters a_this_numbers a_this_thickest a_this_refusals q.2.1)), (a_this_now, .inr (0, rf_o0 a_this_now_kinds a_this_now_thicks g_this_now)), (a_this_now_kinds, .inl (cA, 6, .inl f_this_now_kinds)), (a_this_now_thicks, .inl (cA, 6, .inl f_this_now_thicks)), (a_this_trial, .inr (0, rf_o0 a_this_trial_kinds a_this_trial_thicks q.2.2.1)), (a_this_trial_kinds, .inl (cA, 6, .inl q.2.2.2.1)), (a_this_trial_thicks, .inl (cA, 6, .inl q.2.2.2.2)), (a_this_numbers, .inl (cA, 12, .inl f_this_numbers))] t) A) ([.ref a_this] : List Value).toArray s 0 0 A) (F0 m 74 ls [])) → W p l e (headSpec wsX2_judge ({ frames := 5, cells := 0, slots := 0, locals := 112 } : Room)).room s m ([.ref a_this] : List Value).toArray below meth c H locs 0 0 (MQ below (va_Qi (fun (r : Int32) (_ : Unit) => r = q.1) (fun _ t => rf_Post D A [(a_this, .inr (2, rf_o2 a_this_now a_this_then a_this_trial a_this_search a_this_letters a_this_numbers a_this_thickest a_this_refusals q.2.1)), (a_this_now, .inr (0, rf_o0 a_this_now_kinds a_this_now_thicks g_this_now)), (a_this_now_kinds, .inl (cA, 6, .inl f_this_now_kinds)), (a_this_now_thicks, .inl (cA, 6, .inl f_this_now_thicks)), (a_this_trial, .inr (0, rf_o0 a_this_trial_kinds a_this_trial_thicks q.2.2.1)), (a_this_trial_kinds, .inl (cA, 6, .inl q.2.2.2.1)), (a_this_trial_thicks, .inl (cA, 6, .inl q.2.2.2.2)), (a_this_numbers, .inl (cA, 12, .inl f_this_numbers))] t) A) ([.ref a_this] : List Value).toArray s 0 0 A) (F0 m 36 ls []) := by
    intro x1 yg_this yf_this_trial_kinds yf_this_trial_thicks n
    induction n with
    | zero =>
      intro x2 yg_this_trial ql hf H locs ls hP hD hS hl hret kx
      exact absurd (show (none : Option ((Int32 × (Nat → Int32) × (Nat → Int32) × (Nat → Int32) × (Nat → Int32)) ⊕ (Int32 × (Nat → Int32)))) = some ql from hf) (fun h9 => by cases h9)
    | succ n ih =>
      intro x2 yg_this_trial ql hf H locs ls hP hD hS hl hret kx
      rw [f_X2_judge_L36] at hf
      refine lv_iload_n hx hb dX2_judge_36 rfl (lv_at hl 2 rfl) ?_
      refine lv_iload_n hx hb dX2_judge_37 rfl (lv_at hl 1 rfl) ?_
      refine lv_icmp_ge (tgt := 74) hx hb dX2_judge_38 (by decide) (fun c1 => ?_) (fun c1 => ?_)
      · have hf := rf_ifp hf c1
        exact kx _ (Option.some.inj hf).symm _ _ _ hP hD hS (lv_sub hl [0, 1, 2] rfl)
      · have hf := rf_ifn hf c1
        refine lv_aload_n hx hb dX2_judge_41 rfl (lv_at hl 0 rfl) ?_
        refine va_get (D := D) (ci := 2) (v := .ref a_this_trial) (C := RX2) (T := TX2) (N := 12) hx hb hts jX2_judge_X2 hown hK hP 0 rfl rfl 2 (by decide) (hts _ kX2_judge_0) (fun _ h9 => h9) rfl dX2_judge_42 ?_
        refine lv_aload_n hx hb dX2_judge_45 rfl (lv_at hl 0 rfl) ?_
        refine va_get (D := D) (ci := 2) (v := .ref a_this_numbers) (C := RX2) (T := TX2) (N := 12) hx hb hts jX2_judge_X2 hown hK hP 0 rfl rfl 5 (by decide) (hts _ kX2_judge_1) (fun _ h9 => h9) rfl dX2_judge_46 ?_
        refine lv_iload_n hx hb dX2_judge_49 rfl (lv_at hl 2 rfl) ?_
        obtain ⟨q2, hq2, hf⟩ := rf_bindq hf
        refine rf_Si (As := [.ref a_this_numbers, .int x2]) (rest := [.ref a_this_trial]) (wr := [(a_this, .inr (2, rf_o2 a_this_now a_this_then a_this_trial a_this_search a_this_letters a_this_numbers a_this_thickest a_this_refusals yg_this)), (a_this_now, .inr (0, rf_o0 a_this_now_kinds a_this_now_thicks g_this_now)), (a_this_now_kinds, .inl (cA, 6, .inl f_this_now_kinds)), (a_this_now_thicks, .inl (cA, 6, .inl f_this_now_thicks)), (a_this_trial, .inr (0, rf_o0 a_this_trial_kinds a_this_trial_thicks yg_this_trial)), (a_this_trial_kinds, .inl (cA, 6, .inl yf_this_trial_kinds)), (a_this_trial_thicks, .inl (cA, 6, .inl yf_this_trial_thicks))]) (wn := [(a_this, .inr (2, rf_o2 a_this_now a_this_then a_this_trial a_this_search a_this_letters a_this_numbers a_this_thickest a_this_refusals yg_this)), (a_this_now, .inr (0, rf_o0 a_this_now_kinds a_this_now_thicks g_this_now)), (a_this_now_kinds, .inl (cA, 6, .inl f_this_now_kinds)), (a_this_now_thicks, .inl (cA, 6, .inl f_this_now_thicks)), (a_this_trial, .inr (0, rf_o0 a_this_trial_kinds a_this_trial_thicks yg_this_trial)), (a_this_trial_kinds, .inl (cA, 6, .inl yf_this_trial_kinds)), (a_this_trial_thicks, .inl (cA, 6, .inl yf_this_trial_thicks)), (a_this_numbers, .inl (cA, 12, .inl f_this_numbers))]) ⟨hx, hb, hml, hown, hts⟩ hK hP hD hS hA hE (c_X2_at l D cA ad a_this_numbers H.size 12 f_this_numbers x2 q2 hq2) (va_cwS 2 hts gX2_judge_X2_at rfl rfl rfl hs_X2_at ⟨Nat.le_of_ble_eq_true rfl, Nat.le_of_ble_eq_true rfl⟩) [7] [0, 1, 2, 3, 4, 5, 6] [0, 1, 2, 3, 4, 5, 6, 7] rfl rfl rfl rfl (by decide) rfl rfl rfl rfl hl.1 (Nat.le_of_ble_eq_true rfl) dX2_judge_50 ⟨Nat.zero_le _, Nat.zero_le _⟩ (fun H locs hP hD hS => ?_)
        obtain ⟨q3, hq3, hf⟩ := rf_bindq hf
        refine rf_Vv (As := [.int q2]) (rest := []) (wr := [(a_this, .inr (2, rf_o2 a_this_now a_this_then a_this_trial a_this_search a_this_letters a_this_numbers a_this_thickest a_this_refusals yg_this)), (a_this_now, .inr (0, rf_o0 a_this_now_kinds a_this_now_thicks g_this_now)), (a_this_now_kinds, .inl (cA, 6, .inl f_this_now_kinds)), (a_this_now_thicks, .inl (cA, 6, .inl f_this_now_thicks)), (a_this_numbers, .inl (cA, 12, .inl f_this_numbers))]) (wn := [(a_this, .inr (2, rf_o2 a_this_now a_this_then a_this_trial a_this_search a_this_letters a_this_numbers a_this_thickest a_this_refusals yg_this)), (a_this_now, .inr (0, rf_o0 a_this_now_kinds a_this_now_thicks g_this_now)), (a_this_now_kinds, .inl (cA, 6, .inl f_this_now_kinds)), (a_this_now_thicks, .inl (cA, 6, .inl f_this_now_thicks)), (a_this_trial, .inr (0, rf_o0 a_this_trial_kinds a_this_trial_thicks q3)), (a_this_trial_kinds, .inl (cA, 6, .inl yf_this_trial_kinds)), (a_this_trial_thicks, .inl (cA, 6, .inl yf_this_trial_thicks)), (a_this_numbers, .inl (cA, 12, .inl f_this_numbers))]) ⟨hx, hb, hml, hown, hts⟩ hK hP hD hS hA hE (c_X0_move l D cA ad a_this_trial a_this_trial_kinds a_this_trial_thicks H.size yg_this_trial yf_this_trial_kinds yf_this_trial_thicks q2 q3 hq3) (cwV 1 hts gX2_judge_X0_move rfl rfl rfl hv_X0_move ⟨Nat.le_of_ble_eq_true rfl, Nat.le_of_ble_eq_true rfl⟩) [4, 5, 6] [0, 1, 2, 3, 7] [0, 1, 2, 3, 5, 6, 7, 4] rfl rfl rfl rfl (by decide) rfl rfl 0 4 rfl rfl rfl rfl rfl hl.1 (Nat.le_of_ble_eq_true rfl) dX2_judge_53 ⟨Nat.zero_le _, Nat.zero_le _⟩ (fun H locs hP hD hS => ?_)
        refine lv_aload_n hx hb dX2_judge_56 rfl (lv_at hl 0 rfl) ?_
        refine va_get (D := D) (ci := 2) (v := .ref a_this_trial) (C := RX2) (T := TX2) (N := 12) hx hb hts jX2_judge_X2 hown hK hP 0 rfl rfl 2 (by decide) (hts _ kX2_judge_0) (fun _ h9 => h9) rfl dX2_judge_57 ?_
        obtain ⟨q4, hq4, hf⟩ := rf_bindq hf
        refine rf_Vi (As := []) (rest := []) (wr := [(a_this, .inr (2, rf_o2 a_this_now a_this_then a_this_trial a_this_search a_this_letters a_this_numbers a_this_thickest a_this_refusals yg_this)), (a_this_now, .inr (0, rf_o0 a_this_now_kinds a_this_now_thicks g_this_now)), (a_this_now_kinds, .inl (cA, 6, .inl f_this_now_kinds)), (a_this_now_thicks, .inl (cA, 6, .inl f_this_now_thicks)), (a_this_trial_kinds, .inl (cA, 6, .inl yf_this_trial_kinds)), (a_this_trial_thicks, .inl (cA, 6, .inl yf_this_trial_thicks)), (a_this_numbers, .inl (cA, 12, .inl f_this_numbers))]) (wn := [(a_this, .inr (2, rf_o2 a_this_now a_this_then a_this_trial a_this_search a_this_letters a_this_numbers a_this_thickest a_this_refusals yg_this)), (a_this_now, .inr (0, rf_o0 a_this_now_kinds a_this_now_thicks g_this_now)), (a_this_now_kinds, .inl (cA, 6, .inl f_this_now_kinds)), (a_this_now_thicks, .inl (cA, 6, .inl f_this_now_thicks)), (a_this_trial, .inr (0, rf_o0 a_this_trial_kinds a_this_trial_thicks q3)), (a_this_trial_kinds, .inl (cA, 6, .inl yf_this_trial_kinds)), (a_this_trial_thicks, .inl (cA, 6, .inl yf_this_trial_thicks)), (a_this_numbers, .inl (cA, 12, .inl f_this_numbers))]) ⟨hx, hb, hml, hown, hts⟩ hK hP hD hS hA hE (c_X0_isOff l D cA ad a_this_trial a_this_trial_kinds a_this_trial_thicks H.size q3 q4 hq4) (cwV 0 hts gX2_judge_X0_isOff rfl rfl rfl hv_X0_isOff ⟨Nat.le_of_ble_eq_true rfl, Nat.le_of_ble_eq_true rfl⟩) [4] [0, 1, 2, 3, 5, 6, 7] [0, 1, 2, 3, 7, 4, 5, 6] rfl rfl rfl rfl (by decide) rfl rfl 0 4 rfl rfl rfl rfl rfl hl.1 (Nat.le_of_ble_eq_true rfl) dX2_judge_60 ⟨Nat.zero_le _, Nat.zero_le _⟩ (fun H locs hP hD hS => ?_)
        refine lv_if_eq (tgt := 68) hx hb dX2_judge_63 (by decide) (fun c5 => ?_) (fun c5 => ?_)
        · have hf := rf_ifp hf c5
          obtain ⟨v6, ev6⟩ : ∃ y : Int32, y = x2 + 1 := ⟨_, rfl⟩
          have hf := rf_bindv hf ev6
          refine lv_iinc (v := v6) (lv' := [(2, .int v6), (0, .ref a_this), (1, .int x1)]) hx hb dX2_judge_68 hl (k := 2) rfl (by rw [ev6]; rfl) (by decide) rfl (fun ls hl => ?_)
          clear ev6
          refine lv_goto (tgt := 36) hx hb dX2_judge_71 (by decide) ?_
          exact ih v6 q3 ql hf _ _ _ hP hD hS (lv_sub hl [1, 2, 0] rfl) hret kx
        · have hf := rf_ifn hf c5
          refine lv_iload_n hx hb dX2_judge_66 rfl (lv_at hl 2 rfl) ?_
          obtain rfl := hret _ (Option.some.inj hf).symm
          exact W.iret (v := x2) hx hb hr (fun t ht hW => ⟨⟨x2, (), rfl, rfl, rf_mk ht hP hD⟩, hS.F ht⟩) hS.2.2 dX2_judge_67
  rw [f_X2_judge] at hf
  refine lv_aload_n hx hb dX2_judge_0 rfl (lv_at hl 0 rfl) ?_
  refine va_get (D := D) (ci := 2) (v := .int (g_this 1)) (C := RX2) (T := TX2) (N := 12) hx hb hts jX2_judge_X2 hown hK hP 0 rfl rfl 9 (by decide) (hts _ kX2_judge_2) (fun _ h9 => h9) rfl dX2_judge_1 ?_
  refine lv_topi (fun v7 ev7 => ?_)
  have hf := rf_bindv hf ev7
  clear ev7
  refine lv_istore_n (lv' := [(1, .int v7), (0, .ref a_this)]) hx hb dX2_judge_4 rfl hl (by decide) rfl (fun ls hl => ?_)
  refine lv_aload_n hx hb dX2_judge_5 rfl (lv_at hl 1 rfl) ?_
  refine lv_iconst (v := 0) hx hb dX2_judge_6 (by decide) ?_
  refine va_put (D := D) (ci := 2) (v := .int 0) (ty := .int) (C := RX2) (T := TX2) (N := 12) hx hb hts jX2_judge_X2 tyX2 tyX2_ok nmX2 hown hK hP hD hS 0 rfl rfl 9 (by decide) (hts _ kX2_judge_2) (fun _ h9 => h9) rfl (by decide +kernel) rfl rfl (Nat.le_of_ble_eq_true rfl) dX2_judge_7 (fun H locs hP hD hS => ?_)
  have hP : va_P D vwCl [(a_this, .inr (2, rf_o2 a_this_now a_this_then a_this_trial a_this_search a_this_letters a_this_numbers a_this_thickest a_this_refusals (upd g_this 1 0))), (a_this_now, .inr (0, rf_o0 a_this_now_kinds a_this_now_thicks g_this_now)), (a_this_now_kinds, .inl (cA, 6, .inl f_this_now_kinds)), (a_this_now_thicks, .inl (cA, 6, .inl f_this_now_thicks)), (a_this_trial, .inr (0, rf_o0 a_this_trial_kinds a_this_trial_thicks g_this_trial)), (a_this_trial_kinds, .inl (cA, 6, .inl f_this_trial_kinds)), (a_this_trial_thicks, .inl (cA, 6, .inl f_this_trial_thicks)), (a_this_numbers, .inl (cA, 12, .inl f_this_numbers))] H := hP
  have hD : va_D A [(a_this, .inr (2, rf_o2 a_this_now a_this_then a_this_trial a_this_search a_this_letters a_this_numbers a_this_thickest a_this_refusals (upd g_this 1 0))), (a_this_now, .inr (0, rf_o0 a_this_now_kinds a_this_now_thicks g_this_now)), (a_this_now_kinds, .inl (cA, 6, .inl f_this_now_kinds)), (a_this_now_thicks, .inl (cA, 6, .inl f_this_now_thicks)), (a_this_trial, .inr (0, rf_o0 a_this_trial_kinds a_this_trial_thicks g_this_trial)), (a_this_trial_kinds, .inl (cA, 6, .inl f_this_trial_kinds)), (a_this_trial_thicks, .inl (cA, 6, .inl f_this_trial_thicks)), (a_this_numbers, .inl (cA, 12, .inl f_this_numbers))] := hD
  refine lv_aload_n hx hb dX2_judge_10 rfl (lv_at hl 1 rfl) ?_
  refine va_get (D := D) (ci := 2) (v := .ref a_this_now) (C := RX2) (T := TX2) (N := 12) hx hb hts jX2_judge_X2 hown hK hP 0 rfl rfl 0 (by decide) (hts _ kX2_judge_3) (fun _ h9 => h9) rfl dX2_judge_11 ?_
  obtain ⟨q8, hq8, hf⟩ := rf_bindq hf
  refine rf_Vi (As := []) (rest := []) (wr := [(a_this, .inr (2, rf_o2 a_this_now a_this_then a_this_trial a_this_search a_this_letters a_this_numbers a_this_thickest a_this_refusals (upd g_this 1 0))), (a_this_now_kinds, .inl (cA, 6, .inl f_this_now_kinds)), (a_this_now_thicks, .inl (cA, 6, .inl f_this_now_thicks)), (a_this_trial, .inr (0, rf_o0 a_this_trial_kinds a_this_trial_thicks g_this_trial)), (a_this_trial_kinds, .inl (cA, 6, .inl f_this_trial_kinds)), (a_this_trial_thicks, .inl (cA, 6, .inl f_this_trial_thicks)), (a_this_numbers, .inl (cA, 12, .inl f_this_numbers))]) (wn := [(a_this, .inr (2, rf_o2 a_this_now a_this_then a_this_trial a_this_search a_this_letters a_this_numbers a_this_thickest a_this_refusals (upd g_this 1 0))), (a_this_now, .inr (0, rf_o0 a_this_now_kinds a_this_now_thicks g_this_now)), (a_this_now_kinds, .inl (cA, 6, .inl f_this_now_kinds)), (a_this_now_thicks, .inl (cA, 6, .inl f_this_now_thicks)), (a_this_trial, .inr (0, rf_o0 a_this_trial_kinds a_this_trial_thicks g_this_trial)), (a_this_trial_kinds, .inl (cA, 6, .inl f_this_trial_kinds)), (a_this_trial_thicks, .inl (cA, 6, .inl f_this_trial_thicks)), (a_this_numbers, .inl (cA, 12, .inl f_this_numbers))]) ⟨hx, hb, hml, hown, hts⟩ hK hP hD hS hA hE (c_X0_isOff l D cA ad a_this_now a_this_now_kinds a_this_now_thicks H.size g_this_now q8 hq8) (cwV 0 hts gX2_judge_X0_isOff rfl rfl rfl hv_X0_isOff ⟨Nat.le_of_ble_eq_true rfl, Nat.le_of_ble_eq_true rfl⟩) [1] [0, 2, 3, 4, 5, 6, 7] [0, 7, 1, 2, 3, 4, 5, 6] rfl rfl rfl rfl (by decide) rfl rfl 0 1 rfl rfl rfl rfl rfl hl.1 (Nat.le_of_ble_eq_true rfl) dX2_judge_14 ⟨Nat.zero_le _, Nat.zero_le _⟩ (fun H locs hP hD hS => ?_)
  refine lv_if_eq (tgt := 23) hx hb dX2_judge_17 (by decide) (fun c9 => ?_) (fun c9 => ?_)
  · have hf := rf_ifp hf c9
    refine lv_aload_n hx hb dX2_judge_23 rfl (lv_at hl 1 rfl) ?_
    refine va_get (D := D) (ci := 2) (v := .ref a_this_trial) (C := RX2) (T := TX2) (N := 12) hx hb hts jX2_judge_X2 hown hK hP 0 rfl rfl 2 (by decide) (hts _ kX2_judge_0) (fun _ h9 => h9) rfl dX2_judge_24 ?_
    refine lv_aload_n hx hb dX2_judge_27 rfl (lv_at hl 1 rfl) ?_
    refine va_get (D := D) (ci := 2) (v := .ref a_this_now) (C := RX2) (T := TX2) (N := 12) hx hb hts jX2_judge_X2 hown hK hP 0 rfl rfl 0 (by decide) (hts _ kX2_judge_3) (fun _ h9 => h9) rfl dX2_judge_28 ?_
    obtain ⟨q10, hq10, hf⟩ := rf_bindq hf
    refine rf_Vv (As := [.ref a_this_now]) (rest := []) (wr := [(a_this, .inr (2, rf_o2 a_this_now a_this_then a_this_trial a_this_search a_this_letters a_this_numbers a_this_thickest a_this_refusals (upd g_this 1 0))), (a_this_numbers, .inl (cA, 12, .inl f_this_numbers))]) (wn := [(a_this, .inr (2, rf_o2 a_this_now a_this_then a_this_trial a_this_search a_this_letters a_this_numbers a_this_thickest a_this_refusals (upd g_this 1 0))), (a_this_now, .inr (0, rf_o0 a_this_now_kinds a_this_now_thicks g_this_now)), (a_this_now_kinds, .inl (cA, 6, .inl f_this_now_kinds)), (a_this_now_thicks, .inl (cA, 6, .inl f_this_now_thicks)), (a_this_trial, .inr (0, rf_o0 a_this_trial_kinds a_this_trial_thicks q10.1)), (a_this_trial_kinds, .inl (cA, 6, .inl q10.2.1)), (a_this_trial_thicks, .inl (cA, 6, .inl q10.2.2)), (a_this_numbers, .inl (cA, 12, .inl f_this_numbers))]) ⟨hx, hb, hml, hown, hts⟩ hK hP hD hS hA hE (c_X0_copyFrom l D cA ad a_this_trial a_this_trial_kinds a_this_trial_thicks a_this_now a_this_now_kinds a_this_now_thicks H.size g_this_trial f_this_trial_kinds f_this_trial_thicks g_this_now f_this_now_kinds f_this_now_thicks q10 hq10) (cwV 1 hts gX2_judge_X0_copyFrom rfl rfl rfl hv_X0_copyFrom ⟨Nat.le_of_ble_eq_true rfl, Nat.le_of_ble_eq_true rfl⟩) [4, 5, 6, 1, 2, 3] [0, 7] [0, 5, 6, 7, 2, 3, 4, 1] rfl rfl rfl rfl (by decide) rfl rfl 0 4 rfl rfl rfl rfl rfl hl.1 (Nat.le_of_ble_eq_true rfl) dX2_judge_31 ⟨Nat.zero_le _, Nat.zero_le _⟩ (fun H locs hP hD hS => ?_)
    refine lv_iconst (v := 0) hx hb dX2_judge_34 (by decide) ?_
    refine lv_istore_n (lv' := [(2, .int 0), (1, .int v7), (0, .ref a_this)]) hx hb dX2_judge_35 rfl hl (by decide) rfl (fun ls hl => ?_)
    obtain ⟨q11, hq11, hf⟩ := rf_bindq hf
    refine key_36 v7 (upd g_this 1 0) q10.2.1 q10.2.2 rf_fu 0 q10.1 q11 hq11 _ _ _ hP hD hS (lv_sub hl [2, 1, 0] rfl) (fun r h9 => ?_) (fun x12 h9 H locs ls hP hD hS hl => ?_)
    · subst h9
      exact Option.some.inj hf
    · subst h9
      have hf := rf_sumr hf
      refine lv_bipush (v := (-9)) hx hb dX2_judge_74 (by decide) ?_
      obtain rfl := Option.some.inj hf
      exact W.iret (v := (-9)) hx hb hr (fun t ht hW => ⟨⟨(-9), (), rfl, rfl, rf_mk ht hP hD⟩, hS.F ht⟩) hS.2.2 dX2_judge_76
  · have hf := rf_ifn hf c9
    refine lv_bipush (v := (-9)) hx hb dX2_judge_20 (by decide) ?_
    obtain rfl := Option.some.inj hf
    exact W.iret (v := (-9)) hx hb hr (fun t ht hW => ⟨⟨(-9), (), rfl, rfl, rf_mk ht hP hD⟩, hS.F ht⟩) hS.2.2 dX2_judge_22
theorem kX2_draw_0 : (.fieldLink RX2 53 "RingAndFinger" "seed" "I" : Cond) ∈ wsX2_draw := by decide +kernel
theorem kX2_draw_1 : (.constant RX2 256 (1664525) : Cond) ∈ wsX2_draw := by decide +kernel
theorem kX2_draw_2 : (.constant RX2 257 (1013904223) : Cond) ∈ wsX2_draw := by decide +kernel
theorem kX2_draw_3 : (.constant RX2 258 (2147483647) : Cond) ∈ wsX2_draw := by decide +kernel
theorem jX2_draw_X2 : ∀ w ∈ u_ws RX2 TX2 12, w ∈ wsX2_draw := by decide +kernel
set_option maxHeartbeats 8000000 in
set_option maxRecDepth 100000 in
theorem c_X2_draw (l : Launch) (D : va_G) (cA : ClassId) (ad : Nat → Nat) (a_this a_this_now a_this_then a_this_trial a_this_search a_this_letters a_this_numbers a_this_thickest a_this_refusals : Nat) (sz : Nat) (g_this : Nat → Int32) (p1 : Int32) (q : Int32 × (Nat → Int32)) (hf : f_X2_draw g_this p1 = some q) : Met l yX2_draw wsX2_draw ({ frames := 0, cells := 0, slots := 0, locals := 0 } : Room) (va_Pc [.ref a_this, .int p1] (rf_Pre D cA ad [(a_this, .inr (2, rf_o2 a_this_now a_this_then a_this_trial a_this_search a_this_letters a_this_numbers a_this_thickest a_this_refusals g_this))] sz)) (va_Qi (fun (r : Int32) (_ : Unit) => r = q.1) (fun _ t => rf_Post D (va_A [(a_this, .inr (2, rf_o2 a_this_now a_this_then a_this_trial a_this_search a_this_letters a_this_numbers a_this_thickest a_this_refusals g_this))] sz) [(a_this, .inr (2, rf_o2 a_this_now a_this_then a_this_trial a_this_search a_this_letters a_this_numbers a_this_thickest a_this_refusals q.2))] t) (va_A [(a_this, .inr (2, rf_o2 a_this_now a_this_then a_this_trial a_this_search a_this_letters a_this_numbers a_this_thickest a_this_refusals g_this))] sz)) 0 0 (va_A [(a_this, .inr (2, rf_o2 a_this_now a_this_then a_this_trial a_this_search a_this_letters a_this_numbers a_this_thickest a_this_refusals g_this))] sz) := by
  refine Met.ofW (cc := cX2_draw) (maxL := 2) (ret := (some .int)) (by decide) rfl ?_
  intro p e s m args below meth c s₁ B hml hv
  obtain ⟨rfl, hsz, hP, hK, hD0, hE⟩ := hv
  have hx := B.exec
  have hb := B.bytes
  have hr := B.returns
  have hts := atoms_spec (ws := wsX2_draw) B.pre
  have hown : s.vm.findClass RX2 = some m.cls := findClass_of_methodNamed B.named
  have hlocks := B.notSynchronized
  subst hsz
  have hD := hD0.self (sz := s.heap.size)
  generalize hAe : va_A [(a_this, .inr (2, rf_o2 a_this_now a_this_then a_this_trial a_this_search a_this_letters a_this_numbers a_this_thickest a_this_refusals g_this))] s.heap.size = A at hD hE ⊢
  have hA : ∀ q : Nat, s.heap.size ≤ q → A q := fun q h => by rw [← hAe]; exact Or.inr h
  have hS : va_S A s.heap s.heap [] := va_S.rf
  have hP : va_P D vwCl [(a_this, .inr (2, rf_o2 a_this_now a_this_then a_this_trial a_this_search a_this_letters a_this_numbers a_this_thickest a_this_refusals g_this))] s.heap := hP
  have hl := lv_entry ([.ref a_this, .int p1]) (n := 2) (Nat.le_of_ble_eq_true rfl)
  rw [lg_entry_eq]
  generalize (lg_sl ([.ref a_this, .int p1]) ++ List.replicate (2 - (lg_sl ([.ref a_this, .int p1])).length) Slot.unset).toArray = ls at hl ⊢
  have hl : lv_has ls 2 [(0, .ref a_this), (1, .int p1)] := hl
  rw [f_X2_draw] at hf
  refine lv_aload_n hx hb dX2_draw_0 rfl (lv_at hl 0 rfl) ?_
  refine lv_aload_n hx hb dX2_draw_1 rfl (lv_at hl 0 rfl) ?_
  refine va_get (D := D) (ci := 2) (v := .int (g_this 3)) (C := RX2) (T := TX2) (N := 12) hx hb hts jX2_draw_X2 hown hK hP 0 rfl rfl 11 (by decide) (hts _ kX2_draw_0) (fun _ h9 => h9) rfl dX2_draw_2 ?_
  refine lv_ldcw hx hb hown (hts _ kX2_draw_1) dX2_draw_5 ?_
  refine lv_imul hx hb dX2_draw_8 ?_
  refine lv_ldcw hx hb hown (hts _ kX2_draw_2) dX2_draw_9 ?_
  refine lv_iadd hx hb dX2_draw_12 ?_
  refine lv_topi (fun v1 ev1 => ?_)
  have hf := rf_bindv hf ev1
  clear ev1
  refine va_put (D := D) (ci := 2) (v := .int v1) (ty := .int) (C := RX2) (T := TX2) (N := 12) hx hb hts jX2_draw_X2 tyX2 tyX2_ok nmX2 hown hK hP hD hS 0 rfl rfl 11 (by decide) (hts _ kX2_draw_0) (fun _ h9 => h9) rfl (by decide +kernel) rfl rfl (Nat.le_of_ble_eq_true rfl) dX2_draw_13 (fun H locs hP hD hS => ?_)
  have hP : va_P D vwCl [(a_this, .inr (2, rf_o2 a_this_now a_this_then a_this_trial a_this_search a_this_letters a_this_numbers a_this_thickest a_this_refusals (upd g_this 3 v1)))] H := hP
  have hD : va_D A [(a_this, .inr (2, rf_o2 a_this_now a_this_then a_this_trial a_this_search a_this_letters a_this_numbers a_this_thickest a_this_refusals (upd g_this 3 v1)))] := hD
  refine lv_iload_n hx hb dX2_draw_16 rfl (lv_at hl 1 rfl) ?_
  refine lv_if_le (tgt := 37) hx hb dX2_draw_17 (by decide) (fun c2 => ?_) (fun c2 => ?_)
  · have hf := rf_ifp hf c2
    refine lv_iconst (v := 0) hx hb dX2_draw_37 (by decide) ?_
    obtain rfl := Option.some.inj hf
    exact W.iret (v := 0) hx hb hr (fun t ht hW => ⟨⟨0, (), rfl, rfl, rf_mk ht hP hD⟩, hS.F ht⟩) hS.2.2 dX2_draw_38
  · have hf := rf_ifn hf c2
    refine lv_aload_n hx hb dX2_draw_20 rfl (lv_at hl 0 rfl) ?_
    refine va_get (D := D) (ci := 2) (v := .int v1) (C := RX2) (T := TX2) (N := 12) hx hb hts jX2_draw_X2 hown hK hP 0 rfl rfl 11 (by decide) (hts _ kX2_draw_0) (fun _ h9 => h9) rfl dX2_draw_21 ?_
    refine lv_ldcw hx hb hown (hts _ kX2_draw_3) dX2_draw_24 ?_
    refine lv_iand hx hb dX2_draw_27 ?_
    refine lv_sipush (v := 256) hx hb dX2_draw_28 (by decide) ?_
    refine lv_idiv hx hb dX2_draw_31 (by decide) ?_
    refine lv_iload_n hx hb dX2_draw_32 rfl (lv_at hl 1 rfl) ?_
    obtain ⟨c3, hf⟩ := rf_chk hf
    refine lv_irem hx hb dX2_draw_33 c3 ?_
    refine lv_topi (fun v4 ev4 => ?_)
    have hf := rf_bindv hf ev4
    clear ev4
    refine lv_goto (tgt := 38) hx hb dX2_draw_34 (by decide) ?_
    obtain rfl := Option.some.inj hf
    exact W.iret (v := v4) hx hb hr (fun t ht hW => ⟨⟨v4, (), rfl, rfl, rf_mk ht hP hD⟩, hS.F ht⟩) hS.2.2 dX2_draw_38
theorem kX2_eveningHarm_0 : (.fieldLink RX2 19 "RingAndFinger" "trial" "LRingAndFinger$Finger;" : Cond) ∈ wsX2_eveningHarm := by decide +kernel
theorem kX2_eveningHarm_1 : (.fieldLink RX2 10 "RingAndFinger" "now" "LRingAndFinger$Finger;" : Cond) ∈ wsX2_eveningHarm := by decide +kernel
theorem kX2_eveningHarm_2 : (.fieldLink RX2 238 "RingAndFinger$Finger" "harm" "I" : Cond) ∈ wsX2_eveningHarm := by decide +kernel
theorem kX2_eveningHarm_3 : (.fieldLink RX2 214 "RingAndFinger$Finger" "swell" "I" : Cond) ∈ wsX2_eveningHarm := by decide +kernel
theorem jX2_eveningHarm_X2 : ∀ w ∈ u_ws RX2 TX2 12, w ∈ wsX2_eveningHarm := by decide +kernel
theorem jX2_eveningHarm_X0 : ∀ w ∈ u_ws RX0 TX0 12, w ∈ wsX2_eveningHarm := by decide +kernel
set_option maxHeartbeats 8000000 in
set_option maxRecDepth 100000 in
theorem c_X2_eveningHarm (l : Launch) (D : va_G) (cA : ClassId) (ad : Nat → Nat) (a_this a_this_now a_this_then a_this_trial a_this_search a_this_letters a_this_numbers a_this_thickest a_this_refusals a_this_now_kinds a_this_now_thicks a_this_trial_kinds a_this_trial_thicks : Nat) (sz : Nat) (g_this g_this_now f_this_now_kinds f_this_now_thicks g_this_trial f_this_trial_kinds f_this_trial_thicks : Nat → Int32) (q : Int32 × (Nat → Int32) × (Nat → Int32) × (Nat → Int32) × (Nat → Int32)) (hf : f_X2_eveningHarm g_this g_this_now f_this_now_kinds f_this_now_thicks g_this_trial f_this_trial_kinds f_this_trial_thicks = some q) : Met l yX2_eveningHarm wsX2_eveningHarm ({ frames := 4, cells := 0, slots := 0, locals := 91 } : Room) (va_Pc [.ref a_this] (rf_Pre D cA ad [(a_this, .inr (2, rf_o2 a_this_now a_this_then a_this_trial a_this_search a_this_letters a_this_numbers a_this_thickest a_this_refusals g_this)), (a_this_now, .inr (0, rf_o0 a_this_now_kinds a_this_now_thicks g_this_now)), (a_this_now_kinds, .inl (cA, 6, .inl f_this_now_kinds)), (a_this_now_thicks, .inl (cA, 6, .inl f_this_now_thicks)), (a_this_trial, .inr (0, rf_o0 a_this_trial_kinds a_this_trial_thicks g_this_trial)), (a_this_trial_kinds, .inl (cA, 6, .inl f_this_trial_kinds)), (a_this_trial_thicks, .inl (cA, 6, .inl f_this_trial_thicks))] sz)) (va_Qi (fun (r : Int32) (_ : Unit) => r = q.1) (fun _ t => rf_Post D (va_A [(a_this, .inr (2, rf_o2 a_this_now a_this_then a_this_trial a_this_search a_this_letters a_this_numbers a_this_thickest a_this_refusals g_this)), (a_this_now, .inr (0, rf_o0 a_this_now_kinds a_this_now_thicks g_this_now)), (a_this_now_kinds, .inl (cA, 6, .inl f_this_now_kinds)), (a_this_now_thicks, .inl (cA, 6, .inl f_this_now_thicks)), (a_this_trial, .inr (0, rf_o0 a_this_trial_kinds a_this_trial_thicks g_this_trial)), (a_this_trial_kinds, .inl (cA, 6, .inl f_this_trial_kinds)), (a_this_trial_thicks, .inl (cA, 6, .inl f_this_trial_thicks))] sz) [(a_this, .inr (2, rf_o2 a_this_now a_this_then a_this_trial a_this_search a_this_letters a_this_numbers a_this_thickest a_this_refusals q.2.1)), (a_this_now, .inr (0, rf_o0 a_this_now_kinds a_this_now_thicks g_this_now)), (a_this_now_kinds, .inl (cA, 6, .inl f_this_now_kinds)), (a_this_now_thicks, .inl (cA, 6, .inl f_this_now_thicks)), (a_this_trial, .inr (0, rf_o0 a_this_trial_kinds a_this_trial_thicks q.2.2.1)), (a_this_trial_kinds, .inl (cA, 6, .inl q.2.2.2.1)), (a_this_trial_thicks, .inl (cA, 6, .inl q.2.2.2.2))] t) (va_A [(a_this, .inr (2, rf_o2 a_this_now a_this_then a_this_trial a_this_search a_this_letters a_this_numbers a_this_thickest a_this_refusals g_this)), (a_this_now, .inr (0, rf_o0 a_this_now_kinds a_this_now_thicks g_this_now)), (a_this_now_kinds, .inl (cA, 6, .inl f_this_now_kinds)), (a_this_now_thicks, .inl (cA, 6, .inl f_this_now_thicks)), (a_this_trial, .inr (0, rf_o0 a_this_trial_kinds a_this_trial_thicks g_this_trial)), (a_this_trial_kinds, .inl (cA, 6, .inl f_this_trial_kinds)), (a_this_trial_thicks, .inl (cA, 6, .inl f_this_trial_thicks))] sz)) 0 0 (va_A [(a_this, .inr (2, rf_o2 a_this_now a_this_then a_this_trial a_this_search a_this_letters a_this_numbers a_this_thickest a_this_refusals g_this)), (a_this_now, .inr (0, rf_o0 a_this_now_kinds a_this_now_thicks g_this_now)), (a_this_now_kinds, .inl (cA, 6, .inl f_this_now_kinds)), (a_this_now_thicks, .inl (cA, 6, .inl f_this_now_thicks)), (a_this_trial, .inr (0, rf_o0 a_this_trial_kinds a_this_trial_thicks g_this_trial)), (a_this_trial_kinds, .inl (cA, 6, .inl f_this_trial_kinds)), (a_this_trial_thicks, .inl (cA, 6, .inl f_this_trial_thicks))] sz) := by
  refine Met.ofW (cc := cX2_eveningHarm) (maxL := 2) (ret := (some .int)) (by decide) rfl ?_
  intro p e s m args below meth c s₁ B hml hv
  obtain ⟨rfl, hsz, hP, hK, hD0, hE⟩ := hv
  have hx := B.exec
  have hb := B.bytes
  have hr := B.returns
  have hts := atoms_spec (ws := wsX2_eveningHarm) B.pre
  have hown : s.vm.findClass RX2 = some m.cls := findClass_of_methodNamed B.named
  have hlocks := B.notSynchronized
  subst hsz
  have hD := hD0.self (sz := s.heap.size)
  generalize hAe : va_A [(a_this, .inr (2, rf_o2 a_this_now a_this_then a_this_trial a_this_search a_this_letters a_this_numbers a_this_thickest a_this_refusals g_this)), (a_this_now, .inr (0, rf_o0 a_this_now_kinds a_this_now_thicks g_this_now)), (a_this_now_kinds, .inl (cA, 6, .inl f_this_now_kinds)), (a_this_now_thicks, .inl (cA, 6, .inl f_this_now_thicks)), (a_this_trial, .inr (0, rf_o0 a_this_trial_kinds a_this_trial_thicks g_this_trial)), (a_this_trial_kinds, .inl (cA, 6, .inl f_this_trial_kinds)), (a_this_trial_thicks, .inl (cA, 6, .inl f_this_trial_thicks))] s.heap.size = A at hD hE ⊢
  have hA : ∀ q : Nat, s.heap.size ≤ q → A q := fun q h => by rw [← hAe]; exact Or.inr h
  have hS : va_S A s.heap s.heap [] := va_S.rf
  have hP : va_P D vwCl [(a_this, .inr (2, rf_o2 a_this_now a_this_then a_this_trial a_this_search a_this_letters a_this_numbers a_this_thickest a_this_refusals g_this)), (a_this_now, .inr (0, rf_o0 a_this_now_kinds a_this_now_thicks g_this_now)), (a_this_now_kinds, .inl (cA, 6, .inl f_this_now_kinds)), (a_this_now_thicks, .inl (cA, 6, .inl f_this_now_thicks)), (a_this_trial, .inr (0, rf_o0 a_this_trial_kinds a_this_trial_thicks g_this_trial)), (a_this_trial_kinds, .inl (cA, 6, .inl f_this_trial_kinds)), (a_this_trial_thicks, .inl (cA, 6, .inl f_this_trial_thicks))] s.heap := hP
  have hl := lv_entry ([.ref a_this]) (n := 2) (Nat.le_of_ble_eq_true rfl)
  rw [lg_entry_eq]
  generalize (lg_sl ([.ref a_this]) ++ List.replicate (2 - (lg_sl ([.ref a_this])).length) Slot.unset).toArray = ls at hl ⊢
  have hl : lv_has ls 2 [(0, .ref a_this)] := hl
  have key_34 : ∀ (yf_this_trial_kinds yf_this_trial_thicks : Nat → Int32) (n : Nat) (x1 : Int32) (yg_this yg_this_trial : Nat → Int32) (ql : Int32 × (Nat → Int32) × (Nat → Int32)), f_X2_eveningHarm_L34 g_this_now f_this_now_kinds f_this_now_thicks yf_this_trial_kinds yf_this_trial_thicks n x1 yg_this yg_this_trial = some ql → ∀ (H : Heap) (locs : List Loc) (ls : Array Slot), va_P D vwCl [(a_this, .inr (2, rf_o2 a_this_now a_this_then a_this_trial a_this_search a_this_letters a_this_numbers a_this_thickest a_this_refusals yg_this)), (a_this_now, .inr (0, rf_o0 a_this_now_kinds a_this_now_thicks g_this_now)), (a_this_now_kinds, .inl (cA, 6, .inl f_this_now_kinds)), (a_this_now_thicks, .inl (cA, 6, .inl f_this_now_thicks)), (a_this_trial, .inr (0, rf_o0 a_this_trial_kinds a_this_trial_thicks yg_this_trial)), (a_this_trial_kinds, .inl (cA, 6, .inl yf_this_trial_kinds)), (a_this_trial_thicks, .inl (cA, 6, .inl yf_this_trial_thicks))] H → va_D A [(a_this, .inr (2, rf_o2 a_this_now a_this_then a_this_trial a_this_search a_this_letters a_this_numbers a_this_thickest a_this_refusals yg_this)), (a_this_now, .inr (0, rf_o0 a_this_now_kinds a_this_now_thicks g_this_now)), (a_this_now_kinds, .inl (cA, 6, .inl f_this_now_kinds)), (a_this_now_thicks, .inl (cA, 6, .inl f_this_now_thicks)), (a_this_trial, .inr (0, rf_o0 a_this_trial_kinds a_this_trial_thicks yg_this_trial)), (a_this_trial_kinds, .inl (cA, 6, .inl yf_this_trial_kinds)), (a_this_trial_thicks, .inl (cA, 6, .inl yf_this_trial_thicks))] → va_S A s.heap H locs → lv_has ls 2 [(0, .ref a_this), (1, .int x1)] → (∀ (H : Heap) (locs : List Loc) (ls : Array Slot), va_P D vwCl [(a_this, .inr (2, rf_o2 a_this_now a_this_then a_this_trial a_this_search a_this_letters a_this_numbers a_this_thickest a_this_refusals ql.2.1)), (a_this_now, .inr (0, rf_o0 a_this_now_kinds a_this_now_thicks g_this_now)), (a_this_now_kinds, .inl (cA, 6, .inl f_this_now_kinds)), (a_this_now_thicks, .inl (cA, 6, .inl f_this_now_thicks)), (a_this_trial, .inr (0, rf_o0 a_this_trial_kinds a_this_trial_thicks ql.2.2)), (a_this_trial_kinds, .inl (cA, 6, .inl yf_this_trial_kinds)), (a_this_trial_thicks, .inl (cA, 6, .inl yf_this_trial_thicks))] H → va_D A [(a_this, .inr (2, rf_o2 a_this_now a_this_then a_this_trial a_this_search a_this_letters a_this_numbers a_this_thickest a_this_refusals ql.2.1)), (a_this_now, .inr (0, rf_o0 a_this_now_kinds a_this_now_thicks g_this_now)), (a_this_now_kinds, .inl (cA, 6, .inl f_this_now_kinds)), (a_this_now_thicks, .inl (cA, 6, .inl f_this_now_thicks)), (a_this_trial, .inr (0, rf_o0 a_this_trial_kinds a_this_trial_thicks ql.2.2)), (a_this_trial_kinds, .inl (cA, 6, .inl yf_this_trial_kinds)), (a_this_trial_thicks, .inl (cA, 6, .inl yf_this_trial_thicks))] → va_S A s.heap H locs → lv_has ls 2 [(0, .ref a_this), (1, .int ql.1)] → W p l e (headSpec wsX2_eveningHarm ({ frames := 4, cells := 0, slots := 0, locals := 91 } : Room)).room s m ([.ref a_this] : List Value).toArray below meth c H locs 0 0 (MQ below (va_Qi (fun (r : Int32) (_ : Unit) => r = q.1) (fun _ t => rf_Post D A [(a_this, .inr (2, rf_o2 a_this_now a_this_then a_this_trial a_this_search a_this_letters a_this_numbers a_this_thickest a_this_refusals q.2.1)), (a_this_now, .inr (0, rf_o0 a_this_now_kinds a_this_now_thicks g_this_now)), (a_this_now_kinds, .inl (cA, 6, .inl f_this_now_kinds)), (a_this_now_thicks, .inl (cA, 6, .inl f_this_now_thicks)), (a_this_trial, .inr (0, rf_o0 a_this_trial_kinds a_this_trial_thicks q.2.2.1)), (a_this_trial_kinds, .inl (cA, 6, .inl q.2.2.2.1)), (a_this_trial_thicks, .inl (cA, 6, .inl q.2.2.2.2))] t) A) ([.ref a_this] : List Value).toArray s 0 0 A) (F0 m 70 ls [])) → W p l e (headSpec wsX2_eveningHarm ({ frames := 4, cells := 0, slots := 0, locals := 91 } : Room)).room s m ([.ref a_this] : List Value).toArray below meth c H locs 0 0 (MQ below (va_Qi (fun (r : Int32) (_ : Unit) => r = q.1) (fun _ t => rf_Post D A [(a_this, .inr (2, rf_o2 a_this_now a_this_then a_this_trial a_this_search a_this_letters a_this_numbers a_this_thickest a_this_refusals q.2.1)), (a_this_now, .inr (0, rf_o0 a_this_now_kinds a_this_now_thicks g_this_now)), (a_this_now_kinds, .inl (cA, 6, .inl f_this_now_kinds)), (a_this_now_thicks, .inl (cA, 6, .inl f_this_now_thicks)), (a_this_trial, .inr (0, rf_o0 a_this_trial_kinds a_this_trial_thicks q.2.2.1)), (a_this_trial_kinds, .inl (cA, 6, .inl q.2.2.2.1)), (a_this_trial_thicks, .inl (cA, 6, .inl q.2.2.2.2))] t) A) ([.ref a_this] : List Value).toArray s 0 0 A) (F0 m 34 ls []) := by
    intro yf_this_trial_kinds yf_this_trial_thicks n
    induction n with
    | zero =>
      intro x1 yg_this yg_this_trial ql hf H locs ls hP hD hS hl kx
      exact absurd (show (none : Option (Int32 × (Nat → Int32) × (Nat → Int32))) = some ql from hf) (fun h9 => by cases h9)
    | succ n ih =>
      intro x1 yg_this yg_this_trial ql hf H locs ls hP hD hS hl kx
      rw [f_X2_eveningHarm_L34] at hf
      refine lv_iload_n hx hb dX2_eveningHarm_34 rfl (lv_at hl 1 rfl) ?_
      refine lv_bipush (v := 12) hx hb dX2_eveningHarm_35 (by decide) ?_
      refine lv_icmp_ge (tgt := 70) hx hb dX2_eveningHarm_37 (by decide) (fun c1 => ?_) (fun c1 => ?_)
      · have hf := rf_ifp hf c1
        obtain rfl := Option.some.inj hf
        exact kx _ _ _ hP hD hS (lv_sub hl [0, 1] rfl)
      · have hf := rf_ifn hf c1
        refine lv_aload_n hx hb dX2_eveningHarm_40 rfl (lv_at hl 0 rfl) ?_
        refine va_get (D := D) (ci := 2) (v := .ref a_this_trial) (C := RX2) (T := TX2) (N := 12) hx hb hts jX2_eveningHarm_X2 hown hK hP 0 rfl rfl 2 (by decide) (hts _ kX2_eveningHarm_0) (fun _ h9 => h9) rfl dX2_eveningHarm_41 ?_
        obtain ⟨q2, hq2, hf⟩ := rf_bindq hf
        refine rf_Vi (As := []) (rest := []) (wr := [(a_this, .inr (2, rf_o2 a_this_now a_this_then a_this_trial a_this_search a_this_letters a_this_numbers a_this_thickest a_this_refusals yg_this)), (a_this_now, .inr (0, rf_o0 a_this_now_kinds a_this_now_thicks g_this_now)), (a_this_now_kinds, .inl (cA, 6, .inl f_this_now_kinds)), (a_this_now_thicks, .inl (cA, 6, .inl f_this_now_thicks)), (a_this_trial_kinds, .inl (cA, 6, .inl yf_this_trial_kinds)), (a_this_trial_thicks, .inl (cA, 6, .inl yf_this_trial_thicks))]) (wn := [(a_this, .inr (2, rf_o2 a_this_now a_this_then a_this_trial a_this_search a_this_letters a_this_numbers a_this_thickest a_this_refusals yg_this)), (a_this_now, .inr (0, rf_o0 a_this_now_kinds a_this_now_thicks g_this_now)), (a_this_now_kinds, .inl (cA, 6, .inl f_this_now_kinds)), (a_this_now_thicks, .inl (cA, 6, .inl f_this_now_thicks)), (a_this_trial, .inr (0, rf_o0 a_this_trial_kinds a_this_trial_thicks yg_this_trial)), (a_this_trial_kinds, .inl (cA, 6, .inl yf_this_trial_kinds)), (a_this_trial_thicks, .inl (cA, 6, .inl yf_this_trial_thicks))]) ⟨hx, hb, hml, hown, hts⟩ hK hP hD hS hA hE (c_X0_isOff l D cA ad a_this_trial a_this_trial_kinds a_this_trial_thicks H.size yg_this_trial q2 hq2) (cwV 0 hts gX2_eveningHarm_X0_isOff rfl rfl rfl hv_X0_isOff ⟨Nat.le_of_ble_eq_true rfl, Nat.le_of_ble_eq_true rfl⟩) [4] [0, 1, 2, 3, 5, 6] [0, 1, 2, 3, 6, 4, 5] rfl rfl rfl rfl (by decide) rfl rfl 0 4 rfl rfl rfl rfl rfl hl.1 (Nat.le_of_ble_eq_true rfl) dX2_eveningHarm_44 ⟨Nat.zero_le _, Nat.zero_le _⟩ (fun H locs hP hD hS => ?_)
        refine lv_if_ne (tgt := 70) hx hb dX2_eveningHarm_47 (by decide) (fun c3 => ?_) (fun c3 => ?_)
        · have hf := rf_ifn hf c3
          obtain rfl := Option.some.inj hf
          exact kx _ _ _ hP hD hS (lv_sub hl [0, 1] rfl)
        · have hf := rf_ifp hf c3
          refine lv_aload_n hx hb dX2_eveningHarm_50 rfl (lv_at hl 0 rfl) ?_
          refine va_get (D := D) (ci := 2) (v := .ref a_this_trial) (C := RX2) (T := TX2) (N := 12) hx hb hts jX2_eveningHarm_X2 hown hK hP 0 rfl rfl 2 (by decide) (hts _ kX2_eveningHarm_0) (fun _ h9 => h9) rfl dX2_eveningHarm_51 ?_
          refine lv_aload_n hx hb dX2_eveningHarm_54 rfl (lv_at hl 0 rfl) ?_
          refine lv_bipush (v := 6) hx hb dX2_eveningHarm_55 (by decide) ?_
          obtain ⟨q4, hq4, hf⟩ := rf_bindq hf
          refine rf_Vi (As := [.int 6]) (rest := [.ref a_this_trial]) (wr := [(a_this_now, .inr (0, rf_o0 a_this_now_kinds a_this_now_thicks g_this_now)), (a_this_now_kinds, .inl (cA, 6, .inl f_this_now_kinds)), (a_this_now_thicks, .inl (cA, 6, .inl f_this_now_thicks)), (a_this_trial, .inr (0, rf_o0 a_this_trial_kinds a_this_trial_thicks yg_this_trial)), (a_this_trial_kinds, .inl (cA, 6, .inl yf_this_trial_kinds)), (a_this_trial_thicks, .inl (cA, 6, .inl yf_this_trial_thicks))]) (wn := [(a_this, .inr (2, rf_o2 a_this_now a_this_then a_this_trial a_this_search a_this_letters a_this_numbers a_this_thickest a_this_refusals q4.2)), (a_this_now, .inr (0, rf_o0 a_this_now_kinds a_this_now_thicks g_this_now)), (a_this_now_kinds, .inl (cA, 6, .inl f_this_now_kinds)), (a_this_now_thicks, .inl (cA, 6, .inl f_this_now_thicks)), (a_this_trial, .inr (0, rf_o0 a_this_trial_kinds a_this_trial_thicks yg_this_trial)), (a_this_trial_kinds, .inl (cA, 6, .inl yf_this_trial_kinds)), (a_this_trial_thicks, .inl (cA, 6, .inl yf_this_trial_thicks))]) ⟨hx, hb, hml, hown, hts⟩ hK hP hD hS hA hE (c_X2_draw l D cA ad a_this a_this_now a_this_then a_this_trial a_this_search a_this_letters a_this_numbers a_this_thickest a_this_refusals H.size yg_this 6 q4 hq4) (cwV 1 hts gX2_eveningHarm_X2_draw rfl rfl rfl hv_X2_draw ⟨Nat.le_of_ble_eq_true rfl, Nat.le_of_ble_eq_true rfl⟩) [0] [1, 2, 3, 4, 5, 6] [6, 0, 1, 2, 3, 4, 5] rfl rfl rfl rfl (by decide) rfl rfl 2 0 rfl rfl rfl rfl rfl hl.1 (Nat.le_of_ble_eq_true rfl) dX2_eveningHarm_57 ⟨Nat.zero_le _, Nat.zero_le _⟩ (fun H locs hP hD hS => ?_)
          obtain ⟨q5, hq5, hf⟩ := rf_bindq hf
          refine rf_Vi (As := [.int q4.1]) (rest := []) (wr := [(a_this, .inr (2, rf_o2 a_this_now a_this_then a_this_trial a_this_search a_this_letters a_this_numbers a_this_thickest a_this_refusals q4.2)), (a_this_now, .inr (0, rf_o0 a_this_now_kinds a_this_now_thicks g_this_now)), (a_this_now_kinds, .inl (cA, 6, .inl f_this_now_kinds)), (a_this_now_thicks, .inl (cA, 6, .inl f_this_now_thicks))]) (wn := [(a_this, .inr (2, rf_o2 a_this_now a_this_then a_this_trial a_this_search a_this_letters a_this_numbers a_this_thickest a_this_refusals q4.2)), (a_this_now, .inr (0, rf_o0 a_this_now_kinds a_this_now_thicks g_this_now)), (a_this_now_kinds, .inl (cA, 6, .inl f_this_now_kinds)), (a_this_now_thicks, .inl (cA, 6, .inl f_this_now_thicks)), (a_this_trial, .inr (0, rf_o0 a_this_trial_kinds a_this_trial_thicks q5.2)), (a_this_trial_kinds, .inl (cA, 6, .inl yf_this_trial_kinds)), (a_this_trial_thicks, .inl (cA, 6, .inl yf_this_trial_thicks))]) ⟨hx, hb, hml, hown, hts⟩ hK hP hD hS hA hE (c_X0_attempt l D cA ad a_this_trial a_this_trial_kinds a_this_trial_thicks H.size yg_this_trial yf_this_trial_kinds yf_this_trial_thicks q4.1 q5 hq5) (cwV 1 hts gX2_eveningHarm_X0_attempt rfl rfl rfl hv_X0_attempt ⟨Nat.le_of_ble_eq_true rfl, Nat.le_of_ble_eq_true rfl⟩) [4, 5, 6] [0, 1, 2, 3] [0, 1, 2, 3, 4, 5, 6] rfl rfl rfl rfl (by decide) rfl rfl 0 4 rfl rfl rfl rfl rfl hl.1 (Nat.le_of_ble_eq_true rfl) dX2_eveningHarm_60 ⟨Nat.zero_le _, Nat.zero_le _⟩ (fun H locs hP hD hS => ?_)
          refine lv_pop hx hb dX2_eveningHarm_63 rfl ?_
          obtain ⟨v6, ev6⟩ : ∃ y : Int32, y = x1 + 1 := ⟨_, rfl⟩
          have hf := rf_bindv hf ev6
          refine lv_iinc (v := v6) (lv' := [(1, .int v6), (0, .ref a_this)]) hx hb dX2_eveningHarm_64 hl (k := 1) rfl (by rw [ev6]; rfl) (by decide) rfl (fun ls hl => ?_)
          clear ev6
          refine lv_goto (tgt := 34) hx hb dX2_eveningHarm_67 (by decide) ?_
          exact ih v6 q4.2 q5.2 ql hf _ _ _ hP hD hS (lv_sub hl [1, 0] rfl) kx
  rw [f_X2_eveningHarm] at hf
  refine lv_aload_n hx hb dX2_eveningHarm_0 rfl (lv_at hl 0 rfl) ?_
  refine va_get (D := D) (ci := 2) (v := .ref a_this_trial) (C := RX2) (T := TX2) (N := 12) hx hb hts jX2_eveningHarm_X2 hown hK hP 0 rfl rfl 2 (by decide) (hts _ kX2_eveningHarm_0) (fun _ h9 => h9) rfl dX2_eveningHarm_1 ?_
  refine lv_aload_n hx hb dX2_eveningHarm_4 rfl (lv_at hl 0 rfl) ?_
  refine va_get (D := D) (ci := 2) (v := .ref a_this_now) (C := RX2) (T := TX2) (N := 12) hx hb hts jX2_eveningHarm_X2 hown hK hP 0 rfl rfl 0 (by decide) (hts _ kX2_eveningHarm_1) (fun _ h9 => h9) rfl dX2_eveningHarm_5 ?_
  obtain ⟨q7, hq7, hf⟩ := rf_bindq hf
  refine rf_Vv (As := [.ref a_this_now]) (rest := []) (wr := [(a_this, .inr (2, rf_o2 a_this_now a_this_then a_this_trial a_this_search a_this_letters a_this_numbers a_this_thickest a_this_refusals g_this))]) (wn := [(a_this, .inr (2, rf_o2 a_this_now a_this_then a_this_trial a_this_search a_this_letters a_this_numbers a_this_thickest a_this_refusals g_this)), (a_this_now, .inr (0, rf_o0 a_this_now_kinds a_this_now_thicks g_this_now)), (a_this_now_kinds, .inl (cA, 6, .inl f_this_now_kinds)), (a_this_now_thicks, .inl (cA, 6, .inl f_this_now_thicks)), (a_this_trial, .inr (0, rf_o0 a_this_trial_kinds a_this_trial_thicks q7.1)), (a_this_trial_kinds, .inl (cA, 6, .inl q7.2.1)), (a_this_trial_thicks, .inl (cA, 6, .inl q7.2.2))]) ⟨hx, hb, hml, hown, hts⟩ hK hP hD hS hA hE (c_X0_copyFrom l D cA ad a_this_trial a_this_trial_kinds a_this_trial_thicks a_this_now a_this_now_kinds a_this_now_thicks s.heap.size g_this_trial f_this_trial_kinds f_this_trial_thicks g_this_now f_this_now_kinds f_this_now_thicks q7 hq7) (cwV 1 hts gX2_eveningHarm_X0_copyFrom rfl rfl rfl hv_X0_copyFrom ⟨Nat.le_of_ble_eq_true rfl, Nat.le_of_ble_eq_true rfl⟩) [4, 5, 6, 1, 2, 3] [0] [0, 4, 5, 6, 1, 2, 3] rfl rfl rfl rfl (by decide) rfl rfl 0 4 rfl rfl rfl rfl rfl hl.1 (Nat.le_of_ble_eq_true rfl) dX2_eveningHarm_8 ⟨Nat.zero_le _, Nat.zero_le _⟩ (fun H locs hP hD hS => ?_)
  refine lv_aload_n hx hb dX2_eveningHarm_11 rfl (lv_at hl 0 rfl) ?_
  refine va_get (D := D) (ci := 2) (v := .ref a_this_trial) (C := RX2) (T := TX2) (N := 12) hx hb hts jX2_eveningHarm_X2 hown hK hP 0 rfl rfl 2 (by decide) (hts _ kX2_eveningHarm_0) (fun _ h9 => h9) rfl dX2_eveningHarm_12 ?_
  refine lv_iconst (v := 0) hx hb dX2_eveningHarm_15 (by decide) ?_
  refine va_put (D := D) (ci := 0) (v := .int 0) (ty := .int) (C := RX0) (T := TX0) (N := 12) hx hb hts jX2_eveningHarm_X0 tyX0 tyX0_ok nmX0 hown hK hP hD hS 4 rfl rfl 11 (by decide) (hts _ kX2_eveningHarm_2) (fun _ h9 => h9) rfl (by decide +kernel) rfl rfl (Nat.le_of_ble_eq_true rfl) dX2_eveningHarm_16 (fun H locs hP hD hS => ?_)
  have hP : va_P D vwCl [(a_this, .inr (2, rf_o2 a_this_now a_this_then a_this_trial a_this_search a_this_letters a_this_numbers a_this_thickest a_this_refusals g_this)), (a_this_now, .inr (0, rf_o0 a_this_now_kinds a_this_now_thicks g_this_now)), (a_this_now_kinds, .inl (cA, 6, .inl f_this_now_kinds)), (a_this_now_thicks, .inl (cA, 6, .inl f_this_now_thicks)), (a_this_trial, .inr (0, rf_o0 a_this_trial_kinds a_this_trial_thicks (upd q7.1 9 0))), (a_this_trial_kinds, .inl (cA, 6, .inl q7.2.1)), (a_this_trial_thicks, .inl (cA, 6, .inl q7.2.2))] H := hP
  have hD : va_D A [(a_this, .inr (2, rf_o2 a_this_now a_this_then a_this_trial a_this_search a_this_letters a_this_numbers a_this_thickest a_this_refusals g_this)), (a_this_now, .inr (0, rf_o0 a_this_now_kinds a_this_now_thicks g_this_now)), (a_this_now_kinds, .inl (cA, 6, .inl f_this_now_kinds)), (a_this_now_thicks, .inl (cA, 6, .inl f_this_now_thicks)), (a_this_trial, .inr (0, rf_o0 a_this_trial_kinds a_this_trial_thicks (upd q7.1 9 0))), (a_this_trial_kinds, .inl (cA, 6, .inl q7.2.1)), (a_this_trial_thicks, .inl (cA, 6, .inl q7.2.2))] := hD
  refine lv_aload_n hx hb dX2_eveningHarm_19 rfl (lv_at hl 0 rfl) ?_
  refine va_get (D := D) (ci := 2) (v := .ref a_this_trial) (C := RX2) (T := TX2) (N := 12) hx hb hts jX2_eveningHarm_X2 hown hK hP 0 rfl rfl 2 (by decide) (hts _ kX2_eveningHarm_0) (fun _ h9 => h9) rfl dX2_eveningHarm_20 ?_
  refine lv_aload_n hx hb dX2_eveningHarm_23 rfl (lv_at hl 0 rfl) ?_
  refine lv_bipush (v := 31) hx hb dX2_eveningHarm_24 (by decide) ?_
  obtain ⟨q8, hq8, hf⟩ := rf_bindq hf
  refine rf_Vi (As := [.int 31]) (rest := [.ref a_this_trial]) (wr := [(a_this_now, .inr (0, rf_o0 a_this_now_kinds a_this_now_thicks g_this_now)), (a_this_now_kinds, .inl (cA, 6, .inl f_this_now_kinds)), (a_this_now_thicks, .inl (cA, 6, .inl f_this_now_thicks)), (a_this_trial, .inr (0, rf_o0 a_this_trial_kinds a_this_trial_thicks (upd q7.1 9 0))), (a_this_trial_kinds, .inl (cA, 6, .inl q7.2.1)), (a_this_trial_thicks, .inl (cA, 6, .inl q7.2.2))]) (wn := [(a_this, .inr (2, rf_o2 a_this_now a_this_then a_this_trial a_this_search a_this_letters a_this_numbers a_this_thickest a_this_refusals q8.2)), (a_this_now, .inr (0, rf_o0 a_this_now_kinds a_this_now_thicks g_this_now)), (a_this_now_kinds, .inl (cA, 6, .inl f_this_now_kinds)), (a_this_now_thicks, .inl (cA, 6, .inl f_this_now_thicks)), (a_this_trial, .inr (0, rf_o0 a_this_trial_kinds a_this_trial_thicks (upd q7.1 9 0))), (a_this_trial_kinds, .inl (cA, 6, .inl q7.2.1)), (a_this_trial_thicks, .inl (cA, 6, .inl q7.2.2))]) ⟨hx, hb, hml, hown, hts⟩ hK hP hD hS hA hE (c_X2_draw l D cA ad a_this a_this_now a_this_then a_this_trial a_this_search a_this_letters a_this_numbers a_this_thickest a_this_refusals H.size g_this 31 q8 hq8) (cwV 1 hts gX2_eveningHarm_X2_draw rfl rfl rfl hv_X2_draw ⟨Nat.le_of_ble_eq_true rfl, Nat.le_of_ble_eq_true rfl⟩) [0] [1, 2, 3, 4, 5, 6] [6, 0, 1, 2, 3, 4, 5] rfl rfl rfl rfl (by decide) rfl rfl 2 0 rfl rfl rfl rfl rfl hl.1 (Nat.le_of_ble_eq_true rfl) dX2_eveningHarm_26 ⟨Nat.zero_le _, Nat.zero_le _⟩ (fun H locs hP hD hS => ?_)
  refine va_put (D := D) (ci := 0) (v := .int q8.1) (ty := .int) (C := RX0) (T := TX0) (N := 12) hx hb hts jX2_eveningHarm_X0 tyX0 tyX0_ok nmX0 hown hK hP hD hS 4 rfl rfl 6 (by decide) (hts _ kX2_eveningHarm_3) (fun _ h9 => h9) rfl (by decide +kernel) rfl rfl (Nat.le_of_ble_eq_true rfl) dX2_eveningHarm_29 (fun H locs hP hD hS => ?_)
  have hP : va_P D vwCl [(a_this, .inr (2, rf_o2 a_this_now a_this_then a_this_trial a_this_search a_this_letters a_this_numbers a_this_thickest a_this_refusals q8.2)), (a_this_now, .inr (0, rf_o0 a_this_now_kinds a_this_now_thicks g_this_now)), (a_this_now_kinds, .inl (cA, 6, .inl f_this_now_kinds)), (a_this_now_thicks, .inl (cA, 6, .inl f_this_now_thicks)), (a_this_trial, .inr (0, rf_o0 a_this_trial_kinds a_this_trial_thicks (upd (upd q7.1 9 0) 4 q8.1))), (a_this_trial_kinds, .inl (cA, 6, .inl q7.2.1)), (a_this_trial_thicks, .inl (cA, 6, .inl q7.2.2))] H := hP
  have hD : va_D A [(a_this, .inr (2, rf_o2 a_this_now a_this_then a_this_trial a_this_search a_this_letters a_this_numbers a_this_thickest a_this_refusals q8.2)), (a_this_now, .inr (0, rf_o0 a_this_now_kinds a_this_now_thicks g_this_now)), (a_this_now_kinds, .inl (cA, 6, .inl f_this_now_kinds)), (a_this_now_thicks, .inl (cA, 6, .inl f_this_now_thicks)), (a_this_trial, .inr (0, rf_o0 a_this_trial_kinds a_this_trial_thicks (upd (upd q7.1 9 0) 4 q8.1))), (a_this_trial_kinds, .inl (cA, 6, .inl q7.2.1)), (a_this_trial_thicks, .inl (cA, 6, .inl q7.2.2))] := hD
  refine lv_iconst (v := 0) hx hb dX2_eveningHarm_32 (by decide) ?_
  refine lv_istore_n (lv' := [(1, .int 0), (0, .ref a_this)]) hx hb dX2_eveningHarm_33 rfl hl (by decide) rfl (fun ls hl => ?_)
  obtain ⟨q9, hq9, hf⟩ := rf_bindq hf
  refine key_34 q7.2.1 q7.2.2 rf_fu 0 q8.2 (upd (upd q7.1 9 0) 4 q8.1) q9 hq9 _ _ _ hP hD hS (lv_sub hl [1, 0] rfl) (fun H locs ls hP hD hS hl => ?_)
  refine lv_aload_n hx hb dX2_eveningHarm_70 rfl (lv_at hl 0 rfl) ?_
  refine va_get (D := D) (ci := 2) (v := .ref a_this_trial) (C := RX2) (T := TX2) (N := 12) hx hb hts jX2_eveningHarm_X2 hown hK hP 0 rfl rfl 2 (by decide) (hts _ kX2_eveningHarm_0) (fun _ h9 => h9) rfl dX2_eveningHarm_71 ?_
  refine va_get (D := D) (ci := 0) (v := .int (q9.2.2 9)) (C := RX0) (T := TX0) (N := 12) hx hb hts jX2_eveningHarm_X0 hown hK hP 4 rfl rfl 11 (by decide) (hts _ kX2_eveningHarm_2) (fun _ h9 => h9) rfl dX2_eveningHarm_74 ?_
  obtain rfl := Option.some.inj hf
  exact W.iret (v := (q9.2.2 9)) hx hb hr (fun t ht hW => ⟨⟨(q9.2.2 9), (), rfl, rfl, rf_mk ht hP hD⟩, hS.F ht⟩) hS.2.2 dX2_eveningHarm_77
theorem kX2_lots_0 : (.fieldLink RX2 53 "RingAndFinger" "seed" "I" : Cond) ∈ wsX2_lots := by decide +kernel
theorem jX2_lots_X2 : ∀ w ∈ u_ws RX2 TX2 12, w ∈ wsX2_lots := by decide +kernel
set_option maxHeartbeats 8000000 in
set_option maxRecDepth 100000 in
theorem c_X2_lots (l : Launch) (D : va_G) (cA : ClassId) (ad : Nat → Nat) (a_this a_this_now a_this_then a_this_trial a_this_search a_this_letters a_this_numbers a_this_thickest a_this_refusals a_this_now_kinds a_this_now_thicks a_this_trial_kinds a_this_trial_thicks : Nat) (sz : Nat) (g_this g_this_now f_this_now_kinds f_this_now_thicks g_this_trial f_this_trial_kinds f_this_trial_thicks f_this_refusals : Nat → Int32) (p1 p2 : Int32) (q : Int32 × (Nat → Int32) × (Nat → Int32) × (Nat → Int32) × (Nat → Int32) × (Nat → Int32)) (hf : f_X2_lots g_this g_this_now f_this_now_kinds f_this_now_thicks g_this_trial f_this_trial_kinds f_this_trial_thicks f_this_refusals p1 p2 = some q) : Met l yX2_lots wsX2_lots ({ frames := 5, cells := 0, slots := 0, locals := 112 } : Room) (va_Pc [.ref a_this, .int p1, .int p2] (rf_Pre D cA ad [(a_this, .inr (2, rf_o2 a_this_now a_this_then a_this_trial a_this_search a_this_letters a_this_numbers a_this_thickest a_this_refusals g_this)), (a_this_now, .inr (0, rf_o0 a_this_now_kinds a_this_now_thicks g_this_now)), (a_this_now_kinds, .inl (cA, 6, .inl f_this_now_kinds)), (a_this_now_thicks, .inl (cA, 6, .inl f_this_now_thicks)), (a_this_trial, .inr (0, rf_o0 a_this_trial_kinds a_this_trial_thicks g_this_trial)), (a_this_trial_kinds, .inl (cA, 6, .inl f_this_trial_kinds)), (a_this_trial_thicks, .inl (cA, 6, .inl f_this_trial_thicks)), (a_this_refusals, .inl (cA, 7, .inl f_this_refusals))] sz)) (va_Qi (fun (r : Int32) (_ : Unit) => r = q.1) (fun _ t => rf_Post D (va_A [(a_this, .inr (2, rf_o2 a_this_now a_this_then a_this_trial a_this_search a_this_letters a_this_numbers a_this_thickest a_this_refusals g_this)), (a_this_now, .inr (0, rf_o0 a_this_now_kinds a_this_now_thicks g_this_now)), (a_this_now_kinds, .inl (cA, 6, .inl f_this_now_kinds)), (a_this_now_thicks, .inl (cA, 6, .inl f_this_now_thicks)), (a_this_trial, .inr (0, rf_o0 a_this_trial_kinds a_this_trial_thicks g_this_trial)), (a_this_trial_kinds, .inl (cA, 6, .inl f_this_trial_kinds)), (a_this_trial_thicks, .inl (cA, 6, .inl f_this_trial_thicks)), (a_this_refusals, .inl (cA, 7, .inl f_this_refusals))] sz) [(a_this, .inr (2, rf_o2 a_this_now a_this_then a_this_trial a_this_search a_this_letters a_this_numbers a_this_thickest a_this_refusals q.2.1)), (a_this_now, .inr (0, rf_o0 a_this_now_kinds a_this_now_thicks g_this_now)), (a_this_now_kinds, .inl (cA, 6, .inl f_this_now_kinds)), (a_this_now_thicks, .inl (cA, 6, .inl f_this_now_thicks)), (a_this_trial, .inr (0, rf_o0 a_this_trial_kinds a_this_trial_thicks q.2.2.1)), (a_this_trial_kinds, .inl (cA, 6, .inl q.2.2.2.1)), (a_this_trial_thicks, .inl (cA, 6, .inl q.2.2.2.2.1)), (a_this_refusals, .inl (cA, 7, .inl q.2.2.2.2.2))] t) (va_A [(a_this, .inr (2, rf_o2 a_this_now a_this_then a_this_trial a_this_search a_this_letters a_this_numbers a_this_thickest a_this_refusals g_this)), (a_this_now, .inr (0, rf_o0 a_this_now_kinds a_this_now_thicks g_this_now)), (a_this_now_kinds, .inl (cA, 6, .inl f_this_now_kinds)), (a_this_now_thicks, .inl (cA, 6, .inl f_this_now_thicks)), (a_this_trial, .inr (0, rf_o0 a_this_trial_kinds a_this_trial_thicks g_this_trial)), (a_this_trial_kinds, .inl (cA, 6, .inl f_this_trial_kinds)), (a_this_trial_thicks, .inl (cA, 6, .inl f_this_trial_thicks)), (a_this_refusals, .inl (cA, 7, .inl f_this_refusals))] sz)) 0 0 (va_A [(a_this, .inr (2, rf_o2 a_this_now a_this_then a_this_trial a_this_search a_this_letters a_this_numbers a_this_thickest a_this_refusals g_this)), (a_this_now, .inr (0, rf_o0 a_this_now_kinds a_this_now_thicks g_this_now)), (a_this_now_kinds, .inl (cA, 6, .inl f_this_now_kinds)), (a_this_now_thicks, .inl (cA, 6, .inl f_this_now_thicks)), (a_this_trial, .inr (0, rf_o0 a_this_trial_kinds a_this_trial_thicks g_this_trial)), (a_this_trial_kinds, .inl (cA, 6, .inl f_this_trial_kinds)), (a_this_trial_thicks, .inl (cA, 6, .inl f_this_trial_thicks)), (a_this_refusals, .inl (cA, 7, .inl f_this_refusals))] sz) := by
  refine Met.ofW (cc := cX2_lots) (maxL := 5) (ret := (some .int)) (by decide) rfl ?_
  intro p e s m args below meth c s₁ B hml hv
  obtain ⟨rfl, hsz, hP, hK, hD0, hE⟩ := hv
  have hx := B.exec
  have hb := B.bytes
  have hr := B.returns
  have hts := atoms_spec (ws := wsX2_lots) B.pre
  have hown : s.vm.findClass RX2 = some m.cls := findClass_of_methodNamed B.named
  have hlocks := B.notSynchronized
  subst hsz
  have hD := hD0.self (sz := s.heap.size)
  generalize hAe : va_A [(a_this, .inr (2, rf_o2 a_this_now a_this_then a_this_trial a_this_search a_this_letters a_this_numbers a_this_thickest a_this_refusals g_this)), (a_this_now, .inr (0, rf_o0 a_this_now_kinds a_this_now_thicks g_this_now)), (a_this_now_kinds, .inl (cA, 6, .inl f_this_now_kinds)), (a_this_now_thicks, .inl (cA, 6, .inl f_this_now_thicks)), (a_this_trial, .inr (0, rf_o0 a_this_trial_kinds a_this_trial_thicks g_this_trial)), (a_this_trial_kinds, .inl (cA, 6, .inl f_this_trial_kinds)), (a_this_trial_thicks, .inl (cA, 6, .inl f_this_trial_thicks)), (a_this_refusals, .inl (cA, 7, .inl f_this_refusals))] s.heap.size = A at hD hE ⊢
  have hA : ∀ q : Nat, s.heap.size ≤ q → A q := fun q h => by rw [← hAe]; exact Or.inr h
  have hS : va_S A s.heap s.heap [] := va_S.rf
  have hP : va_P D vwCl [(a_this, .inr (2, rf_o2 a_this_now a_this_then a_this_trial a_this_search a_this_letters a_this_numbers a_this_thickest a_this_refusals g_this)), (a_this_now, .inr (0, rf_o0 a_this_now_kinds a_this_now_thicks g_this_now)), (a_this_now_kinds, .inl (cA, 6, .inl f_this_now_kinds)), (a_this_now_thicks, .inl (cA, 6, .inl f_this_now_thicks)), (a_this_trial, .inr (0, rf_o0 a_this_trial_kinds a_this_trial_thicks g_this_trial)), (a_this_trial_kinds, .inl (cA, 6, .inl f_this_trial_kinds)), (a_this_trial_thicks, .inl (cA, 6, .inl f_this_trial_thicks)), (a_this_refusals, .inl (cA, 7, .inl f_this_refusals))] s.heap := hP
  have hl := lv_entry ([.ref a_this, .int p1, .int p2]) (n := 5) (Nat.le_of_ble_eq_true rfl)
  rw [lg_entry_eq]
  generalize (lg_sl ([.ref a_this, .int p1, .int p2]) ++ List.replicate (5 - (lg_sl ([.ref a_this, .int p1, .int p2])).length) Slot.unset).toArray = ls at hl ⊢
  have hl : lv_has ls 5 [(0, .ref a_this), (1, .int p1), (2, .int p2)] := hl
  have key_35 : ∀ (yf_this_refusals : Nat → Int32) (n : Nat) (x3 x4 : Int32) (yg_this yg_this_trial yf_this_trial_kinds yf_this_trial_thicks : Nat → Int32) (ql : Int32 × Int32 × (Nat → Int32) × (Nat → Int32) × (Nat → Int32) × (Nat → Int32)), f_X2_lots_L35 g_this_now f_this_now_kinds f_this_now_thicks p1 p2 yf_this_refusals n x3 x4 yg_this yg_this_trial yf_this_trial_kinds yf_this_trial_thicks = some ql → ∀ (H : Heap) (locs : List Loc) (ls : Array Slot), va_P D vwCl [(a_this, .inr (2, rf_o2 a_this_now a_this_then a_this_trial a_this_search a_this_letters a_this_numbers a_this_thickest a_this_refusals yg_this)), (a_this_now, .inr (0, rf_o0 a_this_now_kinds a_this_now_thicks g_this_now)), (a_this_now_kinds, .inl (cA, 6, .inl f_this_now_kinds)), (a_this_now_thicks, .inl (cA, 6, .inl f_this_now_thicks)), (a_this_trial, .inr (0, rf_o0 a_this_trial_kinds a_this_trial_thicks yg_this_trial)), (a_this_trial_kinds, .inl (cA, 6, .inl yf_this_trial_kinds)), (a_this_trial_thicks, .inl (cA, 6, .inl yf_this_trial_thicks)), (a_this_refusals, .inl (cA, 7, .inl yf_this_refusals))] H → va_D A [(a_this, .inr (2, rf_o2 a_this_now a_this_then a_this_trial a_this_search a_this_letters a_this_numbers a_this_thickest a_this_refusals yg_this)), (a_this_now, .inr (0, rf_o0 a_this_now_kinds a_this_now_thicks g_this_now)), (a_this_now_kinds, .inl (cA, 6, .inl f_this_now_kinds)), (a_this_now_thicks, .inl (cA, 6, .inl f_this_now_thicks)), (a_this_trial, .inr (0, rf_o0 a_this_trial_kinds a_this_trial_thicks yg_this_trial)), (a_this_trial_kinds, .inl (cA, 6, .inl yf_this_trial_kinds)), (a_this_trial_thicks, .inl (cA, 6, .inl yf_this_trial_thicks)), (a_this_refusals, .inl (cA, 7, .inl yf_this_refusals))] → va_S A s.heap H locs → lv_has ls 5 [(0, .ref a_this), (1, .int p1), (3, .int x3), (4, .int x4)] → (∀ (H : Heap) (locs : List Loc) (ls : Array Slot), va_P D vwCl [(a_this, .inr (2, rf_o2 a_this_now a_this_then a_this_trial a_this_search a_this_letters a_this_numbers a_this_thickest a_this_refusals ql.2.2.1)), (a_this_now, .inr (0, rf_o0 a_this_now_kinds a_this_now_thicks g_this_now)), (a_this_now_kinds, .inl (cA, 6, .inl f_this_now_kinds)), (a_this_now_thicks, .inl (cA, 6, .inl f_this_now_thicks)), (a_this_trial, .inr (0, rf_o0 a_this_trial_kinds a_this_trial_thicks ql.2.2.2.1)), (a_this_trial_kinds, .inl (cA, 6, .inl ql.2.2.2.2.1)), (a_this_trial_thicks, .inl (cA, 6, .inl ql.2.2.2.2.2)), (a_this_refusals, .inl (cA, 7, .inl yf_this_refusals))] H → va_D A [(a_this, .inr (2, rf_o2 a_this_now a_this_then a_this_trial a_this_search a_this_letters a_this_numbers a_this_thickest a_this_refusals ql.2.2.1)), (a_this_now, .inr (0, rf_o0 a_this_now_kinds a_this_now_thicks g_this_now)), (a_this_now_kinds, .inl (cA, 6, .inl f_this_now_kinds)), (a_this_now_thicks, .inl (cA, 6, .inl f_this_now_thicks)), (a_this_trial, .inr (0, rf_o0 a_this_trial_kinds a_this_trial_thicks ql.2.2.2.1)), (a_this_trial_kinds, .inl (cA, 6, .inl ql.2.2.2.2.1)), (a_this_trial_thicks, .inl (cA, 6, .inl ql.2.2.2.2.2)), (a_this_refusals, .inl (cA, 7, .inl yf_this_refusals))] → va_S A s.heap H locs → lv_has ls 5 [(0, .ref a_this), (1, .int p1), (3, .int ql.1), (4, .int ql.2.1)] → W p l e (headSpec wsX2_lots ({ frames := 5, cells := 0, slots := 0, locals := 112 } : Room)).room s m ([.ref a_this, .int p1, .int p2] : List Value).toArray below meth c H locs 0 0 (MQ below (va_Qi (fun (r : Int32) (_ : Unit) => r = q.1) (fun _ t => rf_Post D A [(a_this, .inr (2, rf_o2 a_this_now a_this_then a_this_trial a_this_search a_this_letters a_this_numbers a_this_thickest a_this_refusals q.2.1)), (a_this_now, .inr (0, rf_o0 a_this_now_kinds a_this_now_thicks g_this_now)), (a_this_now_kinds, .inl (cA, 6, .inl f_this_now_kinds)), (a_this_now_thicks, .inl (cA, 6, .inl f_this_now_thicks)), (a_this_trial, .inr (0, rf_o0 a_this_trial_kinds a_this_trial_thicks q.2.2.1)), (a_this_trial_kinds, .inl (cA, 6, .inl q.2.2.2.1)), (a_this_trial_thicks, .inl (cA, 6, .inl q.2.2.2.2.1)), (a_this_refusals, .inl (cA, 7, .inl q.2.2.2.2.2))] t) A) ([.ref a_this, .int p1, .int p2] : List Value).toArray s 0 0 A) (F0 m 54 ls [])) → W p l e (headSpec wsX2_lots ({ frames := 5, cells := 0, slots := 0, locals := 112 } : Room)).room s m ([.ref a_this, .int p1, .int p2] : List Value).toArray below meth c H locs 0 0 (MQ below (va_Qi (fun (r : Int32) (_ : Unit) => r = q.1) (fun _ t => rf_Post D A [(a_this, .inr (2, rf_o2 a_this_now a_this_then a_this_trial a_this_search a_this_letters a_this_numbers a_this_thickest a_this_refusals q.2.1)), (a_this_now, .inr (0, rf_o0 a_this_now_kinds a_this_now_thicks g_this_now)), (a_this_now_kinds, .inl (cA, 6, .inl f_this_now_kinds)), (a_this_now_thicks, .inl (cA, 6, .inl f_this_now_thicks)), (a_this_trial, .inr (0, rf_o0 a_this_trial_kinds a_this_trial_thicks q.2.2.1)), (a_this_trial_kinds, .inl (cA, 6, .inl q.2.2.2.1)), (a_this_trial_thicks, .inl (cA, 6, .inl q.2.2.2.2.1)), (a_this_refusals, .inl (cA, 7, .inl q.2.2.2.2.2))] t) A) ([.ref a_this, .int p1, .int p2] : List Value).toArray s 0 0 A) (F0 m 35 ls []) := by
    intro yf_this_refusals n
    induction n with
    | zero =>
      intro x3 x4 yg_this yg_this_trial yf_this_trial_kinds yf_this_trial_thicks ql hf H locs ls hP hD hS hl kx
      exact absurd (show (none : Option (Int32 × Int32 × (Nat → Int32) × (Nat → Int32) × (Nat → Int32) × (Nat → Int32))) = some ql from hf) (fun h9 => by cases h9)
    | succ n ih =>
      intro x3 x4 yg_this yg_this_trial yf_this_trial_kinds yf_this_trial_thicks ql hf H locs ls hP hD hS hl kx
      rw [f_X2_lots_L35] at hf
      refine lv_iload hx hb dX2_lots_35 (lv_at hl 3 rfl) ?_
      refine lv_iload_n hx hb dX2_lots_37 rfl (lv_at hl 1 rfl) ?_
      refine lv_icmp_ge (tgt := 54) hx hb dX2_lots_38 (by decide) (fun c1 => ?_) (fun c1 => ?_)
      · have hf := rf_ifp hf c1
        obtain rfl := Option.some.inj hf
        exact kx _ _ _ hP hD hS (lv_sub hl [0, 1, 2, 3] rfl)
      · have hf := rf_ifn hf c1
        refine lv_iload_n hx hb dX2_lots_41 rfl (lv_at hl 2 rfl) ?_
        refine lv_aload_n hx hb dX2_lots_42 rfl (lv_at hl 0 rfl) ?_
        obtain ⟨q2, hq2, hf⟩ := rf_bindq hf
        refine rf_Vi (As := []) (rest := [.int x3]) (wr := [(a_this_refusals, .inl (cA, 7, .inl yf_this_refusals))]) (wn := [(a_this, .inr (2, rf_o2 a_this_now a_this_then a_this_trial a_this_search a_this_letters a_this_numbers a_this_thickest a_this_refusals q2.2.1)), (a_this_now, .inr (0, rf_o0 a_this_now_kinds a_this_now_thicks g_this_now)), (a_this_now_kinds, .inl (cA, 6, .inl f_this_now_kinds)), (a_this_now_thicks, .inl (cA, 6, .inl f_this_now_thicks)), (a_this_trial, .inr (0, rf_o0 a_this_trial_kinds a_this_trial_thicks q2.2.2.1)), (a_this_trial_kinds, .inl (cA, 6, .inl q2.2.2.2.1)), (a_this_trial_thicks, .inl (cA, 6, .inl q2.2.2.2.2)), (a_this_refusals, .inl (cA, 7, .inl yf_this_refusals))]) ⟨hx, hb, hml, hown, hts⟩ hK hP hD hS hA hE (c_X2_eveningHarm l D cA ad a_this a_this_now a_this_then a_this_trial a_this_search a_this_letters a_this_numbers a_this_thickest a_this_refusals a_this_now_kinds a_this_now_thicks a_this_trial_kinds a_this_trial_thicks H.size yg_this g_this_now f_this_now_kinds f_this_now_thicks yg_this_trial yf_this_trial_kinds yf_this_trial_thicks q2 hq2) (cwV 0 hts gX2_lots_X2_eveningHarm rfl rfl rfl hv_X2_eveningHarm ⟨Nat.le_of_ble_eq_true rfl, Nat.le_of_ble_eq_true rfl⟩) [0, 1, 2, 3, 4, 5, 6] [7] [1, 2, 3, 4, 5, 6, 7, 0] rfl rfl rfl rfl (by decide) rfl rfl 2 0 rfl rfl rfl rfl rfl hl.1 (Nat.le_of_ble_eq_true rfl) dX2_lots_43 ⟨Nat.zero_le _, Nat.zero_le _⟩ (fun H locs hP hD hS => ?_)
        refine lv_iadd hx hb dX2_lots_46 ?_
        refine lv_topi (fun v3 ev3 => ?_)
        have hf := rf_bindv hf ev3
        clear ev3
        refine lv_istore_n (lv' := [(3, .int v3), (0, .ref a_this), (1, .int p1), (4, .int x4)]) hx hb dX2_lots_47 rfl hl (by decide) rfl (fun ls hl => ?_)
        obtain ⟨v4, ev4⟩ : ∃ y : Int32, y = x4 + 1 := ⟨_, rfl⟩
        have hf := rf_bindv hf ev4
        refine lv_iinc (v := v4) (lv' := [(4, .int v4), (3, .int v3), (0, .ref a_this), (1, .int p1)]) hx hb dX2_lots_48 hl (k := 3) rfl (by rw [ev4]; rfl) (by decide) rfl (fun ls hl => ?_)
        clear ev4
        refine lv_goto (tgt := 35) hx hb dX2_lots_51 (by decide) ?_
        exact ih v3 v4 q2.2.1 q2.2.2.1 q2.2.2.2.1 q2.2.2.2.2 ql hf _ _ _ hP hD hS (lv_sub hl [2, 3, 1, 0] rfl) kx
  rw [f_X2_lots] at hf
  refine lv_iload_n hx hb dX2_lots_0 rfl (lv_at hl 1 rfl) ?_
  refine lv_iconst (v := 1) hx hb dX2_lots_1 (by decide) ?_
  refine lv_icmp_ge (tgt := 12) hx hb dX2_lots_2 (by decide) (fun c5 => ?_) (fun c5 => ?_)
  · have hf := rf_ifp hf c5
    refine lv_iload_n hx hb dX2_lots_12 rfl (lv_at hl 1 rfl) ?_
    refine lv_bipush (v := 20) hx hb dX2_lots_13 (by decide) ?_
    refine lv_icmp_le (tgt := 25) hx hb dX2_lots_15 (by decide) (fun c6 => ?_) (fun c6 => ?_)
    · have hf := rf_ifp hf c6
      refine lv_aload_n hx hb dX2_lots_25 rfl (lv_at hl 0 rfl) ?_
      refine lv_iload_n hx hb dX2_lots_26 rfl (lv_at hl 2 rfl) ?_
      refine va_put (D := D) (ci := 2) (v := .int p2) (ty := .int) (C := RX2) (T := TX2) (N := 12) hx hb hts jX2_lots_X2 tyX2 tyX2_ok nmX2 hown hK hP hD hS 0 rfl rfl 11 (by decide) (hts _ kX2_lots_0) (fun _ h9 => h9) rfl (by decide +kernel) rfl rfl (Nat.le_of_ble_eq_true rfl) dX2_lots_27 (fun H locs hP hD hS => ?_)
      have hP : va_P D vwCl [(a_this, .inr (2, rf_o2 a_this_now a_this_then a_this_trial a_this_search a_this_letters a_this_numbers a_this_thickest a_this_refusals (upd g_this 3 p2))), (a_this_now, .inr (0, rf_o0 a_this_now_kinds a_this_now_thicks g_this_now)), (a_this_now_kinds, .inl (cA, 6, .inl f_this_now_kinds)), (a_this_now_thicks, .inl (cA, 6, .inl f_this_now_thicks)), (a_this_trial, .inr (0, rf_o0 a_this_trial_kinds a_this_trial_thicks g_this_trial)), (a_this_trial_kinds, .inl (cA, 6, .inl f_this_trial_kinds)), (a_this_trial_thicks, .inl (cA, 6, .inl f_this_trial_thicks)), (a_this_refusals, .inl (cA, 7, .inl f_this_refusals))] H := hP
      have hD : va_D A [(a_this, .inr (2, rf_o2 a_this_now a_this_then a_this_trial a_this_search a_this_letters a_this_numbers a_this_thickest a_this_refusals (upd g_this 3 p2))), (a_this_now, .inr (0, rf_o0 a_this_now_kinds a_this_now_thicks g_this_now)), (a_this_now_kinds, .inl (cA, 6, .inl f_this_now_kinds)), (a_this_now_thicks, .inl (cA, 6, .inl f_this_now_thicks)), (a_this_trial, .inr (0, rf_o0 a_this_trial_kinds a_this_trial_thicks g_this_trial)), (a_this_trial_kinds, .inl (cA, 6, .inl f_this_trial_kinds)), (a_this_trial_thicks, .inl (cA, 6, .inl f_this_trial_thicks)), (a_this_refusals, .inl (cA, 7, .inl f_this_refusals))] := hD
      refine lv_iconst (v := 0) hx hb dX2_lots_30 (by decide) ?_
      refine lv_istore_n (lv' := [(3, .int 0), (0, .ref a_this), (1, .int p1), (2, .int p2)]) hx hb dX2_lots_31 rfl hl (by decide) rfl (fun ls hl => ?_)
      refine lv_iconst (v := 0) hx hb dX2_lots_32 (by decide) ?_
      refine lv_istore (lv' := [(4, .int 0), (3, .int 0), (0, .ref a_this), (1, .int p1), (2, .int p2)]) hx hb dX2_lots_33 hl (by decide) rfl (fun ls hl => ?_)
      obtain ⟨q7, hq7, hf⟩ := rf_bindq hf
      refine key_35 f_this_refusals rf_fu 0 0 (upd g_this 3 p2) g_this_trial f_this_trial_kinds f_this_trial_thicks q7 hq7 _ _ _ hP hD hS (lv_sub hl [2, 3, 1, 0] rfl) (fun H locs ls hP hD hS hl => ?_)
      refine lv_iload_n hx hb dX2_lots_54 rfl (lv_at hl 2 rfl) ?_
      obtain rfl := Option.some.inj hf
      exact W.iret (v := q7.1) hx hb hr (fun t ht hW => ⟨⟨q7.1, (), rfl, rfl, rf_mk ht hP hD⟩, hS.F ht⟩) hS.2.2 dX2_lots_55
    · have hf := rf_ifn hf c6
      refine lv_aload_n hx hb dX2_lots_18 rfl (lv_at hl 0 rfl) ?_
      refine lv_bipush (v := (-6)) hx hb dX2_lots_19 (by decide) ?_
      obtain ⟨q8, hq8, hf⟩ := rf_bindq hf
      refine rf_Vi (As := [.int (-6)]) (rest := []) (wr := [(a_this_now, .inr (0, rf_o0 a_this_now_kinds a_this_now_thicks g_this_now)), (a_this_now_kinds, .inl (cA, 6, .inl f_this_now_kinds)), (a_this_now_thicks, .inl (cA, 6, .inl f_this_now_thicks)), (a_this_trial, .inr (0, rf_o0 a_this_trial_kinds a_this_trial_thicks g_this_trial)), (a_this_trial_kinds, .inl (cA, 6, .inl f_this_trial_kinds)), (a_this_trial_thicks, .inl (cA, 6, .inl f_this_trial_thicks))]) (wn := [(a_this, .inr (2, rf_o2 a_this_now a_this_then a_this_trial a_this_search a_this_letters a_this_numbers a_this_thickest a_this_refusals g_this)), (a_this_now, .inr (0, rf_o0 a_this_now_kinds a_this_now_thicks g_this_now)), (a_this_now_kinds, .inl (cA, 6, .inl f_this_now_kinds)), (a_this_now_thicks, .inl (cA, 6, .inl f_this_now_thicks)), (a_this_trial, .inr (0, rf_o0 a_this_trial_kinds a_this_trial_thicks g_this_trial)), (a_this_trial_kinds, .inl (cA, 6, .inl f_this_trial_kinds)), (a_this_trial_thicks, .inl (cA, 6, .inl f_this_trial_thicks)), (a_this_refusals, .inl (cA, 7, .inl q8.2))]) ⟨hx, hb, hml, hown, hts⟩ hK hP hD hS hA hE (c_X2_refuse l D cA ad a_this a_this_now a_this_then a_this_trial a_this_search a_this_letters a_this_numbers a_this_thickest a_this_refusals s.heap.size g_this f_this_refusals (-6) q8 hq8) (cwV 1 hts gX2_lots_X2_refuse rfl rfl rfl hv_X2_refuse ⟨Nat.le_of_ble_eq_true rfl, Nat.le_of_ble_eq_true rfl⟩) [0, 7] [1, 2, 3, 4, 5, 6] [6, 0, 1, 2, 3, 4, 5, 7] rfl rfl rfl rfl (by decide) rfl rfl 2 0 rfl rfl rfl rfl rfl hl.1 (Nat.le_of_ble_eq_true rfl) dX2_lots_21 ⟨Nat.zero_le _, Nat.zero_le _⟩ (fun H locs hP hD hS => ?_)
      obtain rfl := Option.some.inj hf
      exact W.iret (v := q8.1) hx hb hr (fun t ht hW => ⟨⟨q8.1, (), rfl, rfl, rf_mk ht hP hD⟩, hS.F ht⟩) hS.2.2 dX2_lots_24
  · have hf := rf_ifn hf c5
    refine lv_aload_n hx hb dX2_lots_5 rfl (lv_at hl 0 rfl) ?_
    refine lv_bipush (v := (-4)) hx hb dX2_lots_6 (by decide) ?_
    obtain ⟨q9, hq9, hf⟩ := rf_bindq hf
    refine rf_Vi (As := [.int (-4)]) (rest := []) (wr := [(a_this_now, .inr (0, rf_o0 a_this_now_kinds a_this_now_thicks g_this_now)), (a_this_now_kinds, .inl (cA, 6, .inl f_this_now_kinds)), (a_this_now_thicks, .inl (cA, 6, .inl f_this_now_thicks)), (a_this_trial, .inr (0, rf_o0 a_this_trial_kinds a_this_trial_thicks g_this_trial)), (a_this_trial_kinds, .inl (cA, 6, .inl f_this_trial_kinds)), (a_this_trial_thicks, .inl (cA, 6, .inl f_this_trial_thicks))]) (wn := [(a_this, .inr (2, rf_o2 a_this_now a_this_then a_this_trial a_this_search a_this_letters a_this_numbers a_this_thickest a_this_refusals g_this)), (a_this_now, .inr (0, rf_o0 a_this_now_kinds a_this_now_thicks g_this_now)), (a_this_now_kinds, .inl (cA, 6, .inl f_this_now_kinds)), (a_this_now_thicks, .inl (cA, 6, .inl f_this_now_thicks)), (a_this_trial, .inr (0, rf_o0 a_this_trial_kinds a_this_trial_thicks g_this_trial)), (a_this_trial_kinds, .inl (cA, 6, .inl f_this_trial_kinds)), (a_this_trial_thicks, .inl (cA, 6, .inl f_this_trial_thicks)), (a_this_refusals, .inl (cA, 7, .inl q9.2))]) ⟨hx, hb, hml, hown, hts⟩ hK hP hD hS hA hE (c_X2_refuse l D cA ad a_this a_this_now a_this_then a_this_trial a_this_search a_this_letters a_this_numbers a_this_thickest a_this_refusals s.heap.size g_this f_this_refusals (-4) q9 hq9) (cwV 1 hts gX2_lots_X2_refuse rfl rfl rfl hv_X2_refuse ⟨Nat.le_of_ble_eq_true rfl, Nat.le_of_ble_eq_true rfl⟩) [0, 7] [1, 2, 3, 4, 5, 6] [6, 0, 1, 2, 3, 4, 5, 7] rfl rfl rfl rfl (by decide) rfl rfl 2 0 rfl rfl rfl rfl rfl hl.1 (Nat.le_of_ble_eq_true rfl) dX2_lots_8 ⟨Nat.zero_le _, Nat.zero_le _⟩ (fun H locs hP hD hS => ?_)
    obtain rfl := Option.some.inj hf
    exact W.iret (v := q9.1) hx hb hr (fun t ht hW => ⟨⟨q9.1, (), rfl, rfl, rf_mk ht hP hD⟩, hS.F ht⟩) hS.2.2 dX2_lots_11
theorem kX2_image_0 : (.fieldLink RX2 16 "RingAndFinger" "then" "LRingAndFinger$Finger;" : Cond) ∈ wsX2_image := by decide +kernel
theorem kX2_image_1 : (.fieldLink RX2 10 "RingAndFinger" "now" "LRingAndFinger$Finger;" : Cond) ∈ wsX2_image := by decide +kernel
theorem kX2_image_2 : (.fieldLink RX2 49 "RingAndFinger" "imaged" "Z" : Cond) ∈ wsX2_image := by decide +kernel
theorem kX2_image_3 : (.fieldLink RX2 136 "RingAndFinger$Finger" "minute" "I" : Cond) ∈ wsX2_image := by decide +kernel
theorem jX2_image_X2 : ∀ w ∈ u_ws RX2 TX2 12, w ∈ wsX2_image := by decide +kernel
theorem jX2_image_X0 : ∀ w ∈ u_ws RX0 TX0 12, w ∈ wsX2_image := by decide +kernel
set_option maxHeartbeats 8000000 in
set_option maxRecDepth 100000 in
theorem c_X2_image (l : Launch) (D : va_G) (cA : ClassId) (ad : Nat → Nat) (a_this a_this_now a_this_then a_this_trial a_this_search a_this_letters a_this_numbers a_this_thickest a_this_refusals a_this_now_kinds a_this_now_thicks a_this_then_kinds a_this_then_thicks : Nat) (sz : Nat) (g_this g_this_now f_this_now_kinds f_this_now_thicks g_this_then f_this_then_kinds f_this_then_thicks : Nat → Int32) (q : Int32 × (Nat → Int32) × (Nat → Int32) × (Nat → Int32) × (Nat → Int32)) (hf : f_X2_image g_this g_this_now f_this_now_kinds f_this_now_thicks g_this_then f_this_then_kinds f_this_then_thicks = some q) : Met l yX2_image wsX2_image ({ frames := 2, cells := 0, slots := 0, locals := 81 } : Room) (va_Pc [.ref a_this] (rf_Pre D cA ad [(a_this, .inr (2, rf_o2 a_this_now a_this_then a_this_trial a_this_search a_this_letters a_this_numbers a_this_thickest a_this_refusals g_this)), (a_this_now, .inr (0, rf_o0 a_this_now_kinds a_this_now_thicks g_this_now)), (a_this_now_kinds, .inl (cA, 6, .inl f_this_now_kinds)), (a_this_now_thicks, .inl (cA, 6, .inl f_this_now_thicks)), (a_this_then, .inr (0, rf_o0 a_this_then_kinds a_this_then_thicks g_this_then)), (a_this_then_kinds, .inl (cA, 6, .inl f_this_then_kinds)), (a_this_then_thicks, .inl (cA, 6, .inl f_this_then_thicks))] sz)) (va_Qi (fun (r : Int32) (_ : Unit) => r = q.1) (fun _ t => rf_Post D (va_A [(a_this, .inr (2, rf_o2 a_this_now a_this_then a_this_trial a_this_search a_this_letters a_this_numbers a_this_thickest a_this_refusals g_this)), (a_this_now, .inr (0, rf_o0 a_this_now_kinds a_this_now_thicks g_this_now)), (a_this_now_kinds, .inl (cA, 6, .inl f_this_now_kinds)), (a_this_now_thicks, .inl (cA, 6, .inl f_this_now_thicks)), (a_this_then, .inr (0, rf_o0 a_this_then_kinds a_this_then_thicks g_this_then)), (a_this_then_kinds, .inl (cA, 6, .inl f_this_then_kinds)), (a_this_then_thicks, .inl (cA, 6, .inl f_this_then_thicks))] sz) [(a_this, .inr (2, rf_o2 a_this_now a_this_then a_this_trial a_this_search a_this_letters a_this_numbers a_this_thickest a_this_refusals q.2.1)), (a_this_now, .inr (0, rf_o0 a_this_now_kinds a_this_now_thicks g_this_now)), (a_this_now_kinds, .inl (cA, 6, .inl f_this_now_kinds)), (a_this_now_thicks, .inl (cA, 6, .inl f_this_now_thicks)), (a_this_then, .inr (0, rf_o0 a_this_then_kinds a_this_then_thicks q.2.2.1)), (a_this_then_kinds, .inl (cA, 6, .inl q.2.2.2.1)), (a_this_then_thicks, .inl (cA, 6, .inl q.2.2.2.2))] t) (va_A [(a_this, .inr (2, rf_o2 a_this_now a_this_then a_this_trial a_this_search a_this_letters a_this_numbers a_this_thickest a_this_refusals g_this)), (a_this_now, .inr (0, rf_o0 a_this_now_kinds a_this_now_thicks g_this_now)), (a_this_now_kinds, .inl (cA, 6, .inl f_this_now_kinds)), (a_this_now_thicks, .inl (cA, 6, .inl f_this_now_thicks)), (a_this_then, .inr (0, rf_o0 a_this_then_kinds a_this_then_thicks g_this_then)), (a_this_then_kinds, .inl (cA, 6, .inl f_this_then_kinds)), (a_this_then_thicks, .inl (cA, 6, .inl f_this_then_thicks))] sz)) 0 0 (va_A [(a_this, .inr (2, rf_o2 a_this_now a_this_then a_this_trial a_this_search a_this_letters a_this_numbers a_this_thickest a_this_refusals g_this)), (a_this_now, .inr (0, rf_o0 a_this_now_kinds a_this_now_thicks g_this_now)), (a_this_now_kinds, .inl (cA, 6, .inl f_this_now_kinds)), (a_this_now_thicks, .inl (cA, 6, .inl f_this_now_thicks)), (a_this_then, .inr (0, rf_o0 a_this_then_kinds a_this_then_thicks g_this_then)), (a_this_then_kinds, .inl (cA, 6, .inl f_this_then_kinds)), (a_this_then_thicks, .inl (cA, 6, .inl f_this_then_thicks))] sz) := by
  refine Met.ofW (cc := cX2_image) (maxL := 1) (ret := (some .int)) (by decide) rfl ?_
  intro p e s m args below meth c s₁ B hml hv
  obtain ⟨rfl, hsz, hP, hK, hD0, hE⟩ := hv
  have hx := B.exec
  have hb := B.bytes
  have hr := B.returns
  have hts := atoms_spec (ws := wsX2_image) B.pre
  have hown : s.vm.findClass RX2 = some m.cls := findClass_of_methodNamed B.named
  have hlocks := B.notSynchronized
  subst hsz
  have hD := hD0.self (sz := s.heap.size)
  generalize hAe : va_A [(a_this, .inr (2, rf_o2 a_this_now a_this_then a_this_trial a_this_search a_this_letters a_this_numbers a_this_thickest a_this_refusals g_this)), (a_this_now, .inr (0, rf_o0 a_this_now_kinds a_this_now_thicks g_this_now)), (a_this_now_kinds, .inl (cA, 6, .inl f_this_now_kinds)), (a_this_now_thicks, .inl (cA, 6, .inl f_this_now_thicks)), (a_this_then, .inr (0, rf_o0 a_this_then_kinds a_this_then_thicks g_this_then)), (a_this_then_kinds, .inl (cA, 6, .inl f_this_then_kinds)), (a_this_then_thicks, .inl (cA, 6, .inl f_this_then_thicks))] s.heap.size = A at hD hE ⊢
  have hA : ∀ q : Nat, s.heap.size ≤ q → A q := fun q h => by rw [← hAe]; exact Or.inr h
  have hS : va_S A s.heap s.heap [] := va_S.rf
  have hP : va_P D vwCl [(a_this, .inr (2, rf_o2 a_this_now a_this_then a_this_trial a_this_search a_this_letters a_this_numbers a_this_thickest a_this_refusals g_this)), (a_this_now, .inr (0, rf_o0 a_this_now_kinds a_this_now_thicks g_this_now)), (a_this_now_kinds, .inl (cA, 6, .inl f_this_now_kinds)), (a_this_now_thicks, .inl (cA, 6, .inl f_this_now_thicks)), (a_this_then, .inr (0, rf_o0 a_this_then_kinds a_this_then_thicks g_this_then)), (a_this_then_kinds, .inl (cA, 6, .inl f_this_then_kinds)), (a_this_then_thicks, .inl (cA, 6, .inl f_this_then_thicks))] s.heap := hP
  have hl := lv_entry ([.ref a_this]) (n := 1) (Nat.le_of_ble_eq_true rfl)
  rw [lg_entry_eq]
  generalize (lg_sl ([.ref a_this]) ++ List.replicate (1 - (lg_sl ([.ref a_this])).length) Slot.unset).toArray = ls at hl ⊢
  have hl : lv_has ls 1 [(0, .ref a_this)] := hl
  rw [f_X2_image] at hf
  refine lv_aload_n hx hb dX2_image_0 rfl (lv_at hl 0 rfl) ?_
  refine va_get (D := D) (ci := 2) (v := .ref a_this_then) (C := RX2) (T := TX2) (N := 12) hx hb hts jX2_image_X2 hown hK hP 0 rfl rfl 1 (by decide) (hts _ kX2_image_0) (fun _ h9 => h9) rfl dX2_image_1 ?_
  refine lv_aload_n hx hb dX2_image_4 rfl (lv_at hl 0 rfl) ?_
  refine va_get (D := D) (ci := 2) (v := .ref a_this_now) (C := RX2) (T := TX2) (N := 12) hx hb hts jX2_image_X2 hown hK hP 0 rfl rfl 0 (by decide) (hts _ kX2_image_1) (fun _ h9 => h9) rfl dX2_image_5 ?_
  obtain ⟨q1, hq1, hf⟩ := rf_bindq hf
  refine rf_Vv (As := [.ref a_this_now]) (rest := []) (wr := [(a_this, .inr (2, rf_o2 a_this_now a_this_then a_this_trial a_this_search a_this_letters a_this_numbers a_this_thickest a_this_refusals g_this))]) (wn := [(a_this, .inr (2, rf_o2 a_this_now a_this_then a_this_trial a_this_search a_this_letters a_this_numbers a_this_thickest a_this_refusals g_this)), (a_this_now, .inr (0, rf_o0 a_this_now_kinds a_this_now_thicks g_this_now)), (a_this_now_kinds, .inl (cA, 6, .inl f_this_now_kinds)), (a_this_now_thicks, .inl (cA, 6, .inl f_this_now_thicks)), (a_this_then, .inr (0, rf_o0 a_this_then_kinds a_this_then_thicks q1.1)), (a_this_then_kinds, .inl (cA, 6, .inl q1.2.1)), (a_this_then_thicks, .inl (cA, 6, .inl q1.2.2))]) ⟨hx, hb, hml, hown, hts⟩ hK hP hD hS hA hE (c_X0_copyFrom l D cA ad a_this_then a_this_then_kinds a_this_then_thicks a_this_now a_this_now_kinds a_this_now_thicks s.heap.size g_this_then f_this_then_kinds f_this_then_thicks g_this_now f_this_now_kinds f_this_now_thicks q1 hq1) (cwV 1 hts gX2_image_X0_copyFrom rfl rfl rfl hv_X0_copyFrom ⟨Nat.le_of_ble_eq_true rfl, Nat.le_of_ble_eq_true rfl⟩) [4, 5, 6, 1, 2, 3] [0] [0, 4, 5, 6, 1, 2, 3] rfl rfl rfl rfl (by decide) rfl rfl 0 4 rfl rfl rfl rfl rfl hl.1 (Nat.le_of_ble_eq_true rfl) dX2_image_8 ⟨Nat.zero_le _, Nat.zero_le _⟩ (fun H locs hP hD hS => ?_)
  refine lv_aload_n hx hb dX2_image_11 rfl (lv_at hl 0 rfl) ?_
  refine lv_iconst (v := 1) hx hb dX2_image_12 (by decide) ?_
  refine va_put (D := D) (ci := 2) (v := .int 1) (ty := .boolean) (C := RX2) (T := TX2) (N := 12) hx hb hts jX2_image_X2 tyX2 tyX2_ok nmX2 hown hK hP hD hS 0 rfl rfl 10 (by decide) (hts _ kX2_image_2) (fun _ h9 => h9) rfl (by decide +kernel) rfl rfl (Nat.le_of_ble_eq_true rfl) dX2_image_13 (fun H locs hP hD hS => ?_)
  have hP : va_P D vwCl [(a_this, .inr (2, rf_o2 a_this_now a_this_then a_this_trial a_this_search a_this_letters a_this_numbers a_this_thickest a_this_refusals (upd g_this 2 1))), (a_this_now, .inr (0, rf_o0 a_this_now_kinds a_this_now_thicks g_this_now)), (a_this_now_kinds, .inl (cA, 6, .inl f_this_now_kinds)), (a_this_now_thicks, .inl (cA, 6, .inl f_this_now_thicks)), (a_this_then, .inr (0, rf_o0 a_this_then_kinds a_this_then_thicks q1.1)), (a_this_then_kinds, .inl (cA, 6, .inl q1.2.1)), (a_this_then_thicks, .inl (cA, 6, .inl q1.2.2))] H := hP
  have hD : va_D A [(a_this, .inr (2, rf_o2 a_this_now a_this_then a_this_trial a_this_search a_this_letters a_this_numbers a_this_thickest a_this_refusals (upd g_this 2 1))), (a_this_now, .inr (0, rf_o0 a_this_now_kinds a_this_now_thicks g_this_now)), (a_this_now_kinds, .inl (cA, 6, .inl f_this_now_kinds)), (a_this_now_thicks, .inl (cA, 6, .inl f_this_now_thicks)), (a_this_then, .inr (0, rf_o0 a_this_then_kinds a_this_then_thicks q1.1)), (a_this_then_kinds, .inl (cA, 6, .inl q1.2.1)), (a_this_then_thicks, .inl (cA, 6, .inl q1.2.2))] := hD
  refine lv_aload_n hx hb dX2_image_16 rfl (lv_at hl 0 rfl) ?_
  refine va_get (D := D) (ci := 2) (v := .ref a_this_now) (C := RX2) (T := TX2) (N := 12) hx hb hts jX2_image_X2 hown hK hP 0 rfl rfl 0 (by decide) (hts _ kX2_image_1) (fun _ h9 => h9) rfl dX2_image_17 ?_
  refine va_get (D := D) (ci := 0) (v := .int (g_this_now 8)) (C := RX0) (T := TX0) (N := 12) hx hb hts jX2_image_X0 hown hK hP 1 rfl rfl 10 (by decide) (hts _ kX2_image_3) (fun _ h9 => h9) rfl dX2_image_20 ?_
  obtain rfl := Option.some.inj hf
  exact W.iret (v := (g_this_now 8)) hx hb hr (fun t ht hW => ⟨⟨(g_this_now 8), (), rfl, rfl, rf_mk ht hP hD⟩, hS.F ht⟩) hS.2.2 dX2_image_23
theorem kX2_on_0 : (.fieldLink RX2 49 "RingAndFinger" "imaged" "Z" : Cond) ∈ wsX2_on := by decide +kernel
theorem kX2_on_1 : (.fieldLink RX2 10 "RingAndFinger" "now" "LRingAndFinger$Finger;" : Cond) ∈ wsX2_on := by decide +kernel
theorem kX2_on_2 : (.fieldLink RX2 16 "RingAndFinger" "then" "LRingAndFinger$Finger;" : Cond) ∈ wsX2_on := by decide +kernel
theorem kX2_on_3 : (.fieldLink RX2 136 "RingAndFinger$Finger" "minute" "I" : Cond) ∈ wsX2_on := by decide +kernel
theorem jX2_on_X2 : ∀ w ∈ u_ws RX2 TX2 12, w ∈ wsX2_on := by decide +kernel
theorem jX2_on_X0 : ∀ w ∈ u_ws RX0 TX0 12, w ∈ wsX2_on := by decide +kernel
set_option maxHeartbeats 8000000 in
set_option maxRecDepth 100000 in
theorem c_X2_on (l : Launch) (D : va_G) (cA : ClassId) (ad : Nat → Nat) (a_this a_this_now a_this_then a_this_trial a_this_search a_this_letters a_this_numbers a_this_thickest a_this_refusals a_this_now_kinds a_this_now_thicks a_this_then_kinds a_this_then_thicks : Nat) (sz : Nat) (g_this g_this_now f_this_now_kinds f_this_now_thicks g_this_then f_this_then_kinds f_this_then_thicks f_this_refusals : Nat → Int32) (q : Int32 × (Nat → Int32) × (Nat → Int32) × (Nat → Int32) × (Nat → Int32)) (hf : f_X2_on g_this g_this_now f_this_now_kinds f_this_now_thicks g_this_then f_this_then_kinds f_this_then_thicks f_this_refusals = some q) : Met l yX2_on wsX2_on ({ frames := 2, cells := 0, slots := 0, locals := 81 } : Room) (va_Pc [.ref a_this] (rf_Pre D cA ad [(a_this, .inr (2, rf_o2 a_this_now a_this_then a_this_trial a_this_search a_this_letters a_this_numbers a_this_thickest a_this_refusals g_this)), (a_this_now, .inr (0, rf_o0 a_this_now_kinds a_this_now_thicks g_this_now)), (a_this_now_kinds, .inl (cA, 6, .inl f_this_now_kinds)), (a_this_now_thicks, .inl (cA, 6, .inl f_this_now_thicks)), (a_this_then, .inr (0, rf_o0 a_this_then_kinds a_this_then_thicks g_this_then)), (a_this_then_kinds, .inl (cA, 6, .inl f_this_then_kinds)), (a_this_then_thicks, .inl (cA, 6, .inl f_this_then_thicks)), (a_this_refusals, .inl (cA, 7, .inl f_this_refusals))] sz)) (va_Qi (fun (r : Int32) (_ : Unit) => r = q.1) (fun _ t => rf_Post D (va_A [(a_this, .inr (2, rf_o2 a_this_now a_this_then a_this_trial a_this_search a_this_letters a_this_numbers a_this_thickest a_this_refusals g_this)), (a_this_now, .inr (0, rf_o0 a_this_now_kinds a_this_now_thicks g_this_now)), (a_this_now_kinds, .inl (cA, 6, .inl f_this_now_kinds)), (a_this_now_thicks, .inl (cA, 6, .inl f_this_now_thicks)), (a_this_then, .inr (0, rf_o0 a_this_then_kinds a_this_then_thicks g_this_then)), (a_this_then_kinds, .inl (cA, 6, .inl f_this_then_kinds)), (a_this_then_thicks, .inl (cA, 6, .inl f_this_then_thicks)), (a_this_refusals, .inl (cA, 7, .inl f_this_refusals))] sz) [(a_this, .inr (2, rf_o2 a_this_now a_this_then a_this_trial a_this_search a_this_letters a_this_numbers a_this_thickest a_this_refusals g_this)), (a_this_now, .inr (0, rf_o0 a_this_now_kinds a_this_now_thicks q.2.1)), (a_this_now_kinds, .inl (cA, 6, .inl q.2.2.1)), (a_this_now_thicks, .inl (cA, 6, .inl q.2.2.2.1)), (a_this_then, .inr (0, rf_o0 a_this_then_kinds a_this_then_thicks g_this_then)), (a_this_then_kinds, .inl (cA, 6, .inl f_this_then_kinds)), (a_this_then_thicks, .inl (cA, 6, .inl f_this_then_thicks)), (a_this_refusals, .inl (cA, 7, .inl q.2.2.2.2))] t) (va_A [(a_this, .inr (2, rf_o2 a_this_now a_this_then a_this_trial a_this_search a_this_letters a_this_numbers a_this_thickest a_this_refusals g_this)), (a_this_now, .inr (0, rf_o0 a_this_now_kinds a_this_now_thicks g_this_now)), (a_this_now_kinds, .inl (cA, 6, .inl f_this_now_kinds)), (a_this_now_thicks, .inl (cA, 6, .inl f_this_now_thicks)), (a_this_then, .inr (0, rf_o0 a_this_then_kinds a_this_then_thicks g_this_then)), (a_this_then_kinds, .inl (cA, 6, .inl f_this_then_kinds)), (a_this_then_thicks, .inl (cA, 6, .inl f_this_then_thicks)), (a_this_refusals, .inl (cA, 7, .inl f_this_refusals))] sz)) 0 0 (va_A [(a_this, .inr (2, rf_o2 a_this_now a_this_then a_this_trial a_this_search a_this_letters a_this_numbers a_this_thickest a_this_refusals g_this)), (a_this_now, .inr (0, rf_o0 a_this_now_kinds a_this_now_thicks g_this_now)), (a_this_now_kinds, .inl (cA, 6, .inl f_this_now_kinds)), (a_this_now_thicks, .inl (cA, 6, .inl f_this_now_thicks)), (a_this_then, .inr (0, rf_o0 a_this_then_kinds a_this_then_thicks g_this_then)), (a_this_then_kinds, .inl (cA, 6, .inl f_this_then_kinds)), (a_this_then_thicks, .inl (cA, 6, .inl f_this_then_thicks)), (a_this_refusals, .inl (cA, 7, .inl f_this_refusals))] sz) := by
  refine Met.ofW (cc := cX2_on) (maxL := 1) (ret := (some .int)) (by decide) rfl ?_
  intro p e s m args below meth c s₁ B hml hv
  obtain ⟨rfl, hsz, hP, hK, hD0, hE⟩ := hv
  have hx := B.exec
  have hb := B.bytes
  have hr := B.returns
  have hts := atoms_spec (ws := wsX2_on) B.pre
  have hown : s.vm.findClass RX2 = some m.cls := findClass_of_methodNamed B.named
  have hlocks := B.notSynchronized
  subst hsz
  have hD := hD0.self (sz := s.heap.size)
  generalize hAe : va_A [(a_this, .inr (2, rf_o2 a_this_now a_this_then a_this_trial a_this_search a_this_letters a_this_numbers a_this_thickest a_this_refusals g_this)), (a_this_now, .inr (0, rf_o0 a_this_now_kinds a_this_now_thicks g_this_now)), (a_this_now_kinds, .inl (cA, 6, .inl f_this_now_kinds)), (a_this_now_thicks, .inl (cA, 6, .inl f_this_now_thicks)), (a_this_then, .inr (0, rf_o0 a_this_then_kinds a_this_then_thicks g_this_then)), (a_this_then_kinds, .inl (cA, 6, .inl f_this_then_kinds)), (a_this_then_thicks, .inl (cA, 6, .inl f_this_then_thicks)), (a_this_refusals, .inl (cA, 7, .inl f_this_refusals))] s.heap.size = A at hD hE ⊢
  have hA : ∀ q : Nat, s.heap.size ≤ q → A q := fun q h => by rw [← hAe]; exact Or.inr h
  have hS : va_S A s.heap s.heap [] := va_S.rf
  have hP : va_P D vwCl [(a_this, .inr (2, rf_o2 a_this_now a_this_then a_this_trial a_this_search a_this_letters a_this_numbers a_this_thickest a_this_refusals g_this)), (a_this_now, .inr (0, rf_o0 a_this_now_kinds a_this_now_thicks g_this_now)), (a_this_now_kinds, .inl (cA, 6, .inl f_this_now_kinds)), (a_this_now_thicks, .inl (cA, 6, .inl f_this_now_thicks)), (a_this_then, .inr (0, rf_o0 a_this_then_kinds a_this_then_thicks g_this_then)), (a_this_then_kinds, .inl (cA, 6, .inl f_this_then_kinds)), (a_this_then_thicks, .inl (cA, 6, .inl f_this_then_thicks)), (a_this_refusals, .inl (cA, 7, .inl f_this_refusals))] s.heap := hP
  have hl := lv_entry ([.ref a_this]) (n := 1) (Nat.le_of_ble_eq_true rfl)
  rw [lg_entry_eq]
  generalize (lg_sl ([.ref a_this]) ++ List.replicate (1 - (lg_sl ([.ref a_this])).length) Slot.unset).toArray = ls at hl ⊢
  have hl : lv_has ls 1 [(0, .ref a_this)] := hl
  rw [f_X2_on] at hf
  refine lv_aload_n hx hb dX2_on_0 rfl (lv_at hl 0 rfl) ?_
  refine va_get (D := D) (ci := 2) (v := .int (g_this 2)) (C := RX2) (T := TX2) (N := 12) hx hb hts jX2_on_X2 hown hK hP 0 rfl rfl 10 (by decide) (hts _ kX2_on_0) (fun _ h9 => h9) rfl dX2_on_1 ?_
  refine lv_if_ne (tgt := 14) hx hb dX2_on_4 (by decide) (fun c1 => ?_) (fun c1 => ?_)
  · have hf := rf_ifn hf c1
    refine lv_aload_n hx hb dX2_on_14 rfl (lv_at hl 0 rfl) ?_
    refine va_get (D := D) (ci := 2) (v := .ref a_this_now) (C := RX2) (T := TX2) (N := 12) hx hb hts jX2_on_X2 hown hK hP 0 rfl rfl 0 (by decide) (hts _ kX2_on_1) (fun _ h9 => h9) rfl dX2_on_15 ?_
    refine lv_aload_n hx hb dX2_on_18 rfl (lv_at hl 0 rfl) ?_
    refine va_get (D := D) (ci := 2) (v := .ref a_this_then) (C := RX2) (T := TX2) (N := 12) hx hb hts jX2_on_X2 hown hK hP 0 rfl rfl 1 (by decide) (hts _ kX2_on_2) (fun _ h9 => h9) rfl dX2_on_19 ?_
    obtain ⟨q2, hq2, hf⟩ := rf_bindq hf
    refine rf_Vv (As := [.ref a_this_then]) (rest := []) (wr := [(a_this, .inr (2, rf_o2 a_this_now a_this_then a_this_trial a_this_search a_this_letters a_this_numbers a_this_thickest a_this_refusals g_this)), (a_this_refusals, .inl (cA, 7, .inl f_this_refusals))]) (wn := [(a_this, .inr (2, rf_o2 a_this_now a_this_then a_this_trial a_this_search a_this_letters a_this_numbers a_this_thickest a_this_refusals g_this)), (a_this_now, .inr (0, rf_o0 a_this_now_kinds a_this_now_thicks q2.1)), (a_this_now_kinds, .inl (cA, 6, .inl q2.2.1)), (a_this_now_thicks, .inl (cA, 6, .inl q2.2.2)), (a_this_then, .inr (0, rf_o0 a_this_then_kinds a_this_then_thicks g_this_then)), (a_this_then_kinds, .inl (cA, 6, .inl f_this_then_kinds)), (a_this_then_thicks, .inl (cA, 6, .inl f_this_then_thicks)), (a_this_refusals, .inl (cA, 7, .inl f_this_refusals))]) ⟨hx, hb, hml, hown, hts⟩ hK hP hD hS hA hE (c_X0_copyFrom l D cA ad a_this_now a_this_now_kinds a_this_now_thicks a_this_then a_this_then_kinds a_this_then_thicks s.heap.size g_this_now f_this_now_kinds f_this_now_thicks g_this_then f_this_then_kinds f_this_then_thicks q2 hq2) (cwV 1 hts gX2_on_X0_copyFrom rfl rfl rfl hv_X0_copyFrom ⟨Nat.le_of_ble_eq_true rfl, Nat.le_of_ble_eq_true rfl⟩) [1, 2, 3, 4, 5, 6] [0, 7] [0, 2, 3, 4, 5, 6, 7, 1] rfl rfl rfl rfl (by decide) rfl rfl 0 1 rfl rfl rfl rfl rfl hl.1 (Nat.le_of_ble_eq_true rfl) dX2_on_22 ⟨Nat.zero_le _, Nat.zero_le _⟩ (fun H locs hP hD hS => ?_)
    refine lv_aload_n hx hb dX2_on_25 rfl (lv_at hl 0 rfl) ?_
    refine va_get (D := D) (ci := 2) (v := .ref a_this_now) (C := RX2) (T := TX2) (N := 12) hx hb hts jX2_on_X2 hown hK hP 0 rfl rfl 0 (by decide) (hts _ kX2_on_1) (fun _ h9 => h9) rfl dX2_on_26 ?_
    refine va_get (D := D) (ci := 0) (v := .int (q2.1 8)) (C := RX0) (T := TX0) (N := 12) hx hb hts jX2_on_X0 hown hK hP 1 rfl rfl 10 (by decide) (hts _ kX2_on_3) (fun _ h9 => h9) rfl dX2_on_29 ?_
    obtain rfl := Option.some.inj hf
    exact W.iret (v := (q2.1 8)) hx hb hr (fun t ht hW => ⟨⟨(q2.1 8), (), rfl, rfl, rf_mk ht hP hD⟩, hS.F ht⟩) hS.2.2 dX2_on_32
  · have hf := rf_ifp hf c1
    refine lv_aload_n hx hb dX2_on_7 rfl (lv_at hl 0 rfl) ?_
    refine lv_bipush (v := (-3)) hx hb dX2_on_8 (by decide) ?_
    obtain ⟨q3, hq3, hf⟩ := rf_bindq hf
    refine rf_Vi (As := [.int (-3)]) (rest := []) (wr := [(a_this_now, .inr (0, rf_o0 a_this_now_kinds a_this_now_thicks g_this_now)), (a_this_now_kinds, .inl (cA, 6, .inl f_this_now_kinds)), (a_this_now_thicks, .inl (cA, 6, .inl f_this_now_thicks)), (a_this_then, .inr (0, rf_o0 a_this_then_kinds a_this_then_thicks g_this_then)), (a_this_then_kinds, .inl (cA, 6, .inl f_this_then_kinds)), (a_this_then_thicks, .inl (cA, 6, .inl f_this_then_thicks))]) (wn := [(a_this, .inr (2, rf_o2 a_this_now a_this_then a_this_trial a_this_search a_this_letters a_this_numbers a_this_thickest a_this_refusals g_this)), (a_this_now, .inr (0, rf_o0 a_this_now_kinds a_this_now_thicks g_this_now)), (a_this_now_kinds, .inl (cA, 6, .inl f_this_now_kinds)), (a_this_now_thicks, .inl (cA, 6, .inl f_this_now_thicks)), (a_this_then, .inr (0, rf_o0 a_this_then_kinds a_this_then_thicks g_this_then)), (a_this_then_kinds, .inl (cA, 6, .inl f_this_then_kinds)), (a_this_then_thicks, .inl (cA, 6, .inl f_this_then_thicks)), (a_this_refusals, .inl (cA, 7, .inl q3.2))]) ⟨hx, hb, hml, hown, hts⟩ hK hP hD hS hA hE (c_X2_refuse l D cA ad a_this a_this_now a_this_then a_this_trial a_this_search a_this_letters a_this_numbers a_this_thickest a_this_refusals s.heap.size g_this f_this_refusals (-3) q3 hq3) (cwV 1 hts gX2_on_X2_refuse rfl rfl rfl hv_X2_refuse ⟨Nat.le_of_ble_eq_true rfl, Nat.le_of_ble_eq_true rfl⟩) [0, 7] [1, 2, 3, 4, 5, 6] [6, 0, 1, 2, 3, 4, 5, 7] rfl rfl rfl rfl (by decide) rfl rfl 2 0 rfl rfl rfl rfl rfl hl.1 (Nat.le_of_ble_eq_true rfl) dX2_on_10 ⟨Nat.zero_le _, Nat.zero_le _⟩ (fun H locs hP hD hS => ?_)
    obtain rfl := Option.some.inj hf
    exact W.iret (v := q3.1) hx hb hr (fun t ht hW => ⟨⟨q3.1, (), rfl, rfl, rf_mk ht hP hD⟩, hS.F ht⟩) hS.2.2 dX2_on_13
theorem kX2_count_0 : (.fieldLink RX2 10 "RingAndFinger" "now" "LRingAndFinger$Finger;" : Cond) ∈ wsX2_count := by decide +kernel
theorem kX2_count_1 : (.fieldLink RX2 71 "RingAndFinger$Finger" "parts" "I" : Cond) ∈ wsX2_count := by decide +kernel
theorem kX2_count_2 : (.fieldLink RX2 100 "RingAndFinger$Finger" "front" "I" : Cond) ∈ wsX2_count := by decide +kernel
theorem kX2_count_3 : (.fieldLink RX2 214 "RingAndFinger$Finger" "swell" "I" : Cond) ∈ wsX2_count := by decide +kernel
theorem kX2_count_4 : (.fieldLink RX2 235 "RingAndFinger$Finger" "cold" "I" : Cond) ∈ wsX2_count := by decide +kernel
theorem kX2_count_5 : (.fieldLink RX2 167 "RingAndFinger$Finger" "blue" "I" : Cond) ∈ wsX2_count := by decide +kernel
theorem kX2_count_6 : (.fieldLink RX2 136 "RingAndFinger$Finger" "minute" "I" : Cond) ∈ wsX2_count := by decide +kernel
theorem kX2_count_7 : (.fieldLink RX2 238 "RingAndFinger$Finger" "harm" "I" : Cond) ∈ wsX2_count := by decide +kernel
theorem kX2_count_8 : (.fieldLink RX2 146 "RingAndFinger$Finger" "size" "I" : Cond) ∈ wsX2_count := by decide +kernel
theorem kX2_count_9 : (.fieldLink RX2 46 "RingAndFinger" "numberCount" "I" : Cond) ∈ wsX2_count := by decide +kernel
theorem kX2_count_10 : (.fieldLink RX2 42 "RingAndFinger" "letterCount" "I" : Cond) ∈ wsX2_count := by decide +kernel
theorem kX2_count_11 : (.fieldLink RX2 241 "RingAndFinger$Finger" "heat" "I" : Cond) ∈ wsX2_count := by decide +kernel
theorem kX2_count_12 : (.fieldLink RX2 107 "RingAndFinger$Finger" "broad" "I" : Cond) ∈ wsX2_count := by decide +kernel
theorem kX2_count_13 : (.fieldLink RX2 39 "RingAndFinger" "refusals" "[I" : Cond) ∈ wsX2_count := by decide +kernel
theorem jX2_count_X2 : ∀ w ∈ u_ws RX2 TX2 12, w ∈ wsX2_count := by decide +kernel
theorem jX2_count_X0 : ∀ w ∈ u_ws RX0 TX0 12, w ∈ wsX2_count := by decide +kernel
set_option maxHeartbeats 8000000 in
set_option maxRecDepth 100000 in
theorem c_X2_count (l : Launch) (D : va_G) (cA : ClassId) (ad : Nat → Nat) (a_this a_this_now a_this_then a_this_trial a_this_search a_this_letters a_this_numbers a_this_thickest a_this_refusals a_this_now_kinds a_this_now_thicks : Nat) (sz : Nat) (g_this g_this_now f_this_refusals : Nat → Int32) (p1 : Int32) (q : Int32) (hf : f_X2_count g_this g_this_now f_this_refusals p1 = some q) : Met l yX2_count wsX2_count ({ frames := 1, cells := 0, slots := 0, locals := 21 } : Room) (va_Pc [.ref a_this, .int p1] (rf_Pre D cA ad [(a_this, .inr (2, rf_o2 a_this_now a_this_then a_this_trial a_this_search a_this_letters a_this_numbers a_this_thickest a_this_refusals g_this)), (a_this_now, .inr (0, rf_o0 a_this_now_kinds a_this_now_thicks g_this_now)), (a_this_refusals, .inl (cA, 7, .inl f_this_refusals))] sz)) (va_Qi (fun (r : Int32) (_ : Unit) => r = q) (fun _ t => rf_Post D (va_A [(a_this, .inr (2, rf_o2 a_this_now a_this_then a_this_trial a_this_search a_this_letters a_this_numbers a_this_thickest a_this_refusals g_this)), (a_this_now, .inr (0, rf_o0 a_this_now_kinds a_this_now_thicks g_this_now)), (a_this_refusals, .inl (cA, 7, .inl f_this_refusals))] sz) [(a_this, .inr (2, rf_o2 a_this_now a_this_then a_this_trial a_this_search a_this_letters a_this_numbers a_this_thickest a_this_refusals g_this)), (a_this_now, .inr (0, rf_o0 a_this_now_kinds a_this_now_thicks g_this_now)), (a_this_refusals, .inl (cA, 7, .inl f_this_refusals))] t) (va_A [(a_this, .inr (2, rf_o2 a_this_now a_this_then a_this_trial a_this_search a_this_letters a_this_numbers a_this_thickest a_this_refusals g_this)), (a_this_now, .inr (0, rf_o0 a_this_now_kinds a_this_now_thicks g_this_now)), (a_this_refusals, .inl (cA, 7, .inl f_this_refusals))] sz)) 0 0 (va_A [(a_this, .inr (2, rf_o2 a_this_now a_this_then a_this_trial a_this_search a_this_letters a_this_numbers a_this_thickest a_this_refusals g_this)), (a_this_now, .inr (0, rf_o0 a_this_now_kinds a_this_now_thicks g_this_now)), (a_this_refusals, .inl (cA, 7, .inl f_this_refusals))] sz) := by
  refine Met.ofW (cc := cX2_count) (maxL := 2) (ret := (some .int)) (by decide) rfl ?_
  intro p e s m args below meth c s₁ B hml hv
  obtain ⟨rfl, hsz, hP, hK, hD0, hE⟩ := hv
  have hx := B.exec
  have hb := B.bytes
  have hr := B.returns
  have hts := atoms_spec (ws := wsX2_count) B.pre
  have hown : s.vm.findClass RX2 = some m.cls := findClass_of_methodNamed B.named
  have hlocks := B.notSynchronized
  subst hsz
  have hD := hD0.self (sz := s.heap.size)
  generalize hAe : va_A [(a_this, .inr (2, rf_o2 a_this_now a_this_then a_this_trial a_this_search a_this_letters a_this_numbers a_this_thickest a_this_refusals g_this)), (a_this_now, .inr (0, rf_o0 a_this_now_kinds a_this_now_thicks g_this_now)), (a_this_refusals, .inl (cA, 7, .inl f_this_refusals))] s.heap.size = A at hD hE ⊢
  have hA : ∀ q : Nat, s.heap.size ≤ q → A q := fun q h => by rw [← hAe]; exact Or.inr h
  have hS : va_S A s.heap s.heap [] := va_S.rf
  have hP : va_P D vwCl [(a_this, .inr (2, rf_o2 a_this_now a_this_then a_this_trial a_this_search a_this_letters a_this_numbers a_this_thickest a_this_refusals g_this)), (a_this_now, .inr (0, rf_o0 a_this_now_kinds a_this_now_thicks g_this_now)), (a_this_refusals, .inl (cA, 7, .inl f_this_refusals))] s.heap := hP
  have hl := lv_entry ([.ref a_this, .int p1]) (n := 2) (Nat.le_of_ble_eq_true rfl)
  rw [lg_entry_eq]
  generalize (lg_sl ([.ref a_this, .int p1]) ++ List.replicate (2 - (lg_sl ([.ref a_this, .int p1])).length) Slot.unset).toArray = ls at hl ⊢
  have hl : lv_has ls 2 [(0, .ref a_this), (1, .int p1)] := hl
  rw [f_X2_count] at hf
  refine lv_iload_n hx hb dX2_count_0 rfl (lv_at hl 1 rfl) ?_
  refine lv_bipush (v := 10) hx hb dX2_count_1 (by decide) ?_
  refine lv_icmp_le (tgt := 24) hx hb dX2_count_3 (by decide) (fun c1 => ?_) (fun c1 => ?_)
  · have hf := rf_ifp hf c1
    refine lv_iload_n hx hb dX2_count_24 rfl (lv_at hl 1 rfl) ?_
    by_cases c2 : p1 = 0
    · have hf := rf_ifp hf c2
      refine rf_tabC (off := 87) (tgt := 112) hx hb dX2_count_25 c2 (by decide) (by decide) (by decide) (by decide) ?_
      refine lv_aload_n hx hb dX2_count_112 rfl (lv_at hl 0 rfl) ?_
      refine va_get (D := D) (ci := 2) (v := .ref a_this_now) (C := RX2) (T := TX2) (N := 12) hx hb hts jX2_count_X2 hown hK hP 0 rfl rfl 0 (by decide) (hts _ kX2_count_0) (fun _ h9 => h9) rfl dX2_count_113 ?_
      refine va_get (D := D) (ci := 0) (v := .int (g_this_now 0)) (C := RX0) (T := TX0) (N := 12) hx hb hts jX2_count_X0 hown hK hP 1 rfl rfl 2 (by decide) (hts _ kX2_count_1) (fun _ h9 => h9) rfl dX2_count_116 ?_
      obtain rfl := Option.some.inj hf
      exact W.iret (v := (g_this_now 0)) hx hb hr (fun t ht hW => ⟨⟨(g_this_now 0), (), rfl, rfl, rf_mk ht hP hD⟩, hS.F ht⟩) hS.2.2 dX2_count_119
    · have hf := rf_ifn hf c2
      by_cases c3 : p1 = 1
      · have hf := rf_ifp hf c3
        refine rf_tabC (off := 95) (tgt := 120) hx hb dX2_count_25 c3 (by decide) (by decide) (by decide) (by decide) ?_
        refine lv_aload_n hx hb dX2_count_120 rfl (lv_at hl 0 rfl) ?_
        refine va_get (D := D) (ci := 2) (v := .ref a_this_now) (C := RX2) (T := TX2) (N := 12) hx hb hts jX2_count_X2 hown hK hP 0 rfl rfl 0 (by decide) (hts _ kX2_count_0) (fun _ h9 => h9) rfl dX2_count_121 ?_
        refine va_get (D := D) (ci := 0) (v := .int (g_this_now 3)) (C := RX0) (T := TX0) (N := 12) hx hb hts jX2_count_X0 hown hK hP 1 rfl rfl 5 (by decide) (hts _ kX2_count_2) (fun _ h9 => h9) rfl dX2_count_124 ?_
        obtain rfl := Option.some.inj hf
        exact W.iret (v := (g_this_now 3)) hx hb hr (fun t ht hW => ⟨⟨(g_this_now 3), (), rfl, rfl, rf_mk ht hP hD⟩, hS.F ht⟩) hS.2.2 dX2_count_127
      · have hf := rf_ifn hf c3
        by_cases c4 : p1 = 2
        · have hf := rf_ifp hf c4
          refine rf_tabC (off := 103) (tgt := 128) hx hb dX2_count_25 c4 (by decide) (by decide) (by decide) (by decide) ?_
          refine lv_aload_n hx hb dX2_count_128 rfl (lv_at hl 0 rfl) ?_
          refine va_get (D := D) (ci := 2) (v := .ref a_this_now) (C := RX2) (T := TX2) (N := 12) hx hb hts jX2_count_X2 hown hK hP 0 rfl rfl 0 (by decide) (hts _ kX2_count_0) (fun _ h9 => h9) rfl dX2_count_129 ?_
          refine va_get (D := D) (ci := 0) (v := .int (g_this_now 4)) (C := RX0) (T := TX0) (N := 12) hx hb hts jX2_count_X0 hown hK hP 1 rfl rfl 6 (by decide) (hts _ kX2_count_3) (fun _ h9 => h9) rfl dX2_count_132 ?_
          obtain rfl := Option.some.inj hf
          exact W.iret (v := (g_this_now 4)) hx hb hr (fun t ht hW => ⟨⟨(g_this_now 4), (), rfl, rfl, rf_mk ht hP hD⟩, hS.F ht⟩) hS.2.2 dX2_count_135
        · have hf := rf_ifn hf c4
          by_cases c5 : p1 = 3
          · have hf := rf_ifp hf c5
            refine rf_tabC (off := 111) (tgt := 136) hx hb dX2_count_25 c5 (by decide) (by decide) (by decide) (by decide) ?_
            refine lv_aload_n hx hb dX2_count_136 rfl (lv_at hl 0 rfl) ?_
            refine va_get (D := D) (ci := 2) (v := .ref a_this_now) (C := RX2) (T := TX2) (N := 12) hx hb hts jX2_count_X2 hown hK hP 0 rfl rfl 0 (by decide) (hts _ kX2_count_0) (fun _ h9 => h9) rfl dX2_count_137 ?_
            refine va_get (D := D) (ci := 0) (v := .int (g_this_now 5)) (C := RX0) (T := TX0) (N := 12) hx hb hts jX2_count_X0 hown hK hP 1 rfl rfl 7 (by decide) (hts _ kX2_count_4) (fun _ h9 => h9) rfl dX2_count_140 ?_
            obtain rfl := Option.some.inj hf
            exact W.iret (v := (g_this_now 5)) hx hb hr (fun t ht hW => ⟨⟨(g_this_now 5), (), rfl, rfl, rf_mk ht hP hD⟩, hS.F ht⟩) hS.2.2 dX2_count_143
          · have hf := rf_ifn hf c5
            by_cases c6 : p1 = 4
            · have hf := rf_ifp hf c6
              refine rf_tabC (off := 119) (tgt := 144) hx hb dX2_count_25 c6 (by decide) (by decide) (by decide) (by decide) ?_
              refine lv_aload_n hx hb dX2_count_144 rfl (lv_at hl 0 rfl) ?_
              refine va_get (D := D) (ci := 2) (v := .ref a_this_now) (C := RX2) (T := TX2) (N := 12) hx hb hts jX2_count_X2 hown hK hP 0 rfl rfl 0 (by decide) (hts _ kX2_count_0) (fun _ h9 => h9) rfl dX2_count_145 ?_
              refine va_get (D := D) (ci := 0) (v := .int (g_this_now 6)) (C := RX0) (T := TX0) (N := 12) hx hb hts jX2_count_X0 hown hK hP 1 rfl rfl 8 (by decide) (hts _ kX2_count_5) (fun _ h9 => h9) rfl dX2_count_148 ?_
              obtain rfl := Option.some.inj hf
              exact W.iret (v := (g_this_now 6)) hx hb hr (fun t ht hW => ⟨⟨(g_this_now 6), (), rfl, rfl, rf_mk ht hP hD⟩, hS.F ht⟩) hS.2.2 dX2_count_151
            · have hf := rf_ifn hf c6
              by_cases c7 : p1 = 5
              · have hf := rf_ifp hf c7
                refine rf_tabC (off := 127) (tgt := 152) hx hb dX2_count_25 c7 (by decide) (by decide) (by decide) (by decide) ?_
                refine lv_aload_n hx hb dX2_count_152 rfl (lv_at hl 0 rfl) ?_
                refine va_get (D := D) (ci := 2) (v := .ref a_this_now) (C := RX2) (T := TX2) (N := 12) hx hb hts jX2_count_X2 hown hK hP 0 rfl rfl 0 (by decide) (hts _ kX2_count_0) (fun _ h9 => h9) rfl dX2_count_153 ?_
                refine va_get (D := D) (ci := 0) (v := .int (g_this_now 8)) (C := RX0) (T := TX0) (N := 12) hx hb hts jX2_count_X0 hown hK hP 1 rfl rfl 10 (by decide) (hts _ kX2_count_6) (fun _ h9 => h9) rfl dX2_count_156 ?_
                obtain rfl := Option.some.inj hf
                exact W.iret (v := (g_this_now 8)) hx hb hr (fun t ht hW => ⟨⟨(g_this_now 8), (), rfl, rfl, rf_mk ht hP hD⟩, hS.F ht⟩) hS.2.2 dX2_count_159
              · have hf := rf_ifn hf c7
                by_cases c8 : p1 = 6
                · have hf := rf_ifp hf c8
                  refine rf_tabC (off := 135) (tgt := 160) hx hb dX2_count_25 c8 (by decide) (by decide) (by decide) (by decide) ?_
                  refine lv_aload_n hx hb dX2_count_160 rfl (lv_at hl 0 rfl) ?_
                  refine va_get (D := D) (ci := 2) (v := .ref a_this_now) (C := RX2) (T := TX2) (N := 12) hx hb hts jX2_count_X2 hown hK hP 0 rfl rfl 0 (by decide) (hts _ kX2_count_0) (fun _ h9 => h9) rfl dX2_count_161 ?_
                  refine va_get (D := D) (ci := 0) (v := .int (g_this_now 9)) (C := RX0) (T := TX0) (N := 12) hx hb hts jX2_count_X0 hown hK hP 1 rfl rfl 11 (by decide) (hts _ kX2_count_7) (fun _ h9 => h9) rfl dX2_count_164 ?_
                  obtain rfl := Option.some.inj hf
                  exact W.iret (v := (g_this_now 9)) hx hb hr (fun t ht hW => ⟨⟨(g_this_now 9), (), rfl, rfl, rf_mk ht hP hD⟩, hS.F ht⟩) hS.2.2 dX2_count_167
                · have hf := rf_ifn hf c8
                  by_cases c9 : p1 = 7
                  · have hf := rf_ifp hf c9
                    refine rf_tabC (off := 143) (tgt := 168) hx hb dX2_count_25 c9 (by decide) (by decide) (by decide) (by decide) ?_
                    refine lv_aload_n hx hb dX2_count_168 rfl (lv_at hl 0 rfl) ?_
                    refine va_get (D := D) (ci := 2) (v := .ref a_this_now) (C := RX2) (T := TX2) (N := 12) hx hb hts jX2_count_X2 hown hK hP 0 rfl rfl 0 (by decide) (hts _ kX2_count_0) (fun _ h9 => h9) rfl dX2_count_169 ?_
                    refine va_get (D := D) (ci := 0) (v := .int (g_this_now 1)) (C := RX0) (T := TX0) (N := 12) hx hb hts jX2_count_X0 hown hK hP 1 rfl rfl 3 (by decide) (hts _ kX2_count_8) (fun _ h9 => h9) rfl dX2_count_172 ?_
                    obtain rfl := Option.some.inj hf
                    exact W.iret (v := (g_this_now 1)) hx hb hr (fun t ht hW => ⟨⟨(g_this_now 1), (), rfl, rfl, rf_mk ht hP hD⟩, hS.F ht⟩) hS.2.2 dX2_count_175
                  · have hf := rf_ifn hf c9
                    by_cases c10 : p1 = 8
                    · have hf := rf_ifp hf c10
                      refine rf_tabC (off := 151) (tgt := 176) hx hb dX2_count_25 c10 (by decide) (by decide) (by decide) (by decide) ?_
                      refine lv_aload_n hx hb dX2_count_176 rfl (lv_at hl 0 rfl) ?_
                      refine va_get (D := D) (ci := 2) (v := .int (g_this 1)) (C := RX2) (T := TX2) (N := 12) hx hb hts jX2_count_X2 hown hK hP 0 rfl rfl 9 (by decide) (hts _ kX2_count_9) (fun _ h9 => h9) rfl dX2_count_177 ?_
                      obtain rfl := Option.some.inj hf
                      exact W.iret (v := (g_this 1)) hx hb hr (fun t ht hW => ⟨⟨(g_this 1), (), rfl, rfl, rf_mk ht hP hD⟩, hS.F ht⟩) hS.2.2 dX2_count_180
                    · have hf := rf_ifn hf c10
                      by_cases c11 : p1 = 9
                      · have hf := rf_ifp hf c11
                        refine rf_tabC (off := 156) (tgt := 181) hx hb dX2_count_25 c11 (by decide) (by decide) (by decide) (by decide) ?_
                        refine lv_aload_n hx hb dX2_count_181 rfl (lv_at hl 0 rfl) ?_
                        refine va_get (D := D) (ci := 2) (v := .int (g_this 0)) (C := RX2) (T := TX2) (N := 12) hx hb hts jX2_count_X2 hown hK hP 0 rfl rfl 8 (by decide) (hts _ kX2_count_10) (fun _ h9 => h9) rfl dX2_count_182 ?_
                        obtain rfl := Option.some.inj hf
                        exact W.iret (v := (g_this 0)) hx hb hr (fun t ht hW => ⟨⟨(g_this 0), (), rfl, rfl, rf_mk ht hP hD⟩, hS.F ht⟩) hS.2.2 dX2_count_185
                      · have hf := rf_ifn hf c11
                        by_cases c12 : p1 = 10
                        · have hf := rf_ifp hf c12
                          refine rf_tabC (off := 161) (tgt := 186) hx hb dX2_count_25 c12 (by decide) (by decide) (by decide) (by decide) ?_
                          refine lv_aload_n hx hb dX2_count_186 rfl (lv_at hl 0 rfl) ?_
                          refine va_get (D := D) (ci := 2) (v := .ref a_this_now) (C := RX2) (T := TX2) (N := 12) hx hb hts jX2_count_X2 hown hK hP 0 rfl rfl 0 (by decide) (hts _ kX2_count_0) (fun _ h9 => h9) rfl dX2_count_187 ?_
                          refine va_get (D := D) (ci := 0) (v := .int (g_this_now 7)) (C := RX0) (T := TX0) (N := 12) hx hb hts jX2_count_X0 hown hK hP 1 rfl rfl 9 (by decide) (hts _ kX2_count_11) (fun _ h9 => h9) rfl dX2_count_190 ?_
                          obtain rfl := Option.some.inj hf
                          exact W.iret (v := (g_this_now 7)) hx hb hr (fun t ht hW => ⟨⟨(g_this_now 7), (), rfl, rfl, rf_mk ht hP hD⟩, hS.F ht⟩) hS.2.2 dX2_count_193
                        · have hf := rf_ifn hf c12
                          by_cases c13 : p1 = 17
                          · have hf := rf_ifp hf c13
                            refine rf_tabC (off := 169) (tgt := 194) hx hb dX2_count_25 c13 (by decide) (by decide) (by decide) (by decide) ?_
                            refine lv_aload_n hx hb dX2_count_194 rfl (lv_at hl 0 rfl) ?_
                            refine va_get (D := D) (ci := 2) (v := .ref a_this_now) (C := RX2) (T := TX2) (N := 12) hx hb hts jX2_count_X2 hown hK hP 0 rfl rfl 0 (by decide) (hts _ kX2_count_0) (fun _ h9 => h9) rfl dX2_count_195 ?_
                            refine va_get (D := D) (ci := 0) (v := .int (g_this_now 2)) (C := RX0) (T := TX0) (N := 12) hx hb hts jX2_count_X0 hown hK hP 1 rfl rfl 4 (by decide) (hts _ kX2_count_12) (fun _ h9 => h9) rfl dX2_count_198 ?_
                            obtain rfl := Option.some.inj hf
                            exact W.iret (v := (g_this_now 2)) hx hb hr (fun t ht hW => ⟨⟨(g_this_now 2), (), rfl, rfl, rf_mk ht hP hD⟩, hS.F ht⟩) hS.2.2 dX2_count_201
                          · have hf := rf_ifn hf c13
                            refine rf_tabD (tgt := 202) (ks := [0, 1, 2, 3, 4, 5, 6, 7, 8, 9, 10, 17]) hx hb dX2_count_25 (by intro z hz; simp only [List.mem_cons, List.not_mem_nil, or_false] at hz; rcases hz with rfl | rfl | rfl | rfl | rfl | rfl | rfl | rfl | rfl | rfl | rfl | rfl <;> assumption) (by decide) (by decide) ?_
                            refine lv_bipush (v := (-9)) hx hb dX2_count_202 (by decide) ?_
                            obtain rfl := Option.some.inj hf
                            exact W.iret (v := (-9)) hx hb hr (fun t ht hW => ⟨⟨(-9), (), rfl, rfl, rf_mk ht hP hD⟩, hS.F ht⟩) hS.2.2 dX2_count_204
  · have hf := rf_ifn hf c1
    refine lv_iload_n hx hb dX2_count_6 rfl (lv_at hl 1 rfl) ?_
    refine lv_bipush (v := 17) hx hb dX2_count_7 (by decide) ?_
    refine lv_icmp_ge (tgt := 24) hx hb dX2_count_9 (by decide) (fun c14 => ?_) (fun c14 => ?_)
    · have hf := rf_ifp hf c14
      refine lv_iload_n hx hb dX2_count_24 rfl (lv_at hl 1 rfl) ?_
      by_cases c15 : p1 = 0
      · have hf := rf_ifp hf c15
        refine rf_tabC (off := 87) (tgt := 112) hx hb dX2_count_25 c15 (by decide) (by decide) (by decide) (by decide) ?_
        refine lv_aload_n hx hb dX2_count_112 rfl (lv_at hl 0 rfl) ?_
        refine va_get (D := D) (ci := 2) (v := .ref a_this_now) (C := RX2) (T := TX2) (N := 12) hx hb hts jX2_count_X2 hown hK hP 0 rfl rfl 0 (by decide) (hts _ kX2_count_0) (fun _ h9 => h9) rfl dX2_count_113 ?_
        refine va_get (D := D) (ci := 0) (v := .int (g_this_now 0)) (C := RX0) (T := TX0) (N := 12) hx hb hts jX2_count_X0 hown hK hP 1 rfl rfl 2 (by decide) (hts _ kX2_count_1) (fun _ h9 => h9) rfl dX2_count_116 ?_
        obtain rfl := Option.some.inj hf
        exact W.iret (v := (g_this_now 0)) hx hb hr (fun t ht hW => ⟨⟨(g_this_now 0), (), rfl, rfl, rf_mk ht hP hD⟩, hS.F ht⟩) hS.2.2 dX2_count_119
      · have hf := rf_ifn hf c15
        by_cases c16 : p1 = 1
        · have hf := rf_ifp hf c16
          refine rf_tabC (off := 95) (tgt := 120) hx hb dX2_count_25 c16 (by decide) (by decide) (by decide) (by decide) ?_
          refine lv_aload_n hx hb dX2_count_120 rfl (lv_at hl 0 rfl) ?_
          refine va_get (D := D) (ci := 2) (v := .ref a_this_now) (C := RX2) (T := TX2) (N := 12) hx hb hts jX2_count_X2 hown hK hP 0 rfl rfl 0 (by decide) (hts _ kX2_count_0) (fun _ h9 => h9) rfl dX2_count_121 ?_
          refine va_get (D := D) (ci := 0) (v := .int (g_this_now 3)) (C := RX0) (T := TX0) (N := 12) hx hb hts jX2_count_X0 hown hK hP 1 rfl rfl 5 (by decide) (hts _ kX2_count_2) (fun _ h9 => h9) rfl dX2_count_124 ?_
          obtain rfl := Option.some.inj hf
          exact W.iret (v := (g_this_now 3)) hx hb hr (fun t ht hW => ⟨⟨(g_this_now 3), (), rfl, rfl, rf_mk ht hP hD⟩, hS.F ht⟩) hS.2.2 dX2_count_127
        · have hf := rf_ifn hf c16
          by_cases c17 : p1 = 2
          · have hf := rf_ifp hf c17
            refine rf_tabC (off := 103) (tgt := 128) hx hb dX2_count_25 c17 (by decide) (by decide) (by decide) (by decide) ?_
            refine lv_aload_n hx hb dX2_count_128 rfl (lv_at hl 0 rfl) ?_
            refine va_get (D := D) (ci := 2) (v := .ref a_this_now) (C := RX2) (T := TX2) (N := 12) hx hb hts jX2_count_X2 hown hK hP 0 rfl rfl 0 (by decide) (hts _ kX2_count_0) (fun _ h9 => h9) rfl dX2_count_129 ?_
            refine va_get (D := D) (ci := 0) (v := .int (g_this_now 4)) (C := RX0) (T := TX0) (N := 12) hx hb hts jX2_count_X0 hown hK hP 1 rfl rfl 6 (by decide) (hts _ kX2_count_3) (fun _ h9 => h9) rfl dX2_count_132 ?_
            obtain rfl := Option.some.inj hf
            exact W.iret (v := (g_this_now 4)) hx hb hr (fun t ht hW => ⟨⟨(g_this_now 4), (), rfl, rfl, rf_mk ht hP hD⟩, hS.F ht⟩) hS.2.2 dX2_count_135
          · have hf := rf_ifn hf c17
            by_cases c18 : p1 = 3
            · have hf := rf_ifp hf c18
              refine rf_tabC (off := 111) (tgt := 136) hx hb dX2_count_25 c18 (by decide) (by decide) (by decide) (by decide) ?_
              refine lv_aload_n hx hb dX2_count_136 rfl (lv_at hl 0 rfl) ?_
              refine va_get (D := D) (ci := 2) (v := .ref a_this_now) (C := RX2) (T := TX2) (N := 12) hx hb hts jX2_count_X2 hown hK hP 0 rfl rfl 0 (by decide) (hts _ kX2_count_0) (fun _ h9 => h9) rfl dX2_count_137 ?_
              refine va_get (D := D) (ci := 0) (v := .int (g_this_now 5)) (C := RX0) (T := TX0) (N := 12) hx hb hts jX2_count_X0 hown hK hP 1 rfl rfl 7 (by decide) (hts _ kX2_count_4) (fun _ h9 => h9) rfl dX2_count_140 ?_
              obtain rfl := Option.some.inj hf
              exact W.iret (v := (g_this_now 5)) hx hb hr (fun t ht hW => ⟨⟨(g_this_now 5), (), rfl, rfl, rf_mk ht hP hD⟩, hS.F ht⟩) hS.2.2 dX2_count_143
            · have hf := rf_ifn hf c18
              by_cases c19 : p1 = 4
              · have hf := rf_ifp hf c19
                refine rf_tabC (off := 119) (tgt := 144) hx hb dX2_count_25 c19 (by decide) (by decide) (by decide) (by decide) ?_
                refine lv_aload_n hx hb dX2_count_144 rfl (lv_at hl 0 rfl) ?_
                refine va_get (D := D) (ci := 2) (v := .ref a_this_now) (C := RX2) (T := TX2) (N := 12) hx hb hts jX2_count_X2 hown hK hP 0 rfl rfl 0 (by decide) (hts _ kX2_count_0) (fun _ h9 => h9) rfl dX2_count_145 ?_
                refine va_get (D := D) (ci := 0) (v := .int (g_this_now 6)) (C := RX0) (T := TX0) (N := 12) hx hb hts jX2_count_X0 hown hK hP 1 rfl rfl 8 (by decide) (hts _ kX2_count_5) (fun _ h9 => h9) rfl dX2_count_148 ?_
                obtain rfl := Option.some.inj hf
                exact W.iret (v := (g_this_now 6)) hx hb hr (fun t ht hW => ⟨⟨(g_this_now 6), (), rfl, rfl, rf_mk ht hP hD⟩, hS.F ht⟩) hS.2.2 dX2_count_151
              · have hf := rf_ifn hf c19
                by_cases c20 : p1 = 5
                · have hf := rf_ifp hf c20
                  refine rf_tabC (off := 127) (tgt := 152) hx hb dX2_count_25 c20 (by decide) (by decide) (by decide) (by decide) ?_
                  refine lv_aload_n hx hb dX2_count_152 rfl (lv_at hl 0 rfl) ?_
                  refine va_get (D := D) (ci := 2) (v := .ref a_this_now) (C := RX2) (T := TX2) (N := 12) hx hb hts jX2_count_X2 hown hK hP 0 rfl rfl 0 (by decide) (hts _ kX2_count_0) (fun _ h9 => h9) rfl dX2_count_153 ?_
                  refine va_get (D := D) (ci := 0) (v := .int (g_this_now 8)) (C := RX0) (T := TX0) (N := 12) hx hb hts jX2_count_X0 hown hK hP 1 rfl rfl 10 (by decide) (hts _ kX2_count_6) (fun _ h9 => h9) rfl dX2_count_156 ?_
                  obtain rfl := Option.some.inj hf
                  exact W.iret (v := (g_this_now 8)) hx hb hr (fun t ht hW => ⟨⟨(g_this_now 8), (), rfl, rfl, rf_mk ht hP hD⟩, hS.F ht⟩) hS.2.2 dX2_count_159
                · have hf := rf_ifn hf c20
                  by_cases c21 : p1 = 6
                  · have hf := rf_ifp hf c21
                    refine rf_tabC (off := 135) (tgt := 160) hx hb dX2_count_25 c21 (by decide) (by decide) (by decide) (by decide) ?_
                    refine lv_aload_n hx hb dX2_count_160 rfl (lv_at hl 0 rfl) ?_
                    refine va_get (D := D) (ci := 2) (v := .ref a_this_now) (C := RX2) (T := TX2) (N := 12) hx hb hts jX2_count_X2 hown hK hP 0 rfl rfl 0 (by decide) (hts _ kX2_count_0) (fun _ h9 => h9) rfl dX2_count_161 ?_
                    refine va_get (D := D) (ci := 0) (v := .int (g_this_now 9)) (C := RX0) (T := TX0) (N := 12) hx hb hts jX2_count_X0 hown hK hP 1 rfl rfl 11 (by decide) (hts _ kX2_count_7) (fun _ h9 => h9) rfl dX2_count_164 ?_
                    obtain rfl := Option.some.inj hf
                    exact W.iret (v := (g_this_now 9)) hx hb hr (fun t ht hW => ⟨⟨(g_this_now 9), (), rfl, rfl, rf_mk ht hP hD⟩, hS.F ht⟩) hS.2.2 dX2_count_167
                  · have hf := rf_ifn hf c21
                    by_cases c22 : p1 = 7
                    · have hf := rf_ifp hf c22
                      refine rf_tabC (off := 143) (tgt := 168) hx hb dX2_count_25 c22 (by decide) (by decide) (by decide) (by decide) ?_
                      refine lv_aload_n hx hb dX2_count_168 rfl (lv_at hl 0 rfl) ?_
                      refine va_get (D := D) (ci := 2) (v := .ref a_this_now) (C := RX2) (T := TX2) (N := 12) hx hb hts jX2_count_X2 hown hK hP 0 rfl rfl 0 (by decide) (hts _ kX2_count_0) (fun _ h9 => h9) rfl dX2_count_169 ?_
                      refine va_get (D := D) (ci := 0) (v := .int (g_this_now 1)) (C := RX0) (T := TX0) (N := 12) hx hb hts jX2_count_X0 hown hK hP 1 rfl rfl 3 (by decide) (hts _ kX2_count_8) (fun _ h9 => h9) rfl dX2_count_172 ?_
                      obtain rfl := Option.some.inj hf
                      exact W.iret (v := (g_this_now 1)) hx hb hr (fun t ht hW => ⟨⟨(g_this_now 1), (), rfl, rfl, rf_mk ht hP hD⟩, hS.F ht⟩) hS.2.2 dX2_count_175
                    · have hf := rf_ifn hf c22
                      by_cases c23 : p1 = 8
                      · have hf := rf_ifp hf c23
                        refine rf_tabC (off := 151) (tgt := 176) hx hb dX2_count_25 c23 (by decide) (by decide) (by decide) (by decide) ?_
                        refine lv_aload_n hx hb dX2_count_176 rfl (lv_at hl 0 rfl) ?_
                        refine va_get (D := D) (ci := 2) (v := .int (g_this 1)) (C := RX2) (T := TX2) (N := 12) hx hb hts jX2_count_X2 hown hK hP 0 rfl rfl 9 (by decide) (hts _ kX2_count_9) (fun _ h9 => h9) rfl dX2_count_177 ?_
                        obtain rfl := Option.some.inj hf
                        exact W.iret (v := (g_this 1)) hx hb hr (fun t ht hW => ⟨⟨(g_this 1), (), rfl, rfl, rf_mk ht hP hD⟩, hS.F ht⟩) hS.2.2 dX2_count_180
                      · have hf := rf_ifn hf c23
                        by_cases c24 : p1 = 9
                        · have hf := rf_ifp hf c24
                          refine rf_tabC (off := 156) (tgt := 181) hx hb dX2_count_25 c24 (by decide) (by decide) (by decide) (by decide) ?_
                          refine lv_aload_n hx hb dX2_count_181 rfl (lv_at hl 0 rfl) ?_
                          refine va_get (D := D) (ci := 2) (v := .int (g_this 0)) (C := RX2) (T := TX2) (N := 12) hx hb hts jX2_count_X2 hown hK hP 0 rfl rfl 8 (by decide) (hts _ kX2_count_10) (fun _ h9 => h9) rfl dX2_count_182 ?_
                          obtain rfl := Option.some.inj hf
                          exact W.iret (v := (g_this 0)) hx hb hr (fun t ht hW => ⟨⟨(g_this 0), (), rfl, rfl, rf_mk ht hP hD⟩, hS.F ht⟩) hS.2.2 dX2_count_185
                        · have hf := rf_ifn hf c24
                          by_cases c25 : p1 = 10
                          · have hf := rf_ifp hf c25
                            refine rf_tabC (off := 161) (tgt := 186) hx hb dX2_count_25 c25 (by decide) (by decide) (by decide) (by decide) ?_
                            refine lv_aload_n hx hb dX2_count_186 rfl (lv_at hl 0 rfl) ?_
                            refine va_get (D := D) (ci := 2) (v := .ref a_this_now) (C := RX2) (T := TX2) (N := 12) hx hb hts jX2_count_X2 hown hK hP 0 rfl rfl 0 (by decide) (hts _ kX2_count_0) (fun _ h9 => h9) rfl dX2_count_187 ?_
                            refine va_get (D := D) (ci := 0) (v := .int (g_this_now 7)) (C := RX0) (T := TX0) (N := 12) hx hb hts jX2_count_X0 hown hK hP 1 rfl rfl 9 (by decide) (hts _ kX2_count_11) (fun _ h9 => h9) rfl dX2_count_190 ?_
                            obtain rfl := Option.some.inj hf
                            exact W.iret (v := (g_this_now 7)) hx hb hr (fun t ht hW => ⟨⟨(g_this_now 7), (), rfl, rfl, rf_mk ht hP hD⟩, hS.F ht⟩) hS.2.2 dX2_count_193
                          · have hf := rf_ifn hf c25
                            by_cases c26 : p1 = 17
                            · have hf := rf_ifp hf c26
                              refine rf_tabC (off := 169) (tgt := 194) hx hb dX2_count_25 c26 (by decide) (by decide) (by decide) (by decide) ?_
                              refine lv_aload_n hx hb dX2_count_194 rfl (lv_at hl 0 rfl) ?_
                              refine va_get (D := D) (ci := 2) (v := .ref a_this_now) (C := RX2) (T := TX2) (N := 12) hx hb hts jX2_count_X2 hown hK hP 0 rfl rfl 0 (by decide) (hts _ kX2_count_0) (fun _ h9 => h9) rfl dX2_count_195 ?_
                              refine va_get (D := D) (ci := 0) (v := .int (g_this_now 2)) (C := RX0) (T := TX0) (N := 12) hx hb hts jX2_count_X0 hown hK hP 1 rfl rfl 4 (by decide) (hts _ kX2_count_12) (fun _ h9 => h9) rfl dX2_count_198 ?_
                              obtain rfl := Option.some.inj hf
                              exact W.iret (v := (g_this_now 2)) hx hb hr (fun t ht hW => ⟨⟨(g_this_now 2), (), rfl, rfl, rf_mk ht hP hD⟩, hS.F ht⟩) hS.2.2 dX2_count_201
                            · have hf := rf_ifn hf c26
                              refine rf_tabD (tgt := 202) (ks := [0, 1, 2, 3, 4, 5, 6, 7, 8, 9, 10, 17]) hx hb dX2_count_25 (by intro z hz; simp only [List.mem_cons, List.not_mem_nil, or_false] at hz; rcases hz with rfl | rfl | rfl | rfl | rfl | rfl | rfl | rfl | rfl | rfl | rfl | rfl <;> assumption) (by decide) (by decide) ?_
                              refine lv_bipush (v := (-9)) hx hb dX2_count_202 (by decide) ?_
                              obtain rfl := Option.some.inj hf
                              exact W.iret (v := (-9)) hx hb hr (fun t ht hW => ⟨⟨(-9), (), rfl, rfl, rf_mk ht hP hD⟩, hS.F ht⟩) hS.2.2 dX2_count_204
    · have hf := rf_ifn hf c14
      refine lv_aload_n hx hb dX2_count_12 rfl (lv_at hl 0 rfl) ?_
      refine va_get (D := D) (ci := 2) (v := .ref a_this_refusals) (C := RX2) (T := TX2) (N := 12) hx hb hts jX2_count_X2 hown hK hP 0 rfl rfl 7 (by decide) (hts _ kX2_count_13) (fun _ h9 => h9) rfl dX2_count_13 ?_
      refine lv_iload_n hx hb dX2_count_16 rfl (lv_at hl 1 rfl) ?_
      refine lv_bipush (v := 10) hx hb dX2_count_17 (by decide) ?_
      refine lv_isub hx hb dX2_count_19 ?_
      obtain ⟨q27, hq27, hf⟩ := rf_bindq hf
      refine rf_Si (As := [.ref a_this_refusals, .int (p1 - 10)]) (rest := []) (wr := [(a_this, .inr (2, rf_o2 a_this_now a_this_then a_this_trial a_this_search a_this_letters a_this_numbers a_this_thickest a_this_refusals g_this)), (a_this_now, .inr (0, rf_o0 a_this_now_kinds a_this_now_thicks g_this_now))]) (wn := [(a_this, .inr (2, rf_o2 a_this_now a_this_then a_this_trial a_this_search a_this_letters a_this_numbers a_this_thickest a_this_refusals g_this)), (a_this_now, .inr (0, rf_o0 a_this_now_kinds a_this_now_thicks g_this_now)), (a_this_refusals, .inl (cA, 7, .inl f_this_refusals))]) ⟨hx, hb, hml, hown, hts⟩ hK hP hD hS hA hE (c_X2_at l D cA ad a_this_refusals s.heap.size 7 f_this_refusals (p1 - 10) q27 hq27) (va_cwS 2 hts gX2_count_X2_at rfl rfl rfl hs_X2_at ⟨Nat.le_of_ble_eq_true rfl, Nat.le_of_ble_eq_true rfl⟩) [2] [0, 1] [0, 1, 2] rfl rfl rfl rfl (by decide) rfl rfl rfl rfl hl.1 (Nat.le_of_ble_eq_true rfl) dX2_count_20 ⟨Nat.zero_le _, Nat.zero_le _⟩ (fun H locs hP hD hS => ?_)
      obtain rfl := Option.some.inj hf
      exact W.iret (v := q27) hx hb hr (fun t ht hW => ⟨⟨q27, (), rfl, rfl, rf_mk ht hP hD⟩, hS.F ht⟩) hS.2.2 dX2_count_23
