theorem hs_X3_coldBy : yX3_coldBy.cls ≠ "java/lang/invoke/MethodHandle" ∧ yX3_coldBy.cls ≠ "java/lang/invoke/VarHandle" ∧ (parseMethodDescriptor yX3_coldBy.desc).map (fun d => d.parameters.length) = some 2 := by decide +kernel
theorem hs_X3_harmOf : yX3_harmOf.cls ≠ "java/lang/invoke/MethodHandle" ∧ yX3_harmOf.cls ≠ "java/lang/invoke/VarHandle" ∧ (parseMethodDescriptor yX3_harmOf.desc).map (fun d => d.parameters.length) = some 1 := by decide +kernel
theorem hs_X3_lays : yX3_lays.cls ≠ "java/lang/invoke/MethodHandle" ∧ yX3_lays.cls ≠ "java/lang/invoke/VarHandle" ∧ (parseMethodDescriptor yX3_lays.desc).map (fun d => d.parameters.length) = some 2 := by decide +kernel
theorem hs_X3_least : yX3_least.cls ≠ "java/lang/invoke/MethodHandle" ∧ yX3_least.cls ≠ "java/lang/invoke/VarHandle" ∧ (parseMethodDescriptor yX3_least.desc).map (fun d => d.parameters.length) = some 2 := by decide +kernel
theorem hs_X3_minutesOf : yX3_minutesOf.cls ≠ "java/lang/invoke/MethodHandle" ∧ yX3_minutesOf.cls ≠ "java/lang/invoke/VarHandle" ∧ (parseMethodDescriptor yX3_minutesOf.desc).map (fun d => d.parameters.length) = some 1 := by decide +kernel
theorem hs_X3_most : yX3_most.cls ≠ "java/lang/invoke/MethodHandle" ∧ yX3_most.cls ≠ "java/lang/invoke/VarHandle" ∧ (parseMethodDescriptor yX3_most.desc).map (fun d => d.parameters.length) = some 2 := by decide +kernel
theorem hs_X3_swellsBy : yX3_swellsBy.cls ≠ "java/lang/invoke/MethodHandle" ∧ yX3_swellsBy.cls ≠ "java/lang/invoke/VarHandle" ∧ (parseMethodDescriptor yX3_swellsBy.desc).map (fun d => d.parameters.length) = some 1 := by decide +kernel
theorem hs_X3_thickOf : yX3_thickOf.cls ≠ "java/lang/invoke/MethodHandle" ∧ yX3_thickOf.cls ≠ "java/lang/invoke/VarHandle" ∧ (parseMethodDescriptor yX3_thickOf.desc).map (fun d => d.parameters.length) = some 5 := by decide +kernel
theorem hv_X3_allows : yX3_allows.cls = RX3 ∧ yX3_allows.cls ≠ "java/lang/invoke/MethodHandle" ∧ yX3_allows.cls ≠ "java/lang/invoke/VarHandle" ∧ (parseMethodDescriptor yX3_allows.desc).map (fun d => d.parameters.length) = some 1 := by decide +kernel
theorem hv_X3_goesOver : yX3_goesOver.cls = RX3 ∧ yX3_goesOver.cls ≠ "java/lang/invoke/MethodHandle" ∧ yX3_goesOver.cls ≠ "java/lang/invoke/VarHandle" ∧ (parseMethodDescriptor yX3_goesOver.desc).map (fun d => d.parameters.length) = some 4 := by decide +kernel
theorem hv_X3_no : yX3_no.cls = RX3 ∧ yX3_no.cls ≠ "java/lang/invoke/MethodHandle" ∧ yX3_no.cls ≠ "java/lang/invoke/VarHandle" ∧ (parseMethodDescriptor yX3_no.desc).map (fun d => d.parameters.length) = some 1 := by decide +kernel
theorem hv_X3_partBy : yX3_partBy.cls = RX3 ∧ yX3_partBy.cls ≠ "java/lang/invoke/MethodHandle" ∧ yX3_partBy.cls ≠ "java/lang/invoke/VarHandle" ∧ (parseMethodDescriptor yX3_partBy.desc).map (fun d => d.parameters.length) = some 4 := by decide +kernel
theorem hv_X3_wears : yX3_wears.cls = RX3 ∧ yX3_wears.cls ≠ "java/lang/invoke/MethodHandle" ∧ yX3_wears.cls ≠ "java/lang/invoke/VarHandle" ∧ (parseMethodDescriptor yX3_wears.desc).map (fun d => d.parameters.length) = some 1 := by decide +kernel
theorem hv_X3_wouldGo : yX3_wouldGo.cls = RX3 ∧ yX3_wouldGo.cls ≠ "java/lang/invoke/MethodHandle" ∧ yX3_wouldGo.cls ≠ "java/lang/invoke/VarHandle" ∧ (parseMethodDescriptor yX3_wouldGo.desc).map (fun d => d.parameters.length) = some 1 := by decide +kernel

set_option maxHeartbeats 8000000 in
set_option maxRecDepth 100000 in
theorem c_X3_isIn (l : Launch) (D : va_G) (cA : ClassId) (ad : Nat → Nat) (sz : Nat) (p0 p1 p2 : Int32) (q : Int32) (hf : f_X3_isIn p0 p1 p2 = some q) : Met l yX3_isIn wsX3_isIn ({ frames := 0, cells := 0, slots := 0, locals := 0 } : Room) (va_Pc [.int p0, .int p1, .int p2] (rf_Pre D cA ad [] sz)) (va_Qi (fun (r : Int32) (_ : Unit) => r = q) (fun _ t => rf_Post D (va_A [] sz) [] t) (va_A [] sz)) 0 0 (va_A [] sz) := by
  refine Met.ofW (cc := cX3_isIn) (maxL := 3) (ret := (some .boolean)) (by decide) rfl ?_
  intro p e s m args below meth c s₁ B hml hv
  obtain ⟨rfl, hsz, hP, hK, hD0, hE⟩ := hv
  have hx := B.exec
  have hb := B.bytes
  have hr := B.returns
  have hts := atoms_spec (ws := wsX3_isIn) B.pre
  have hown : s.vm.findClass RX3 = some m.cls := findClass_of_methodNamed B.named
  have hlocks := B.notSynchronized
  subst hsz
  have hD := hD0.self (sz := s.heap.size)
  generalize hAe : va_A [] s.heap.size = A at hD hE ⊢
  have hA : ∀ q : Nat, s.heap.size ≤ q → A q := fun q h => by rw [← hAe]; exact Or.inr h
  have hS : va_S A s.heap s.heap [] := va_S.rf
  have hP : va_P D vwCl [] s.heap := hP
  have hl := lv_entry ([.int p0, .int p1, .int p2]) (n := 3) (Nat.le_of_ble_eq_true rfl)
  rw [lg_entry_eq]
  generalize (lg_sl ([.int p0, .int p1, .int p2]) ++ List.replicate (3 - (lg_sl ([.int p0, .int p1, .int p2])).length) Slot.unset).toArray = ls at hl ⊢
  have hl : lv_has ls 3 [(0, .int p0), (1, .int p1), (2, .int p2)] := hl
  rw [f_X3_isIn] at hf
  refine lv_iload_n hx hb dX3_isIn_0 rfl (lv_at hl 0 rfl) ?_
  refine lv_iload_n hx hb dX3_isIn_1 rfl (lv_at hl 1 rfl) ?_
  refine lv_icmp_lt (tgt := 14) hx hb dX3_isIn_2 (by decide) (fun c1 => ?_) (fun c1 => ?_)
  · have hf := rf_ifp hf c1
    refine lv_iconst (v := 0) hx hb dX3_isIn_14 (by decide) ?_
    obtain rfl := Option.some.inj hf
    exact W.zret (v := 0) hx hb hr rfl (fun t ht hW => ⟨⟨0, (), rfl, rfl, rf_mk ht hP hD⟩, hS.F ht⟩) hS.2.2 dX3_isIn_15
  · have hf := rf_ifn hf c1
    refine lv_iload_n hx hb dX3_isIn_5 rfl (lv_at hl 0 rfl) ?_
    refine lv_iload_n hx hb dX3_isIn_6 rfl (lv_at hl 2 rfl) ?_
    refine lv_icmp_gt (tgt := 14) hx hb dX3_isIn_7 (by decide) (fun c2 => ?_) (fun c2 => ?_)
    · have hf := rf_ifp hf c2
      refine lv_iconst (v := 0) hx hb dX3_isIn_14 (by decide) ?_
      obtain rfl := Option.some.inj hf
      exact W.zret (v := 0) hx hb hr rfl (fun t ht hW => ⟨⟨0, (), rfl, rfl, rf_mk ht hP hD⟩, hS.F ht⟩) hS.2.2 dX3_isIn_15
    · have hf := rf_ifn hf c2
      refine lv_iconst (v := 1) hx hb dX3_isIn_10 (by decide) ?_
      refine lv_goto (tgt := 15) hx hb dX3_isIn_11 (by decide) ?_
      obtain rfl := Option.some.inj hf
      exact W.zret (v := 1) hx hb hr rfl (fun t ht hW => ⟨⟨1, (), rfl, rfl, rf_mk ht hP hD⟩, hS.F ht⟩) hS.2.2 dX3_isIn_15

set_option maxHeartbeats 8000000 in
set_option maxRecDepth 100000 in
theorem c_X3_least (l : Launch) (D : va_G) (cA : ClassId) (ad : Nat → Nat) (sz : Nat) (p0 p1 : Int32) (q : Int32) (hf : f_X3_least p0 p1 = some q) : Met l yX3_least wsX3_least ({ frames := 0, cells := 0, slots := 0, locals := 0 } : Room) (va_Pc [.int p0, .int p1] (rf_Pre D cA ad [] sz)) (va_Qi (fun (r : Int32) (_ : Unit) => r = q) (fun _ t => rf_Post D (va_A [] sz) [] t) (va_A [] sz)) 0 0 (va_A [] sz) := by
  refine Met.ofW (cc := cX3_least) (maxL := 2) (ret := (some .int)) (by decide) rfl ?_
  intro p e s m args below meth c s₁ B hml hv
  obtain ⟨rfl, hsz, hP, hK, hD0, hE⟩ := hv
  have hx := B.exec
  have hb := B.bytes
  have hr := B.returns
  have hts := atoms_spec (ws := wsX3_least) B.pre
  have hown : s.vm.findClass RX3 = some m.cls := findClass_of_methodNamed B.named
  have hlocks := B.notSynchronized
  subst hsz
  have hD := hD0.self (sz := s.heap.size)
  generalize hAe : va_A [] s.heap.size = A at hD hE ⊢
  have hA : ∀ q : Nat, s.heap.size ≤ q → A q := fun q h => by rw [← hAe]; exact Or.inr h
  have hS : va_S A s.heap s.heap [] := va_S.rf
  have hP : va_P D vwCl [] s.heap := hP
  have hl := lv_entry ([.int p0, .int p1]) (n := 2) (Nat.le_of_ble_eq_true rfl)
  rw [lg_entry_eq]
  generalize (lg_sl ([.int p0, .int p1]) ++ List.replicate (2 - (lg_sl ([.int p0, .int p1])).length) Slot.unset).toArray = ls at hl ⊢
  have hl : lv_has ls 2 [(0, .int p0), (1, .int p1)] := hl
  rw [f_X3_least] at hf
  refine lv_iload_n hx hb dX3_least_0 rfl (lv_at hl 0 rfl) ?_
  refine lv_iload_n hx hb dX3_least_1 rfl (lv_at hl 1 rfl) ?_
  refine lv_icmp_ge (tgt := 9) hx hb dX3_least_2 (by decide) (fun c1 => ?_) (fun c1 => ?_)
  · have hf := rf_ifp hf c1
    refine lv_iload_n hx hb dX3_least_9 rfl (lv_at hl 1 rfl) ?_
    obtain rfl := Option.some.inj hf
    exact W.iret (v := p1) hx hb hr (fun t ht hW => ⟨⟨p1, (), rfl, rfl, rf_mk ht hP hD⟩, hS.F ht⟩) hS.2.2 dX3_least_10
  · have hf := rf_ifn hf c1
    refine lv_iload_n hx hb dX3_least_5 rfl (lv_at hl 0 rfl) ?_
    refine lv_goto (tgt := 10) hx hb dX3_least_6 (by decide) ?_
    obtain rfl := Option.some.inj hf
    exact W.iret (v := p0) hx hb hr (fun t ht hW => ⟨⟨p0, (), rfl, rfl, rf_mk ht hP hD⟩, hS.F ht⟩) hS.2.2 dX3_least_10

set_option maxHeartbeats 8000000 in
set_option maxRecDepth 100000 in
theorem c_X3_most (l : Launch) (D : va_G) (cA : ClassId) (ad : Nat → Nat) (sz : Nat) (p0 p1 : Int32) (q : Int32) (hf : f_X3_most p0 p1 = some q) : Met l yX3_most wsX3_most ({ frames := 0, cells := 0, slots := 0, locals := 0 } : Room) (va_Pc [.int p0, .int p1] (rf_Pre D cA ad [] sz)) (va_Qi (fun (r : Int32) (_ : Unit) => r = q) (fun _ t => rf_Post D (va_A [] sz) [] t) (va_A [] sz)) 0 0 (va_A [] sz) := by
  refine Met.ofW (cc := cX3_most) (maxL := 2) (ret := (some .int)) (by decide) rfl ?_
  intro p e s m args below meth c s₁ B hml hv
  obtain ⟨rfl, hsz, hP, hK, hD0, hE⟩ := hv
  have hx := B.exec
  have hb := B.bytes
  have hr := B.returns
  have hts := atoms_spec (ws := wsX3_most) B.pre
  have hown : s.vm.findClass RX3 = some m.cls := findClass_of_methodNamed B.named
  have hlocks := B.notSynchronized
  subst hsz
  have hD := hD0.self (sz := s.heap.size)
  generalize hAe : va_A [] s.heap.size = A at hD hE ⊢
  have hA : ∀ q : Nat, s.heap.size ≤ q → A q := fun q h => by rw [← hAe]; exact Or.inr h
  have hS : va_S A s.heap s.heap [] := va_S.rf
  have hP : va_P D vwCl [] s.heap := hP
  have hl := lv_entry ([.int p0, .int p1]) (n := 2) (Nat.le_of_ble_eq_true rfl)
  rw [lg_entry_eq]
  generalize (lg_sl ([.int p0, .int p1]) ++ List.replicate (2 - (lg_sl ([.int p0, .int p1])).length) Slot.unset).toArray = ls at hl ⊢
  have hl : lv_has ls 2 [(0, .int p0), (1, .int p1)] := hl
  rw [f_X3_most] at hf
  refine lv_iload_n hx hb dX3_most_0 rfl (lv_at hl 0 rfl) ?_
  refine lv_iload_n hx hb dX3_most_1 rfl (lv_at hl 1 rfl) ?_
  refine lv_icmp_le (tgt := 9) hx hb dX3_most_2 (by decide) (fun c1 => ?_) (fun c1 => ?_)
  · have hf := rf_ifp hf c1
    refine lv_iload_n hx hb dX3_most_9 rfl (lv_at hl 1 rfl) ?_
    obtain rfl := Option.some.inj hf
    exact W.iret (v := p1) hx hb hr (fun t ht hW => ⟨⟨p1, (), rfl, rfl, rf_mk ht hP hD⟩, hS.F ht⟩) hS.2.2 dX3_most_10
  · have hf := rf_ifn hf c1
    refine lv_iload_n hx hb dX3_most_5 rfl (lv_at hl 0 rfl) ?_
    refine lv_goto (tgt := 10) hx hb dX3_most_6 (by decide) ?_
    obtain rfl := Option.some.inj hf
    exact W.iret (v := p0) hx hb hr (fun t ht hW => ⟨⟨p0, (), rfl, rfl, rf_mk ht hP hD⟩, hS.F ht⟩) hS.2.2 dX3_most_10

set_option maxHeartbeats 8000000 in
set_option maxRecDepth 100000 in
theorem c_X3_laysR (l : Launch) (D : va_G) (cA : ClassId) (ad : Nat → Nat) (a_o0 a_o1 : Nat) (sz : Nat) (n_o0 n_o1 : Nat) (f_o0 f_o1 : Nat → Int32) (q : (Nat → Int32)) (hf : f_X3_laysR n_o0 n_o1 f_o0 f_o1 = some q) : Met l yX3_lays wsX3_lays ({ frames := 0, cells := 0, slots := 0, locals := 0 } : Room) (va_Pc [.ref a_o0, .ref a_o1] (rf_Pre D cA ad [(a_o0, .inl (cA, n_o0, .inl f_o0)), (a_o1, .inl (cA, n_o1, .inl f_o1))] sz)) (va_Qv (fun (_ : Unit) => True) (fun _ t => rf_Post D (va_A [(a_o0, .inl (cA, n_o0, .inl f_o0)), (a_o1, .inl (cA, n_o1, .inl f_o1))] sz) [(a_o0, .inl (cA, n_o0, .inl f_o0)), (a_o1, .inl (cA, n_o1, .inl q))] t) (va_A [(a_o0, .inl (cA, n_o0, .inl f_o0)), (a_o1, .inl (cA, n_o1, .inl f_o1))] sz)) 0 0 (va_A [(a_o0, .inl (cA, n_o0, .inl f_o0)), (a_o1, .inl (cA, n_o1, .inl f_o1))] sz) := by
  refine Met.ofW (cc := cX3_lays) (maxL := 3) (ret := none) (by decide) rfl ?_
  intro p e s m args below meth c s₁ B hml hv
  obtain ⟨rfl, hsz, hP, hK, hD0, hE⟩ := hv
  have hx := B.exec
  have hb := B.bytes
  have hr := B.returns
  have hts := atoms_spec (ws := wsX3_lays) B.pre
  have hown : s.vm.findClass RX3 = some m.cls := findClass_of_methodNamed B.named
  have hlocks := B.notSynchronized
  subst hsz
  have hD := hD0.self (sz := s.heap.size)
  generalize hAe : va_A [(a_o0, .inl (cA, n_o0, .inl f_o0)), (a_o1, .inl (cA, n_o1, .inl f_o1))] s.heap.size = A at hD hE ⊢
  have hA : ∀ q : Nat, s.heap.size ≤ q → A q := fun q h => by rw [← hAe]; exact Or.inr h
  have hS : va_S A s.heap s.heap [] := va_S.rf
  have hP : va_P D vwCl [(a_o0, .inl (cA, n_o0, .inl f_o0)), (a_o1, .inl (cA, n_o1, .inl f_o1))] s.heap := hP
  have hl := lv_entry ([.ref a_o0, .ref a_o1]) (n := 3) (Nat.le_of_ble_eq_true rfl)
  rw [lg_entry_eq]
  generalize (lg_sl ([.ref a_o0, .ref a_o1]) ++ List.replicate (3 - (lg_sl ([.ref a_o0, .ref a_o1])).length) Slot.unset).toArray = ls at hl ⊢
  have hl : lv_has ls 3 [(0, .ref a_o0), (1, .ref a_o1)] := hl
  have key_2 : ∀ (n : Nat) (x2 : Int32) (yf_o1 : Nat → Int32) (ql : Int32 × (Nat → Int32)), f_X3_laysR_L2 n_o0 n_o1 f_o0 n x2 yf_o1 = some ql → ∀ (H : Heap) (locs : List Loc) (ls : Array Slot), va_P D vwCl [(a_o0, .inl (cA, n_o0, .inl f_o0)), (a_o1, .inl (cA, n_o1, .inl yf_o1))] H → va_D A [(a_o0, .inl (cA, n_o0, .inl f_o0)), (a_o1, .inl (cA, n_o1, .inl yf_o1))] → va_S A s.heap H locs → lv_has ls 3 [(0, .ref a_o0), (1, .ref a_o1), (2, .int x2)] → (∀ (H : Heap) (locs : List Loc) (ls : Array Slot), va_P D vwCl [(a_o0, .inl (cA, n_o0, .inl f_o0)), (a_o1, .inl (cA, n_o1, .inl ql.2))] H → va_D A [(a_o0, .inl (cA, n_o0, .inl f_o0)), (a_o1, .inl (cA, n_o1, .inl ql.2))] → va_S A s.heap H locs → lv_has ls 3 [(0, .ref a_o0), (1, .ref a_o1), (2, .int ql.1)] → W p l e (headSpec wsX3_lays ({ frames := 0, cells := 0, slots := 0, locals := 0 } : Room)).room s m ([.ref a_o0, .ref a_o1] : List Value).toArray below meth c H locs 0 0 (MQ below (va_Qv (fun (_ : Unit) => True) (fun _ t => rf_Post D A [(a_o0, .inl (cA, n_o0, .inl f_o0)), (a_o1, .inl (cA, n_o1, .inl q))] t) A) ([.ref a_o0, .ref a_o1] : List Value).toArray s 0 0 A) (F0 m 20 ls [])) → W p l e (headSpec wsX3_lays ({ frames := 0, cells := 0, slots := 0, locals := 0 } : Room)).room s m ([.ref a_o0, .ref a_o1] : List Value).toArray below meth c H locs 0 0 (MQ below (va_Qv (fun (_ : Unit) => True) (fun _ t => rf_Post D A [(a_o0, .inl (cA, n_o0, .inl f_o0)), (a_o1, .inl (cA, n_o1, .inl q))] t) A) ([.ref a_o0, .ref a_o1] : List Value).toArray s 0 0 A) (F0 m 2 ls []) := by
    intro n
    induction n with
    | zero =>
      intro x2 yf_o1 ql hf H locs ls hP hD hS hl kx
      exact absurd (show (none : Option (Int32 × (Nat → Int32))) = some ql from hf) (fun h9 => by cases h9)
    | succ n ih =>
      intro x2 yf_o1 ql hf H locs ls hP hD hS hl kx
      rw [f_X3_laysR_L2] at hf
      refine lv_iload_n hx hb dX3_lays_2 rfl (lv_at hl 2 rfl) ?_
      refine lv_bipush (v := 22) hx hb dX3_lays_3 (by decide) ?_
      refine lv_icmp_ge (tgt := 20) hx hb dX3_lays_5 (by decide) (fun c1 => ?_) (fun c1 => ?_)
      · have hf := rf_ifp hf c1
        obtain rfl := Option.some.inj hf
        exact kx _ _ _ hP hD hS (lv_sub hl [0, 1, 2] rfl)
      · have hf := rf_ifn hf c1
        refine lv_aload_n hx hb dX3_lays_8 rfl (lv_at hl 1 rfl) ?_
        refine lv_iload_n hx hb dX3_lays_9 rfl (lv_at hl 2 rfl) ?_
        refine lv_aload_n hx hb dX3_lays_10 rfl (lv_at hl 0 rfl) ?_
        refine lv_iload_n hx hb dX3_lays_11 rfl (lv_at hl 2 rfl) ?_
        obtain ⟨c2, hf⟩ := rf_chk hf
        refine va_iald hx hb hK hP 0 0 rfl rfl c2 dX3_lays_12 ?_
        refine lv_topi (fun v3 ev3 => ?_)
        have hf := rf_bindv hf ev3
        clear ev3
        obtain ⟨c4, hf⟩ := rf_chk hf
        refine va_iast hx hb hK hP hD hS 1 0 rfl rfl c4 dX3_lays_13 (fun H locs hP hD hS => ?_)
        have hP : va_P D vwCl [(a_o0, .inl (cA, n_o0, .inl f_o0)), (a_o1, .inl (cA, n_o1, .inl (upd yf_o1 (x2.toNatClampNeg) v3)))] H := hP
        have hD : va_D A [(a_o0, .inl (cA, n_o0, .inl f_o0)), (a_o1, .inl (cA, n_o1, .inl (upd yf_o1 (x2.toNatClampNeg) v3)))] := hD
        obtain ⟨v5, ev5⟩ : ∃ y : Int32, y = x2 + 1 := ⟨_, rfl⟩
        have hf := rf_bindv hf ev5
        refine lv_iinc (v := v5) (lv' := [(2, .int v5), (0, .ref a_o0), (1, .ref a_o1)]) hx hb dX3_lays_14 hl (k := 2) rfl (by rw [ev5]; rfl) (by decide) rfl (fun ls hl => ?_)
        clear ev5
        refine lv_goto (tgt := 2) hx hb dX3_lays_17 (by decide) ?_
        exact ih v5 (upd yf_o1 (x2.toNatClampNeg) v3) ql hf _ _ _ hP hD hS (lv_sub hl [1, 2, 0] rfl) kx
  rw [f_X3_laysR] at hf
  refine lv_iconst (v := 0) hx hb dX3_lays_0 (by decide) ?_
  refine lv_istore_n (lv' := [(2, .int 0), (0, .ref a_o0), (1, .ref a_o1)]) hx hb dX3_lays_1 rfl hl (by decide) rfl (fun ls hl => ?_)
  obtain ⟨q6, hq6, hf⟩ := rf_bindq hf
  refine key_2 rf_fu 0 f_o1 q6 hq6 _ _ _ hP hD hS (lv_sub hl [1, 2, 0] rfl) (fun H locs ls hP hD hS hl => ?_)
  obtain rfl := Option.some.inj hf
  exact W.vret hx hb hr (fun t ht hW => ⟨⟨(), rfl, trivial, rf_mk ht hP hD⟩, hS.F ht⟩) hS.2.2 dX3_lays_20
theorem rf_laysL (f0 : Nat → Int32) : ∀ (d k n : Nat) (to : Nat → Int32), k + d = 22 → d < n → (∀ j, j < k → to j = f0 j) → ∃ r : Nat → Int32, (∃ x, f_X3_laysR_L2 22 22 f0 n (nI k) to = some (x, r)) ∧ ∀ j, j < 22 → r j = f0 j := by
  intro d
  induction d with
  | zero =>
    intro k n to hk hn h
    obtain ⟨n, rfl⟩ : ∃ m, n = m + 1 := ⟨n - 1, by omega⟩
    have hk : k = 22 := by omega
    subst hk
    refine ⟨to, ⟨nI 22, ?_⟩, h⟩
    rw [f_X3_laysR_L2, if_pos (by decide)]
  | succ d ih =>
    intro k n to hk hn h
    obtain ⟨n, rfl⟩ : ∃ m, n = m + 1 := ⟨n - 1, by omega⟩
    have hk22 : k < 22 := by omega
    obtain ⟨r, ⟨x, hx⟩, hr⟩ := ih (k + 1) n (upd to k (f0 k)) (by omega) (by omega) (fun j hj => by
      unfold upd
      by_cases e : j = k
      · rw [if_pos e, e]
      · rw [if_neg e]
        exact h j (by omega))
    refine ⟨r, ⟨x, ?_⟩, hr⟩
    have c1 : ¬ (22 : Int32) ≤ nI k := nI_ge (b := 22) hk22 (by decide)
    have c2 : ¬ (nI k < 0 ∨ 22 ≤ (nI k).toNatClampNeg) := nI_in (N := 22) hk22 (by decide)
    have c3 : (nI k).toNatClampNeg = k := nI_clamp (by omega)
    rw [f_X3_laysR_L2, if_neg c1, if_pos c2, c3]
    show (if ¬ (nI k < 0 ∨ 22 ≤ k) then (some (nI k + 1)).bind fun v5 => f_X3_laysR_L2 22 22 f0 n v5 (upd to k (f0 k)) else none) = some (x, r)
    rw [c3] at c2
    rw [if_pos c2]
    show f_X3_laysR_L2 22 22 f0 n (nI k + 1) (upd to k (f0 k)) = some (x, r)
    rw [nI_1]
    exact hx
theorem c_X3_lays (l : Launch) (D : va_G) (cA : ClassId) (ad : Nat → Nat) (a_o0 a_o1 : Nat) (sz : Nat) (n_o0 n_o1 : Nat) (f_o0 f_o1 : Nat → Int32) (q : (Nat → Int32)) (hf : f_X3_lays n_o0 n_o1 f_o0 f_o1 = some q) : Met l yX3_lays wsX3_lays ({ frames := 0, cells := 0, slots := 0, locals := 0 } : Room) (va_Pc [.ref a_o0, .ref a_o1] (rf_Pre D cA ad [(a_o0, .inl (cA, n_o0, .inl f_o0)), (a_o1, .inl (cA, n_o1, .inl f_o1))] sz)) (va_Qv (fun (_ : Unit) => True) (fun _ t => rf_Post D (va_A [(a_o0, .inl (cA, n_o0, .inl f_o0)), (a_o1, .inl (cA, n_o1, .inl f_o1))] sz) [(a_o0, .inl (cA, n_o0, .inl f_o0)), (a_o1, .inl (cA, n_o1, .inl q))] t) (va_A [(a_o0, .inl (cA, n_o0, .inl f_o0)), (a_o1, .inl (cA, n_o1, .inl f_o1))] sz)) 0 0 (va_A [(a_o0, .inl (cA, n_o0, .inl f_o0)), (a_o1, .inl (cA, n_o1, .inl f_o1))] sz) := by
  obtain ⟨⟨rfl, rfl⟩, hf⟩ := rf_chk hf
  cases hf
  obtain ⟨r, ⟨x, hx⟩, hr⟩ := rf_laysL f_o0 22 0 rf_fu f_o1 rfl (by unfold rf_fu; omega) (fun j hj => absurd hj (Nat.not_lt_zero j))
  have hR : f_X3_laysR 22 22 f_o0 f_o1 = some r := by
    unfold f_X3_laysR
    rw [show (0 : Int32) = nI 0 from rfl, hx]
    rfl
  refine rf_Met (c_X3_laysR l D cA ad a_o0 a_o1 sz 22 22 f_o0 f_o1 r hR) (fun a st o t h => ?_)
  obtain ⟨⟨u, h1, h2, hP, hD⟩, hF⟩ := h
  obtain ⟨hP, hD⟩ := rf_arrx hP hD 1 rfl f_o0 hr
  exact ⟨⟨u, h1, h2, hP, hD⟩, hF⟩

theorem kX3_begins_0 : (.fieldLink RX3 9 "RingAndFingerModel" "s" "[I" : Cond) ∈ wsX3_begins := by decide +kernel
theorem kX3_begins_1 : (.fieldLink RX3 19 "RingAndFingerModel" "mind" "[I" : Cond) ∈ wsX3_begins := by decide +kernel
theorem jX3_begins_X3 : ∀ w ∈ u_ws RX3 TX3 16, w ∈ wsX3_begins := by decide +kernel
set_option maxHeartbeats 8000000 in
set_option maxRecDepth 100000 in
theorem c_X3_begins (l : Launch) (D : va_G) (cA : ClassId) (ad : Nat → Nat) (a_this a_this_s a_this_image a_this_read a_this_mind a_this_letters a_this_row a_this_refused a_this_numbers a_this_cost : Nat) (sz : Nat) (g_this f_this_s f_this_mind : Nat → Int32) (q : (Nat → Int32)) (hf : f_X3_begins g_this f_this_s f_this_mind = some q) : Met l yX3_begins wsX3_begins ({ frames := 1, cells := 0, slots := 0, locals := 22 } : Room) (va_Pc [.ref a_this] (rf_Pre D cA ad [(a_this, .inr (3, rf_o3 a_this_s a_this_image a_this_read a_this_mind a_this_letters a_this_row a_this_refused a_this_numbers a_this_cost g_this)), (a_this_s, .inl (cA, 22, .inl f_this_s)), (a_this_mind, .inl (cA, 22, .inl f_this_mind))] sz)) (va_Qv (fun (_ : Unit) => True) (fun _ t => rf_Post D (va_A [(a_this, .inr (3, rf_o3 a_this_s a_this_image a_this_read a_this_mind a_this_letters a_this_row a_this_refused a_this_numbers a_this_cost g_this)), (a_this_s, .inl (cA, 22, .inl f_this_s)), (a_this_mind, .inl (cA, 22, .inl f_this_mind))] sz) [(a_this, .inr (3, rf_o3 a_this_s a_this_image a_this_read a_this_mind a_this_letters a_this_row a_this_refused a_this_numbers a_this_cost g_this)), (a_this_s, .inl (cA, 22, .inl f_this_s)), (a_this_mind, .inl (cA, 22, .inl q))] t) (va_A [(a_this, .inr (3, rf_o3 a_this_s a_this_image a_this_read a_this_mind a_this_letters a_this_row a_this_refused a_this_numbers a_this_cost g_this)), (a_this_s, .inl (cA, 22, .inl f_this_s)), (a_this_mind, .inl (cA, 22, .inl f_this_mind))] sz)) 0 0 (va_A [(a_this, .inr (3, rf_o3 a_this_s a_this_image a_this_read a_this_mind a_this_letters a_this_row a_this_refused a_this_numbers a_this_cost g_this)), (a_this_s, .inl (cA, 22, .inl f_this_s)), (a_this_mind, .inl (cA, 22, .inl f_this_mind))] sz) := by
  refine Met.ofW (cc := cX3_begins) (maxL := 1) (ret := none) (by decide) rfl ?_
  intro p e s m args below meth c s₁ B hml hv
  obtain ⟨rfl, hsz, hP, hK, hD0, hE⟩ := hv
  have hx := B.exec
  have hb := B.bytes
  have hr := B.returns
  have hts := atoms_spec (ws := wsX3_begins) B.pre
  have hown : s.vm.findClass RX3 = some m.cls := findClass_of_methodNamed B.named
  have hlocks := B.notSynchronized
  subst hsz
  have hD := hD0.self (sz := s.heap.size)
  generalize hAe : va_A [(a_this, .inr (3, rf_o3 a_this_s a_this_image a_this_read a_this_mind a_this_letters a_this_row a_this_refused a_this_numbers a_this_cost g_this)), (a_this_s, .inl (cA, 22, .inl f_this_s)), (a_this_mind, .inl (cA, 22, .inl f_this_mind))] s.heap.size = A at hD hE ⊢
  have hA : ∀ q : Nat, s.heap.size ≤ q → A q := fun q h => by rw [← hAe]; exact Or.inr h
  have hS : va_S A s.heap s.heap [] := va_S.rf
  have hP : va_P D vwCl [(a_this, .inr (3, rf_o3 a_this_s a_this_image a_this_read a_this_mind a_this_letters a_this_row a_this_refused a_this_numbers a_this_cost g_this)), (a_this_s, .inl (cA, 22, .inl f_this_s)), (a_this_mind, .inl (cA, 22, .inl f_this_mind))] s.heap := hP
  have hl := lv_entry ([.ref a_this]) (n := 1) (Nat.le_of_ble_eq_true rfl)
  rw [lg_entry_eq]
  generalize (lg_sl ([.ref a_this]) ++ List.replicate (1 - (lg_sl ([.ref a_this])).length) Slot.unset).toArray = ls at hl ⊢
  have hl : lv_has ls 1 [(0, .ref a_this)] := hl
  rw [f_X3_begins] at hf
  refine lv_aload_n hx hb dX3_begins_0 rfl (lv_at hl 0 rfl) ?_
  refine va_get (D := D) (ci := 3) (v := .ref a_this_s) (C := RX3) (T := TX3) (N := 16) hx hb hts jX3_begins_X3 hown hK hP 0 rfl rfl 0 (by decide) (hts _ kX3_begins_0) (fun _ h9 => h9) rfl dX3_begins_1 ?_
  refine lv_aload_n hx hb dX3_begins_4 rfl (lv_at hl 0 rfl) ?_
  refine va_get (D := D) (ci := 3) (v := .ref a_this_mind) (C := RX3) (T := TX3) (N := 16) hx hb hts jX3_begins_X3 hown hK hP 0 rfl rfl 3 (by decide) (hts _ kX3_begins_1) (fun _ h9 => h9) rfl dX3_begins_5 ?_
  obtain ⟨q1, hq1, hf⟩ := rf_bindq hf
  refine rf_Sv (As := [.ref a_this_s, .ref a_this_mind]) (rest := []) (wr := [(a_this, .inr (3, rf_o3 a_this_s a_this_image a_this_read a_this_mind a_this_letters a_this_row a_this_refused a_this_numbers a_this_cost g_this))]) (wn := [(a_this, .inr (3, rf_o3 a_this_s a_this_image a_this_read a_this_mind a_this_letters a_this_row a_this_refused a_this_numbers a_this_cost g_this)), (a_this_s, .inl (cA, 22, .inl f_this_s)), (a_this_mind, .inl (cA, 22, .inl q1))]) ⟨hx, hb, hml, hown, hts⟩ hK hP hD hS hA hE (c_X3_lays l D cA ad a_this_s a_this_mind s.heap.size 22 22 f_this_s f_this_mind q1 hq1) (va_cwS 2 hts gX3_begins_X3_lays rfl rfl rfl hs_X3_lays ⟨Nat.le_of_ble_eq_true rfl, Nat.le_of_ble_eq_true rfl⟩) [1, 2] [0] [0, 1, 2] rfl rfl rfl rfl (by decide) rfl rfl rfl rfl hl.1 (Nat.le_of_ble_eq_true rfl) dX3_begins_8 ⟨Nat.zero_le _, Nat.zero_le _⟩ (fun H locs hP hD hS => ?_)
  obtain rfl := Option.some.inj hf
  exact W.vret hx hb hr (fun t ht hW => ⟨⟨(), rfl, trivial, rf_mk ht hP hD⟩, hS.F ht⟩) hS.2.2 dX3_begins_11
theorem kX3_ends_0 : (.fieldLink RX3 19 "RingAndFingerModel" "mind" "[I" : Cond) ∈ wsX3_ends := by decide +kernel
theorem kX3_ends_1 : (.fieldLink RX3 9 "RingAndFingerModel" "s" "[I" : Cond) ∈ wsX3_ends := by decide +kernel
theorem jX3_ends_X3 : ∀ w ∈ u_ws RX3 TX3 16, w ∈ wsX3_ends := by decide +kernel
set_option maxHeartbeats 8000000 in
set_option maxRecDepth 100000 in
theorem c_X3_ends (l : Launch) (D : va_G) (cA : ClassId) (ad : Nat → Nat) (a_this a_this_s a_this_image a_this_read a_this_mind a_this_letters a_this_row a_this_refused a_this_numbers a_this_cost : Nat) (sz : Nat) (g_this f_this_s f_this_mind : Nat → Int32) (q : (Nat → Int32)) (hf : f_X3_ends g_this f_this_s f_this_mind = some q) : Met l yX3_ends wsX3_ends ({ frames := 1, cells := 0, slots := 0, locals := 22 } : Room) (va_Pc [.ref a_this] (rf_Pre D cA ad [(a_this, .inr (3, rf_o3 a_this_s a_this_image a_this_read a_this_mind a_this_letters a_this_row a_this_refused a_this_numbers a_this_cost g_this)), (a_this_s, .inl (cA, 22, .inl f_this_s)), (a_this_mind, .inl (cA, 22, .inl f_this_mind))] sz)) (va_Qv (fun (_ : Unit) => True) (fun _ t => rf_Post D (va_A [(a_this, .inr (3, rf_o3 a_this_s a_this_image a_this_read a_this_mind a_this_letters a_this_row a_this_refused a_this_numbers a_this_cost g_this)), (a_this_s, .inl (cA, 22, .inl f_this_s)), (a_this_mind, .inl (cA, 22, .inl f_this_mind))] sz) [(a_this, .inr (3, rf_o3 a_this_s a_this_image a_this_read a_this_mind a_this_letters a_this_row a_this_refused a_this_numbers a_this_cost g_this)), (a_this_s, .inl (cA, 22, .inl q)), (a_this_mind, .inl (cA, 22, .inl f_this_mind))] t) (va_A [(a_this, .inr (3, rf_o3 a_this_s a_this_image a_this_read a_this_mind a_this_letters a_this_row a_this_refused a_this_numbers a_this_cost g_this)), (a_this_s, .inl (cA, 22, .inl f_this_s)), (a_this_mind, .inl (cA, 22, .inl f_this_mind))] sz)) 0 0 (va_A [(a_this, .inr (3, rf_o3 a_this_s a_this_image a_this_read a_this_mind a_this_letters a_this_row a_this_refused a_this_numbers a_this_cost g_this)), (a_this_s, .inl (cA, 22, .inl f_this_s)), (a_this_mind, .inl (cA, 22, .inl f_this_mind))] sz) := by
  refine Met.ofW (cc := cX3_ends) (maxL := 1) (ret := none) (by decide) rfl ?_
  intro p e s m args below meth c s₁ B hml hv
  obtain ⟨rfl, hsz, hP, hK, hD0, hE⟩ := hv
  have hx := B.exec
  have hb := B.bytes
  have hr := B.returns
  have hts := atoms_spec (ws := wsX3_ends) B.pre
  have hown : s.vm.findClass RX3 = some m.cls := findClass_of_methodNamed B.named
  have hlocks := B.notSynchronized
  subst hsz
  have hD := hD0.self (sz := s.heap.size)
  generalize hAe : va_A [(a_this, .inr (3, rf_o3 a_this_s a_this_image a_this_read a_this_mind a_this_letters a_this_row a_this_refused a_this_numbers a_this_cost g_this)), (a_this_s, .inl (cA, 22, .inl f_this_s)), (a_this_mind, .inl (cA, 22, .inl f_this_mind))] s.heap.size = A at hD hE ⊢
  have hA : ∀ q : Nat, s.heap.size ≤ q → A q := fun q h => by rw [← hAe]; exact Or.inr h
  have hS : va_S A s.heap s.heap [] := va_S.rf
  have hP : va_P D vwCl [(a_this, .inr (3, rf_o3 a_this_s a_this_image a_this_read a_this_mind a_this_letters a_this_row a_this_refused a_this_numbers a_this_cost g_this)), (a_this_s, .inl (cA, 22, .inl f_this_s)), (a_this_mind, .inl (cA, 22, .inl f_this_mind))] s.heap := hP
  have hl := lv_entry ([.ref a_this]) (n := 1) (Nat.le_of_ble_eq_true rfl)
  rw [lg_entry_eq]
  generalize (lg_sl ([.ref a_this]) ++ List.replicate (1 - (lg_sl ([.ref a_this])).length) Slot.unset).toArray = ls at hl ⊢
  have hl : lv_has ls 1 [(0, .ref a_this)] := hl
  rw [f_X3_ends] at hf
  refine lv_aload_n hx hb dX3_ends_0 rfl (lv_at hl 0 rfl) ?_
  refine va_get (D := D) (ci := 3) (v := .ref a_this_mind) (C := RX3) (T := TX3) (N := 16) hx hb hts jX3_ends_X3 hown hK hP 0 rfl rfl 3 (by decide) (hts _ kX3_ends_0) (fun _ h9 => h9) rfl dX3_ends_1 ?_
  refine lv_aload_n hx hb dX3_ends_4 rfl (lv_at hl 0 rfl) ?_
  refine va_get (D := D) (ci := 3) (v := .ref a_this_s) (C := RX3) (T := TX3) (N := 16) hx hb hts jX3_ends_X3 hown hK hP 0 rfl rfl 0 (by decide) (hts _ kX3_ends_1) (fun _ h9 => h9) rfl dX3_ends_5 ?_
  obtain ⟨q1, hq1, hf⟩ := rf_bindq hf
  refine rf_Sv (As := [.ref a_this_mind, .ref a_this_s]) (rest := []) (wr := [(a_this, .inr (3, rf_o3 a_this_s a_this_image a_this_read a_this_mind a_this_letters a_this_row a_this_refused a_this_numbers a_this_cost g_this))]) (wn := [(a_this, .inr (3, rf_o3 a_this_s a_this_image a_this_read a_this_mind a_this_letters a_this_row a_this_refused a_this_numbers a_this_cost g_this)), (a_this_s, .inl (cA, 22, .inl q1)), (a_this_mind, .inl (cA, 22, .inl f_this_mind))]) ⟨hx, hb, hml, hown, hts⟩ hK hP hD hS hA hE (c_X3_lays l D cA ad a_this_mind a_this_s s.heap.size 22 22 f_this_mind f_this_s q1 hq1) (va_cwS 2 hts gX3_ends_X3_lays rfl rfl rfl hs_X3_lays ⟨Nat.le_of_ble_eq_true rfl, Nat.le_of_ble_eq_true rfl⟩) [2, 1] [0] [0, 2, 1] rfl rfl rfl rfl (by decide) rfl rfl rfl rfl hl.1 (Nat.le_of_ble_eq_true rfl) dX3_ends_8 ⟨Nat.zero_le _, Nat.zero_le _⟩ (fun H locs hP hD hS => ?_)
  obtain rfl := Option.some.inj hf
  exact W.vret hx hb hr (fun t ht hW => ⟨⟨(), rfl, trivial, rf_mk ht hP hD⟩, hS.F ht⟩) hS.2.2 dX3_ends_11
theorem kX3_no_0 : (.fieldLink RX3 28 "RingAndFingerModel" "refused" "[I" : Cond) ∈ wsX3_no := by decide +kernel
theorem jX3_no_X3 : ∀ w ∈ u_ws RX3 TX3 16, w ∈ wsX3_no := by decide +kernel
set_option maxHeartbeats 8000000 in
set_option maxRecDepth 100000 in
theorem c_X3_no (l : Launch) (D : va_G) (cA : ClassId) (ad : Nat → Nat) (a_this a_this_s a_this_image a_this_read a_this_mind a_this_letters a_this_row a_this_refused a_this_numbers a_this_cost : Nat) (sz : Nat) (g_this f_this_refused : Nat → Int32) (p1 : Int32) (q : Int32 × (Nat → Int32)) (hf : f_X3_no g_this f_this_refused p1 = some q) : Met l yX3_no wsX3_no ({ frames := 0, cells := 0, slots := 0, locals := 0 } : Room) (va_Pc [.ref a_this, .int p1] (rf_Pre D cA ad [(a_this, .inr (3, rf_o3 a_this_s a_this_image a_this_read a_this_mind a_this_letters a_this_row a_this_refused a_this_numbers a_this_cost g_this)), (a_this_refused, .inl (cA, 7, .inl f_this_refused))] sz)) (va_Qi (fun (r : Int32) (_ : Unit) => r = q.1) (fun _ t => rf_Post D (va_A [(a_this, .inr (3, rf_o3 a_this_s a_this_image a_this_read a_this_mind a_this_letters a_this_row a_this_refused a_this_numbers a_this_cost g_this)), (a_this_refused, .inl (cA, 7, .inl f_this_refused))] sz) [(a_this, .inr (3, rf_o3 a_this_s a_this_image a_this_read a_this_mind a_this_letters a_this_row a_this_refused a_this_numbers a_this_cost g_this)), (a_this_refused, .inl (cA, 7, .inl q.2))] t) (va_A [(a_this, .inr (3, rf_o3 a_this_s a_this_image a_this_read a_this_mind a_this_letters a_this_row a_this_refused a_this_numbers a_this_cost g_this)), (a_this_refused, .inl (cA, 7, .inl f_this_refused))] sz)) 0 0 (va_A [(a_this, .inr (3, rf_o3 a_this_s a_this_image a_this_read a_this_mind a_this_letters a_this_row a_this_refused a_this_numbers a_this_cost g_this)), (a_this_refused, .inl (cA, 7, .inl f_this_refused))] sz) := by
  refine Met.ofW (cc := cX3_no) (maxL := 2) (ret := (some .int)) (by decide) rfl ?_
  intro p e s m args below meth c s₁ B hml hv
  obtain ⟨rfl, hsz, hP, hK, hD0, hE⟩ := hv
  have hx := B.exec
  have hb := B.bytes
  have hr := B.returns
  have hts := atoms_spec (ws := wsX3_no) B.pre
  have hown : s.vm.findClass RX3 = some m.cls := findClass_of_methodNamed B.named
  have hlocks := B.notSynchronized
  subst hsz
  have hD := hD0.self (sz := s.heap.size)
  generalize hAe : va_A [(a_this, .inr (3, rf_o3 a_this_s a_this_image a_this_read a_this_mind a_this_letters a_this_row a_this_refused a_this_numbers a_this_cost g_this)), (a_this_refused, .inl (cA, 7, .inl f_this_refused))] s.heap.size = A at hD hE ⊢
  have hA : ∀ q : Nat, s.heap.size ≤ q → A q := fun q h => by rw [← hAe]; exact Or.inr h
  have hS : va_S A s.heap s.heap [] := va_S.rf
  have hP : va_P D vwCl [(a_this, .inr (3, rf_o3 a_this_s a_this_image a_this_read a_this_mind a_this_letters a_this_row a_this_refused a_this_numbers a_this_cost g_this)), (a_this_refused, .inl (cA, 7, .inl f_this_refused))] s.heap := hP
  have hl := lv_entry ([.ref a_this, .int p1]) (n := 2) (Nat.le_of_ble_eq_true rfl)
  rw [lg_entry_eq]
  generalize (lg_sl ([.ref a_this, .int p1]) ++ List.replicate (2 - (lg_sl ([.ref a_this, .int p1])).length) Slot.unset).toArray = ls at hl ⊢
  have hl : lv_has ls 2 [(0, .ref a_this), (1, .int p1)] := hl
  rw [f_X3_no] at hf
  refine lv_aload_n hx hb dX3_no_0 rfl (lv_at hl 0 rfl) ?_
  refine va_get (D := D) (ci := 3) (v := .ref a_this_refused) (C := RX3) (T := TX3) (N := 16) hx hb hts jX3_no_X3 hown hK hP 0 rfl rfl 7 (by decide) (hts _ kX3_no_0) (fun _ h9 => h9) rfl dX3_no_1 ?_
  refine lv_iload_n hx hb dX3_no_4 rfl (lv_at hl 1 rfl) ?_
  refine lv_ineg hx hb dX3_no_5 ?_
  refine lv_dup2_11 hx hb dX3_no_6 rfl rfl ?_
  obtain ⟨c1, hf⟩ := rf_chk hf
  refine va_iald hx hb hK hP 1 0 rfl rfl c1 dX3_no_7 ?_
  refine lv_iconst (v := 1) hx hb dX3_no_8 (by decide) ?_
  refine lv_iadd hx hb dX3_no_9 ?_
  refine lv_topi (fun v2 ev2 => ?_)
  have hf := rf_bindv hf ev2
  clear ev2
  obtain ⟨c3, hf⟩ := rf_chk hf
  refine va_iast hx hb hK hP hD hS 1 0 rfl rfl c3 dX3_no_10 (fun H locs hP hD hS => ?_)
  have hP : va_P D vwCl [(a_this, .inr (3, rf_o3 a_this_s a_this_image a_this_read a_this_mind a_this_letters a_this_row a_this_refused a_this_numbers a_this_cost g_this)), (a_this_refused, .inl (cA, 7, .inl (upd f_this_refused ((-p1).toNatClampNeg) v2)))] H := hP
  have hD : va_D A [(a_this, .inr (3, rf_o3 a_this_s a_this_image a_this_read a_this_mind a_this_letters a_this_row a_this_refused a_this_numbers a_this_cost g_this)), (a_this_refused, .inl (cA, 7, .inl (upd f_this_refused ((-p1).toNatClampNeg) v2)))] := hD
  refine lv_iload_n hx hb dX3_no_11 rfl (lv_at hl 1 rfl) ?_
  obtain rfl := Option.some.inj hf
  exact W.iret (v := p1) hx hb hr (fun t ht hW => ⟨⟨p1, (), rfl, rfl, rf_mk ht hP hD⟩, hS.F ht⟩) hS.2.2 dX3_no_12
theorem kX3_far_0 : (.constant RX3 41 (1000000000) : Cond) ∈ wsX3_far := by decide +kernel
set_option maxHeartbeats 8000000 in
set_option maxRecDepth 100000 in
theorem c_X3_far (l : Launch) (D : va_G) (cA : ClassId) (ad : Nat → Nat) (a_this a_this_s a_this_image a_this_read a_this_mind a_this_letters a_this_row a_this_refused a_this_numbers a_this_cost : Nat) (sz : Nat) (g_this f_this_refused : Nat → Int32) (p1 : Int32) (q : Int32 × (Nat → Int32)) (hf : f_X3_far g_this f_this_refused p1 = some q) : Met l yX3_far wsX3_far ({ frames := 1, cells := 0, slots := 0, locals := 21 } : Room) (va_Pc [.ref a_this, .int p1] (rf_Pre D cA ad [(a_this, .inr (3, rf_o3 a_this_s a_this_image a_this_read a_this_mind a_this_letters a_this_row a_this_refused a_this_numbers a_this_cost g_this)), (a_this_refused, .inl (cA, 7, .inl f_this_refused))] sz)) (va_Qi (fun (r : Int32) (_ : Unit) => r = q.1) (fun _ t => rf_Post D (va_A [(a_this, .inr (3, rf_o3 a_this_s a_this_image a_this_read a_this_mind a_this_letters a_this_row a_this_refused a_this_numbers a_this_cost g_this)), (a_this_refused, .inl (cA, 7, .inl f_this_refused))] sz) [(a_this, .inr (3, rf_o3 a_this_s a_this_image a_this_read a_this_mind a_this_letters a_this_row a_this_refused a_this_numbers a_this_cost g_this)), (a_this_refused, .inl (cA, 7, .inl q.2))] t) (va_A [(a_this, .inr (3, rf_o3 a_this_s a_this_image a_this_read a_this_mind a_this_letters a_this_row a_this_refused a_this_numbers a_this_cost g_this)), (a_this_refused, .inl (cA, 7, .inl f_this_refused))] sz)) 0 0 (va_A [(a_this, .inr (3, rf_o3 a_this_s a_this_image a_this_read a_this_mind a_this_letters a_this_row a_this_refused a_this_numbers a_this_cost g_this)), (a_this_refused, .inl (cA, 7, .inl f_this_refused))] sz) := by
  refine Met.ofW (cc := cX3_far) (maxL := 2) (ret := (some .int)) (by decide) rfl ?_
  intro p e s m args below meth c s₁ B hml hv
  obtain ⟨rfl, hsz, hP, hK, hD0, hE⟩ := hv
  have hx := B.exec
  have hb := B.bytes
  have hr := B.returns
  have hts := atoms_spec (ws := wsX3_far) B.pre
  have hown : s.vm.findClass RX3 = some m.cls := findClass_of_methodNamed B.named
  have hlocks := B.notSynchronized
  subst hsz
  have hD := hD0.self (sz := s.heap.size)
  generalize hAe : va_A [(a_this, .inr (3, rf_o3 a_this_s a_this_image a_this_read a_this_mind a_this_letters a_this_row a_this_refused a_this_numbers a_this_cost g_this)), (a_this_refused, .inl (cA, 7, .inl f_this_refused))] s.heap.size = A at hD hE ⊢
  have hA : ∀ q : Nat, s.heap.size ≤ q → A q := fun q h => by rw [← hAe]; exact Or.inr h
  have hS : va_S A s.heap s.heap [] := va_S.rf
  have hP : va_P D vwCl [(a_this, .inr (3, rf_o3 a_this_s a_this_image a_this_read a_this_mind a_this_letters a_this_row a_this_refused a_this_numbers a_this_cost g_this)), (a_this_refused, .inl (cA, 7, .inl f_this_refused))] s.heap := hP
  have hl := lv_entry ([.ref a_this, .int p1]) (n := 2) (Nat.le_of_ble_eq_true rfl)
  rw [lg_entry_eq]
  generalize (lg_sl ([.ref a_this, .int p1]) ++ List.replicate (2 - (lg_sl ([.ref a_this, .int p1])).length) Slot.unset).toArray = ls at hl ⊢
  have hl : lv_has ls 2 [(0, .ref a_this), (1, .int p1)] := hl
  rw [f_X3_far] at hf
  refine lv_ldc hx hb hown (hts _ kX3_far_0) dX3_far_0 ?_
  refine lv_aload_n hx hb dX3_far_2 rfl (lv_at hl 0 rfl) ?_
  refine lv_iload_n hx hb dX3_far_3 rfl (lv_at hl 1 rfl) ?_
  obtain ⟨q1, hq1, hf⟩ := rf_bindq hf
  refine rf_Vi (As := [.int p1]) (rest := [.int 1000000000]) (wr := []) (wn := [(a_this, .inr (3, rf_o3 a_this_s a_this_image a_this_read a_this_mind a_this_letters a_this_row a_this_refused a_this_numbers a_this_cost g_this)), (a_this_refused, .inl (cA, 7, .inl q1.2))]) ⟨hx, hb, hml, hown, hts⟩ hK hP hD hS hA hE (c_X3_no l D cA ad a_this a_this_s a_this_image a_this_read a_this_mind a_this_letters a_this_row a_this_refused a_this_numbers a_this_cost s.heap.size g_this f_this_refused p1 q1 hq1) (cwV 1 hts gX3_far_X3_no rfl rfl rfl hv_X3_no ⟨Nat.le_of_ble_eq_true rfl, Nat.le_of_ble_eq_true rfl⟩) [0, 1] [] [0, 1] rfl rfl rfl rfl (by decide) rfl rfl 3 0 rfl rfl rfl rfl rfl hl.1 (Nat.le_of_ble_eq_true rfl) dX3_far_4 ⟨Nat.zero_le _, Nat.zero_le _⟩ (fun H locs hP hD hS => ?_)
  refine lv_isub hx hb dX3_far_7 ?_
  obtain rfl := Option.some.inj hf
  exact W.iret (v := (1000000000 - q1.1)) hx hb hr (fun t ht hW => ⟨⟨(1000000000 - q1.1), (), rfl, rfl, rf_mk ht hP hD⟩, hS.F ht⟩) hS.2.2 dX3_far_8
theorem kX3_isOff_0 : (.fieldLink RX3 9 "RingAndFingerModel" "s" "[I" : Cond) ∈ wsX3_isOff := by decide +kernel
theorem jX3_isOff_X3 : ∀ w ∈ u_ws RX3 TX3 16, w ∈ wsX3_isOff := by decide +kernel
set_option maxHeartbeats 8000000 in
set_option maxRecDepth 100000 in
theorem c_X3_isOff (l : Launch) (D : va_G) (cA : ClassId) (ad : Nat → Nat) (a_this a_this_s a_this_image a_this_read a_this_mind a_this_letters a_this_row a_this_refused a_this_numbers a_this_cost : Nat) (sz : Nat) (g_this f_this_s : Nat → Int32) (q : Int32) (hf : f_X3_isOff g_this f_this_s = some q) : Met l yX3_isOff wsX3_isOff ({ frames := 0, cells := 0, slots := 0, locals := 0 } : Room) (va_Pc [.ref a_this] (rf_Pre D cA ad [(a_this, .inr (3, rf_o3 a_this_s a_this_image a_this_read a_this_mind a_this_letters a_this_row a_this_refused a_this_numbers a_this_cost g_this)), (a_this_s, .inl (cA, 22, .inl f_this_s))] sz)) (va_Qi (fun (r : Int32) (_ : Unit) => r = q) (fun _ t => rf_Post D (va_A [(a_this, .inr (3, rf_o3 a_this_s a_this_image a_this_read a_this_mind a_this_letters a_this_row a_this_refused a_this_numbers a_this_cost g_this)), (a_this_s, .inl (cA, 22, .inl f_this_s))] sz) [(a_this, .inr (3, rf_o3 a_this_s a_this_image a_this_read a_this_mind a_this_letters a_this_row a_this_refused a_this_numbers a_this_cost g_this)), (a_this_s, .inl (cA, 22, .inl f_this_s))] t) (va_A [(a_this, .inr (3, rf_o3 a_this_s a_this_image a_this_read a_this_mind a_this_letters a_this_row a_this_refused a_this_numbers a_this_cost g_this)), (a_this_s, .inl (cA, 22, .inl f_this_s))] sz)) 0 0 (va_A [(a_this, .inr (3, rf_o3 a_this_s a_this_image a_this_read a_this_mind a_this_letters a_this_row a_this_refused a_this_numbers a_this_cost g_this)), (a_this_s, .inl (cA, 22, .inl f_this_s))] sz) := by
  refine Met.ofW (cc := cX3_isOff) (maxL := 1) (ret := (some .boolean)) (by decide) rfl ?_
  intro p e s m args below meth c s₁ B hml hv
  obtain ⟨rfl, hsz, hP, hK, hD0, hE⟩ := hv
  have hx := B.exec
  have hb := B.bytes
  have hr := B.returns
  have hts := atoms_spec (ws := wsX3_isOff) B.pre
  have hown : s.vm.findClass RX3 = some m.cls := findClass_of_methodNamed B.named
  have hlocks := B.notSynchronized
  subst hsz
  have hD := hD0.self (sz := s.heap.size)
  generalize hAe : va_A [(a_this, .inr (3, rf_o3 a_this_s a_this_image a_this_read a_this_mind a_this_letters a_this_row a_this_refused a_this_numbers a_this_cost g_this)), (a_this_s, .inl (cA, 22, .inl f_this_s))] s.heap.size = A at hD hE ⊢
  have hA : ∀ q : Nat, s.heap.size ≤ q → A q := fun q h => by rw [← hAe]; exact Or.inr h
  have hS : va_S A s.heap s.heap [] := va_S.rf
  have hP : va_P D vwCl [(a_this, .inr (3, rf_o3 a_this_s a_this_image a_this_read a_this_mind a_this_letters a_this_row a_this_refused a_this_numbers a_this_cost g_this)), (a_this_s, .inl (cA, 22, .inl f_this_s))] s.heap := hP
  have hl := lv_entry ([.ref a_this]) (n := 1) (Nat.le_of_ble_eq_true rfl)
  rw [lg_entry_eq]
  generalize (lg_sl ([.ref a_this]) ++ List.replicate (1 - (lg_sl ([.ref a_this])).length) Slot.unset).toArray = ls at hl ⊢
  have hl : lv_has ls 1 [(0, .ref a_this)] := hl
  rw [f_X3_isOff] at hf
  refine lv_aload_n hx hb dX3_isOff_0 rfl (lv_at hl 0 rfl) ?_
  refine va_get (D := D) (ci := 3) (v := .ref a_this_s) (C := RX3) (T := TX3) (N := 16) hx hb hts jX3_isOff_X3 hown hK hP 0 rfl rfl 0 (by decide) (hts _ kX3_isOff_0) (fun _ h9 => h9) rfl dX3_isOff_1 ?_
  refine lv_iconst (v := 3) hx hb dX3_isOff_4 (by decide) ?_
  refine rf_ialoadk hx hb hK hP 1 0 rfl rfl (k := 3) (by decide) (by decide) (by decide) dX3_isOff_5 ?_
  refine lv_aload_n hx hb dX3_isOff_6 rfl (lv_at hl 0 rfl) ?_
  refine va_get (D := D) (ci := 3) (v := .ref a_this_s) (C := RX3) (T := TX3) (N := 16) hx hb hts jX3_isOff_X3 hown hK hP 0 rfl rfl 0 (by decide) (hts _ kX3_isOff_0) (fun _ h9 => h9) rfl dX3_isOff_7 ?_
  refine lv_iconst (v := 0) hx hb dX3_isOff_10 (by decide) ?_
  refine rf_ialoadk hx hb hK hP 1 0 rfl rfl (k := 0) (by decide) (by decide) (by decide) dX3_isOff_11 ?_
  refine lv_icmp_lt (tgt := 19) hx hb dX3_isOff_12 (by decide) (fun c1 => ?_) (fun c1 => ?_)
  · have hf := rf_ifp hf c1
    refine lv_iconst (v := 0) hx hb dX3_isOff_19 (by decide) ?_
    obtain rfl := Option.some.inj hf
    exact W.zret (v := 0) hx hb hr rfl (fun t ht hW => ⟨⟨0, (), rfl, rfl, rf_mk ht hP hD⟩, hS.F ht⟩) hS.2.2 dX3_isOff_20
  · have hf := rf_ifn hf c1
    refine lv_iconst (v := 1) hx hb dX3_isOff_15 (by decide) ?_
    refine lv_goto (tgt := 20) hx hb dX3_isOff_16 (by decide) ?_
    obtain rfl := Option.some.inj hf
    exact W.zret (v := 1) hx hb hr rfl (fun t ht hW => ⟨⟨1, (), rfl, rfl, rf_mk ht hP hD⟩, hS.F ht⟩) hS.2.2 dX3_isOff_20

set_option maxHeartbeats 8000000 in
set_option maxRecDepth 100000 in
theorem c_X3_thickOf (l : Launch) (D : va_G) (cA : ClassId) (ad : Nat → Nat) (sz : Nat) (p0 p1 p2 p3 p4 : Int32) (q : Int32) (hf : f_X3_thickOf p0 p1 p2 p3 p4 = some q) : Met l yX3_thickOf wsX3_thickOf ({ frames := 1, cells := 0, slots := 0, locals := 21 } : Room) (va_Pc [.int p0, .int p1, .int p2, .int p3, .int p4] (rf_Pre D cA ad [] sz)) (va_Qi (fun (r : Int32) (_ : Unit) => r = q) (fun _ t => rf_Post D (va_A [] sz) [] t) (va_A [] sz)) 0 0 (va_A [] sz) := by
  refine Met.ofW (cc := cX3_thickOf) (maxL := 7) (ret := (some .int)) (by decide) rfl ?_
  intro p e s m args below meth c s₁ B hml hv
  obtain ⟨rfl, hsz, hP, hK, hD0, hE⟩ := hv
  have hx := B.exec
  have hb := B.bytes
  have hr := B.returns
  have hts := atoms_spec (ws := wsX3_thickOf) B.pre
  have hown : s.vm.findClass RX3 = some m.cls := findClass_of_methodNamed B.named
  have hlocks := B.notSynchronized
  subst hsz
  have hD := hD0.self (sz := s.heap.size)
  generalize hAe : va_A [] s.heap.size = A at hD hE ⊢
  have hA : ∀ q : Nat, s.heap.size ≤ q → A q := fun q h => by rw [← hAe]; exact Or.inr h
  have hS : va_S A s.heap s.heap [] := va_S.rf
  have hP : va_P D vwCl [] s.heap := hP
  have hl := lv_entry ([.int p0, .int p1, .int p2, .int p3, .int p4]) (n := 7) (Nat.le_of_ble_eq_true rfl)
  rw [lg_entry_eq]
  generalize (lg_sl ([.int p0, .int p1, .int p2, .int p3, .int p4]) ++ List.replicate (7 - (lg_sl ([.int p0, .int p1, .int p2, .int p3, .int p4])).length) Slot.unset).toArray = ls at hl ⊢
  have hl : lv_has ls 7 [(0, .int p0), (1, .int p1), (2, .int p2), (3, .int p3), (4, .int p4)] := hl
  rw [f_X3_thickOf] at hf
  refine lv_iconst (v := 0) hx hb dX3_thickOf_0 (by decide) ?_
  refine lv_iload_n hx hb dX3_thickOf_1 rfl (lv_at hl 1 rfl) ?_
  refine lv_iload_n hx hb dX3_thickOf_2 rfl (lv_at hl 2 rfl) ?_
  refine lv_iadd hx hb dX3_thickOf_3 ?_
  refine lv_iload_n hx hb dX3_thickOf_4 rfl (lv_at hl 3 rfl) ?_
  refine lv_isub hx hb dX3_thickOf_5 ?_
  obtain ⟨q1, hq1, hf⟩ := rf_bindq hf
  refine rf_Si (As := [.int 0, .int ((p1 + p2) - p3)]) (rest := []) (wr := []) (wn := []) ⟨hx, hb, hml, hown, hts⟩ hK hP hD hS hA hE (c_X3_most l D cA ad s.heap.size 0 ((p1 + p2) - p3) q1 hq1) (va_cwS 2 hts gX3_thickOf_X3_most rfl rfl rfl hs_X3_most ⟨Nat.le_of_ble_eq_true rfl, Nat.le_of_ble_eq_true rfl⟩) [] [] [] rfl rfl rfl rfl (by decide) rfl rfl rfl rfl hl.1 (Nat.le_of_ble_eq_true rfl) dX3_thickOf_6 ⟨Nat.zero_le _, Nat.zero_le _⟩ (fun H locs hP hD hS => ?_)
  refine lv_istore (lv' := [(5, .int q1), (0, .int p0), (1, .int p1), (2, .int p2), (3, .int p3), (4, .int p4)]) hx hb dX3_thickOf_9 hl (by decide) rfl (fun ls hl => ?_)
  refine lv_iconst (v := 0) hx hb dX3_thickOf_11 (by decide) ?_
  refine lv_iload_n hx hb dX3_thickOf_12 rfl (lv_at hl 2 rfl) ?_
  refine lv_iload_n hx hb dX3_thickOf_13 rfl (lv_at hl 3 rfl) ?_
  refine lv_iconst (v := 2) hx hb dX3_thickOf_14 (by decide) ?_
  refine lv_idiv hx hb dX3_thickOf_15 (by decide) ?_
  refine lv_iadd hx hb dX3_thickOf_16 ?_
  refine lv_iload_n hx hb dX3_thickOf_17 rfl (lv_at hl 4 rfl) ?_
  refine lv_iconst (v := 4) hx hb dX3_thickOf_18 (by decide) ?_
  refine lv_idiv hx hb dX3_thickOf_19 (by decide) ?_
  refine lv_isub hx hb dX3_thickOf_20 ?_
  obtain ⟨q2, hq2, hf⟩ := rf_bindq hf
  refine rf_Si (As := [.int 0, .int ((p1 + (p2 / 2)) - (p3 / 4))]) (rest := []) (wr := []) (wn := []) ⟨hx, hb, hml, hown, hts⟩ hK hP hD hS hA hE (c_X3_most l D cA ad H.size 0 ((p1 + (p2 / 2)) - (p3 / 4)) q2 hq2) (va_cwS 2 hts gX3_thickOf_X3_most rfl rfl rfl hs_X3_most ⟨Nat.le_of_ble_eq_true rfl, Nat.le_of_ble_eq_true rfl⟩) [] [] [] rfl rfl rfl rfl (by decide) rfl rfl rfl rfl hl.1 (Nat.le_of_ble_eq_true rfl) dX3_thickOf_21 ⟨Nat.zero_le _, Nat.zero_le _⟩ (fun H locs hP hD hS => ?_)
  refine lv_istore (lv' := [(6, .int q2), (5, .int q1), (0, .int p0), (1, .int p1), (2, .int p2), (3, .int p3), (4, .int p4)]) hx hb dX3_thickOf_24 hl (by decide) rfl (fun ls hl => ?_)
  refine lv_iload_n hx hb dX3_thickOf_26 rfl (lv_at hl 2 rfl) ?_
  by_cases c3 : p0 = 1
  · have hf := rf_ifp hf c3
    refine rf_tabC (off := 33) (tgt := 60) hx hb dX3_thickOf_27 c3 (by decide) (by decide) (by decide) (by decide) ?_
    refine lv_iload hx hb dX3_thickOf_60 (lv_at hl 0 rfl) ?_
    obtain rfl := Option.some.inj hf
    exact W.iret (v := q2) hx hb hr (fun t ht hW => ⟨⟨q2, (), rfl, rfl, rf_mk ht hP hD⟩, hS.F ht⟩) hS.2.2 dX3_thickOf_62
  · have hf := rf_ifn hf c3
    by_cases c4 : p0 = 2
    · have hf := rf_ifp hf c4
      refine rf_tabC (off := 36) (tgt := 63) hx hb dX3_thickOf_27 c4 (by decide) (by decide) (by decide) (by decide) ?_
      refine lv_iconst (v := 0) hx hb dX3_thickOf_63 (by decide) ?_
      refine lv_iload hx hb dX3_thickOf_64 (lv_at hl 1 rfl) ?_
      refine lv_iload_n hx hb dX3_thickOf_66 rfl (lv_at hl 4 rfl) ?_
      refine lv_iadd hx hb dX3_thickOf_67 ?_
      obtain ⟨q5, hq5, hf⟩ := rf_bindq hf
      refine rf_Si (As := [.int 0, .int (q1 + p2)]) (rest := []) (wr := []) (wn := []) ⟨hx, hb, hml, hown, hts⟩ hK hP hD hS hA hE (c_X3_most l D cA ad H.size 0 (q1 + p2) q5 hq5) (va_cwS 2 hts gX3_thickOf_X3_most rfl rfl rfl hs_X3_most ⟨Nat.le_of_ble_eq_true rfl, Nat.le_of_ble_eq_true rfl⟩) [] [] [] rfl rfl rfl rfl (by decide) rfl rfl rfl rfl hl.1 (Nat.le_of_ble_eq_true rfl) dX3_thickOf_68 ⟨Nat.zero_le _, Nat.zero_le _⟩ (fun H locs hP hD hS => ?_)
      obtain rfl := Option.some.inj hf
      exact W.iret (v := q5) hx hb hr (fun t ht hW => ⟨⟨q5, (), rfl, rfl, rf_mk ht hP hD⟩, hS.F ht⟩) hS.2.2 dX3_thickOf_71
    · have hf := rf_ifn hf c4
      by_cases c6 : p0 = 3
      · have hf := rf_ifp hf c6
        refine rf_tabC (off := 45) (tgt := 72) hx hb dX3_thickOf_27 c6 (by decide) (by decide) (by decide) (by decide) ?_
        refine lv_iconst (v := 0) hx hb dX3_thickOf_72 (by decide) ?_
        refine lv_iconst (v := 0) hx hb dX3_thickOf_73 (by decide) ?_
        refine lv_iload hx hb dX3_thickOf_74 (lv_at hl 1 rfl) ?_
        refine lv_iload_n hx hb dX3_thickOf_76 rfl (lv_at hl 4 rfl) ?_
        refine lv_iadd hx hb dX3_thickOf_77 ?_
        obtain ⟨q7, hq7, hf⟩ := rf_bindq hf
        refine rf_Si (As := [.int 0, .int (q1 + p2)]) (rest := [.int 0]) (wr := []) (wn := []) ⟨hx, hb, hml, hown, hts⟩ hK hP hD hS hA hE (c_X3_most l D cA ad H.size 0 (q1 + p2) q7 hq7) (va_cwS 2 hts gX3_thickOf_X3_most rfl rfl rfl hs_X3_most ⟨Nat.le_of_ble_eq_true rfl, Nat.le_of_ble_eq_true rfl⟩) [] [] [] rfl rfl rfl rfl (by decide) rfl rfl rfl rfl hl.1 (Nat.le_of_ble_eq_true rfl) dX3_thickOf_78 ⟨Nat.zero_le _, Nat.zero_le _⟩ (fun H locs hP hD hS => ?_)
        refine lv_iload_n hx hb dX3_thickOf_81 rfl (lv_at hl 4 rfl) ?_
        refine lv_bipush (v := 9) hx hb dX3_thickOf_82 (by decide) ?_
        refine lv_icmp_le (tgt := 91) hx hb dX3_thickOf_84 (by decide) (fun c8 => ?_) (fun c8 => ?_)
        · have hf := rf_ifp hf c8
          refine lv_iconst (v := 0) hx hb dX3_thickOf_91 (by decide) ?_
          refine lv_iadd hx hb dX3_thickOf_92 ?_
          obtain ⟨q9, hq9, hf⟩ := rf_bindq hf
          refine rf_Si (As := [.int 0, .int (q7 + 0)]) (rest := []) (wr := []) (wn := []) ⟨hx, hb, hml, hown, hts⟩ hK hP hD hS hA hE (c_X3_most l D cA ad H.size 0 (q7 + 0) q9 hq9) (va_cwS 2 hts gX3_thickOf_X3_most rfl rfl rfl hs_X3_most ⟨Nat.le_of_ble_eq_true rfl, Nat.le_of_ble_eq_true rfl⟩) [] [] [] rfl rfl rfl rfl (by decide) rfl rfl rfl rfl hl.1 (Nat.le_of_ble_eq_true rfl) dX3_thickOf_93 ⟨Nat.zero_le _, Nat.zero_le _⟩ (fun H locs hP hD hS => ?_)
          obtain rfl := Option.some.inj hf
          exact W.iret (v := q9) hx hb hr (fun t ht hW => ⟨⟨q9, (), rfl, rfl, rf_mk ht hP hD⟩, hS.F ht⟩) hS.2.2 dX3_thickOf_96
        · have hf := rf_ifn hf c8
          refine lv_iconst (v := 3) hx hb dX3_thickOf_87 (by decide) ?_
          refine lv_goto (tgt := 92) hx hb dX3_thickOf_88 (by decide) ?_
          refine lv_iadd hx hb dX3_thickOf_92 ?_
          obtain ⟨q10, hq10, hf⟩ := rf_bindq hf
          refine rf_Si (As := [.int 0, .int (q7 + 3)]) (rest := []) (wr := []) (wn := []) ⟨hx, hb, hml, hown, hts⟩ hK hP hD hS hA hE (c_X3_most l D cA ad H.size 0 (q7 + 3) q10 hq10) (va_cwS 2 hts gX3_thickOf_X3_most rfl rfl rfl hs_X3_most ⟨Nat.le_of_ble_eq_true rfl, Nat.le_of_ble_eq_true rfl⟩) [] [] [] rfl rfl rfl rfl (by decide) rfl rfl rfl rfl hl.1 (Nat.le_of_ble_eq_true rfl) dX3_thickOf_93 ⟨Nat.zero_le _, Nat.zero_le _⟩ (fun H locs hP hD hS => ?_)
          obtain rfl := Option.some.inj hf
          exact W.iret (v := q10) hx hb hr (fun t ht hW => ⟨⟨q10, (), rfl, rfl, rf_mk ht hP hD⟩, hS.F ht⟩) hS.2.2 dX3_thickOf_96
      · have hf := rf_ifn hf c6
        by_cases c11 : p0 = 4
        · have hf := rf_ifp hf c11
          refine rf_tabC (off := 70) (tgt := 97) hx hb dX3_thickOf_27 c11 (by decide) (by decide) (by decide) (by decide) ?_
          refine lv_iconst (v := 0) hx hb dX3_thickOf_97 (by decide) ?_
          refine lv_iload hx hb dX3_thickOf_98 (lv_at hl 0 rfl) ?_
          refine lv_iload hx hb dX3_thickOf_100 (lv_at hl 6 rfl) ?_
          refine lv_iadd hx hb dX3_thickOf_102 ?_
          obtain ⟨q12, hq12, hf⟩ := rf_bindq hf
          refine rf_Si (As := [.int 0, .int (q2 + p4)]) (rest := []) (wr := []) (wn := []) ⟨hx, hb, hml, hown, hts⟩ hK hP hD hS hA hE (c_X3_most l D cA ad H.size 0 (q2 + p4) q12 hq12) (va_cwS 2 hts gX3_thickOf_X3_most rfl rfl rfl hs_X3_most ⟨Nat.le_of_ble_eq_true rfl, Nat.le_of_ble_eq_true rfl⟩) [] [] [] rfl rfl rfl rfl (by decide) rfl rfl rfl rfl hl.1 (Nat.le_of_ble_eq_true rfl) dX3_thickOf_103 ⟨Nat.zero_le _, Nat.zero_le _⟩ (fun H locs hP hD hS => ?_)
          obtain rfl := Option.some.inj hf
          exact W.iret (v := q12) hx hb hr (fun t ht hW => ⟨⟨q12, (), rfl, rfl, rf_mk ht hP hD⟩, hS.F ht⟩) hS.2.2 dX3_thickOf_106
        · have hf := rf_ifn hf c11
          by_cases c13 : p0 = 5
          · have hf := rf_ifp hf c13
            refine rf_tabC (off := 80) (tgt := 107) hx hb dX3_thickOf_27 c13 (by decide) (by decide) (by decide) (by decide) ?_
            refine lv_iconst (v := 0) hx hb dX3_thickOf_107 (by decide) ?_
            refine lv_iconst (v := 0) hx hb dX3_thickOf_108 (by decide) ?_
            refine lv_iload hx hb dX3_thickOf_109 (lv_at hl 0 rfl) ?_
            refine lv_iload hx hb dX3_thickOf_111 (lv_at hl 6 rfl) ?_
            refine lv_iadd hx hb dX3_thickOf_113 ?_
            obtain ⟨q14, hq14, hf⟩ := rf_bindq hf
            refine rf_Si (As := [.int 0, .int (q2 + p4)]) (rest := [.int 0]) (wr := []) (wn := []) ⟨hx, hb, hml, hown, hts⟩ hK hP hD hS hA hE (c_X3_most l D cA ad H.size 0 (q2 + p4) q14 hq14) (va_cwS 2 hts gX3_thickOf_X3_most rfl rfl rfl hs_X3_most ⟨Nat.le_of_ble_eq_true rfl, Nat.le_of_ble_eq_true rfl⟩) [] [] [] rfl rfl rfl rfl (by decide) rfl rfl rfl rfl hl.1 (Nat.le_of_ble_eq_true rfl) dX3_thickOf_114 ⟨Nat.zero_le _, Nat.zero_le _⟩ (fun H locs hP hD hS => ?_)
            refine lv_bipush (v := 10) hx hb dX3_thickOf_117 (by decide) ?_
            refine lv_isub hx hb dX3_thickOf_119 ?_
            obtain ⟨q15, hq15, hf⟩ := rf_bindq hf
            refine rf_Si (As := [.int 0, .int (q14 - 10)]) (rest := []) (wr := []) (wn := []) ⟨hx, hb, hml, hown, hts⟩ hK hP hD hS hA hE (c_X3_most l D cA ad H.size 0 (q14 - 10) q15 hq15) (va_cwS 2 hts gX3_thickOf_X3_most rfl rfl rfl hs_X3_most ⟨Nat.le_of_ble_eq_true rfl, Nat.le_of_ble_eq_true rfl⟩) [] [] [] rfl rfl rfl rfl (by decide) rfl rfl rfl rfl hl.1 (Nat.le_of_ble_eq_true rfl) dX3_thickOf_120 ⟨Nat.zero_le _, Nat.zero_le _⟩ (fun H locs hP hD hS => ?_)
            obtain rfl := Option.some.inj hf
            exact W.iret (v := q15) hx hb hr (fun t ht hW => ⟨⟨q15, (), rfl, rfl, rf_mk ht hP hD⟩, hS.F ht⟩) hS.2.2 dX3_thickOf_123
          · have hf := rf_ifn hf c13
            refine rf_tabD (tgt := 124) (ks := [1, 2, 3, 4, 5]) hx hb dX3_thickOf_27 (by intro z hz; simp only [List.mem_cons, List.not_mem_nil, or_false] at hz; rcases hz with rfl | rfl | rfl | rfl | rfl <;> assumption) (by decide) (by decide) ?_
            refine lv_iload hx hb dX3_thickOf_124 (lv_at hl 1 rfl) ?_
            obtain rfl := Option.some.inj hf
            exact W.iret (v := q1) hx hb hr (fun t ht hW => ⟨⟨q1, (), rfl, rfl, rf_mk ht hP hD⟩, hS.F ht⟩) hS.2.2 dX3_thickOf_126
theorem kX3_partBy_0 : (.fieldLink RX3 9 "RingAndFingerModel" "s" "[I" : Cond) ∈ wsX3_partBy := by decide +kernel
theorem jX3_partBy_X3 : ∀ w ∈ u_ws RX3 TX3 16, w ∈ wsX3_partBy := by decide +kernel
set_option maxHeartbeats 8000000 in
set_option maxRecDepth 100000 in
theorem c_X3_partBy (l : Launch) (D : va_G) (cA : ClassId) (ad : Nat → Nat) (a_this a_this_s a_this_image a_this_read a_this_mind a_this_letters a_this_row a_this_refused a_this_numbers a_this_cost : Nat) (sz : Nat) (g_this f_this_s : Nat → Int32) (p1 p2 p3 p4 : Int32) (q : Int32) (hf : f_X3_partBy g_this f_this_s p1 p2 p3 p4 = some q) : Met l yX3_partBy wsX3_partBy ({ frames := 2, cells := 0, slots := 0, locals := 47 } : Room) (va_Pc [.ref a_this, .int p1, .int p2, .int p3, .int p4] (rf_Pre D cA ad [(a_this, .inr (3, rf_o3 a_this_s a_this_image a_this_read a_this_mind a_this_letters a_this_row a_this_refused a_this_numbers a_this_cost g_this)), (a_this_s, .inl (cA, 22, .inl f_this_s))] sz)) (va_Qi (fun (r : Int32) (_ : Unit) => r = q) (fun _ t => rf_Post D (va_A [(a_this, .inr (3, rf_o3 a_this_s a_this_image a_this_read a_this_mind a_this_letters a_this_row a_this_refused a_this_numbers a_this_cost g_this)), (a_this_s, .inl (cA, 22, .inl f_this_s))] sz) [(a_this, .inr (3, rf_o3 a_this_s a_this_image a_this_read a_this_mind a_this_letters a_this_row a_this_refused a_this_numbers a_this_cost g_this)), (a_this_s, .inl (cA, 22, .inl f_this_s))] t) (va_A [(a_this, .inr (3, rf_o3 a_this_s a_this_image a_this_read a_this_mind a_this_letters a_this_row a_this_refused a_this_numbers a_this_cost g_this)), (a_this_s, .inl (cA, 22, .inl f_this_s))] sz)) 0 0 (va_A [(a_this, .inr (3, rf_o3 a_this_s a_this_image a_this_read a_this_mind a_this_letters a_this_row a_this_refused a_this_numbers a_this_cost g_this)), (a_this_s, .inl (cA, 22, .inl f_this_s))] sz) := by
  refine Met.ofW (cc := cX3_partBy) (maxL := 5) (ret := (some .int)) (by decide) rfl ?_
  intro p e s m args below meth c s₁ B hml hv
  obtain ⟨rfl, hsz, hP, hK, hD0, hE⟩ := hv
  have hx := B.exec
  have hb := B.bytes
  have hr := B.returns
  have hts := atoms_spec (ws := wsX3_partBy) B.pre
  have hown : s.vm.findClass RX3 = some m.cls := findClass_of_methodNamed B.named
  have hlocks := B.notSynchronized
  subst hsz
  have hD := hD0.self (sz := s.heap.size)
  generalize hAe : va_A [(a_this, .inr (3, rf_o3 a_this_s a_this_image a_this_read a_this_mind a_this_letters a_this_row a_this_refused a_this_numbers a_this_cost g_this)), (a_this_s, .inl (cA, 22, .inl f_this_s))] s.heap.size = A at hD hE ⊢
  have hA : ∀ q : Nat, s.heap.size ≤ q → A q := fun q h => by rw [← hAe]; exact Or.inr h
  have hS : va_S A s.heap s.heap [] := va_S.rf
  have hP : va_P D vwCl [(a_this, .inr (3, rf_o3 a_this_s a_this_image a_this_read a_this_mind a_this_letters a_this_row a_this_refused a_this_numbers a_this_cost g_this)), (a_this_s, .inl (cA, 22, .inl f_this_s))] s.heap := hP
  have hl := lv_entry ([.ref a_this, .int p1, .int p2, .int p3, .int p4]) (n := 5) (Nat.le_of_ble_eq_true rfl)
  rw [lg_entry_eq]
  generalize (lg_sl ([.ref a_this, .int p1, .int p2, .int p3, .int p4]) ++ List.replicate (5 - (lg_sl ([.ref a_this, .int p1, .int p2, .int p3, .int p4])).length) Slot.unset).toArray = ls at hl ⊢
  have hl : lv_has ls 5 [(0, .ref a_this), (1, .int p1), (2, .int p2), (3, .int p3), (4, .int p4)] := hl
  rw [f_X3_partBy] at hf
  refine lv_aload_n hx hb dX3_partBy_0 rfl (lv_at hl 0 rfl) ?_
  refine va_get (D := D) (ci := 3) (v := .ref a_this_s) (C := RX3) (T := TX3) (N := 16) hx hb hts jX3_partBy_X3 hown hK hP 0 rfl rfl 0 (by decide) (hts _ kX3_partBy_0) (fun _ h9 => h9) rfl dX3_partBy_1 ?_
  refine lv_bipush (v := 10) hx hb dX3_partBy_4 (by decide) ?_
  refine lv_iload_n hx hb dX3_partBy_6 rfl (lv_at hl 1 rfl) ?_
  refine lv_iadd hx hb dX3_partBy_7 ?_
  obtain ⟨c1, hf⟩ := rf_chk hf
  refine va_iald hx hb hK hP 1 0 rfl rfl c1 dX3_partBy_8 ?_
  refine lv_aload_n hx hb dX3_partBy_9 rfl (lv_at hl 0 rfl) ?_
  refine va_get (D := D) (ci := 3) (v := .ref a_this_s) (C := RX3) (T := TX3) (N := 16) hx hb hts jX3_partBy_X3 hown hK hP 0 rfl rfl 0 (by decide) (hts _ kX3_partBy_0) (fun _ h9 => h9) rfl dX3_partBy_10 ?_
  refine lv_bipush (v := 16) hx hb dX3_partBy_13 (by decide) ?_
  refine lv_iload_n hx hb dX3_partBy_15 rfl (lv_at hl 1 rfl) ?_
  refine lv_iadd hx hb dX3_partBy_16 ?_
  obtain ⟨c2, hf⟩ := rf_chk hf
  refine va_iald hx hb hK hP 1 0 rfl rfl c2 dX3_partBy_17 ?_
  refine lv_iload_n hx hb dX3_partBy_18 rfl (lv_at hl 2 rfl) ?_
  refine lv_iload_n hx hb dX3_partBy_19 rfl (lv_at hl 3 rfl) ?_
  refine lv_iload hx hb dX3_partBy_20 (lv_at hl 4 rfl) ?_
  obtain ⟨q3, hq3, hf⟩ := rf_bindq hf
  refine rf_Si (As := [.int (f_this_s ((10 + p1).toNatClampNeg)), .int (f_this_s ((16 + p1).toNatClampNeg)), .int p2, .int p3, .int p4]) (rest := []) (wr := [(a_this, .inr (3, rf_o3 a_this_s a_this_image a_this_read a_this_mind a_this_letters a_this_row a_this_refused a_this_numbers a_this_cost g_this)), (a_this_s, .inl (cA, 22, .inl f_this_s))]) (wn := [(a_this, .inr (3, rf_o3 a_this_s a_this_image a_this_read a_this_mind a_this_letters a_this_row a_this_refused a_this_numbers a_this_cost g_this)), (a_this_s, .inl (cA, 22, .inl f_this_s))]) ⟨hx, hb, hml, hown, hts⟩ hK hP hD hS hA hE (c_X3_thickOf l D cA ad s.heap.size (f_this_s ((10 + p1).toNatClampNeg)) (f_this_s ((16 + p1).toNatClampNeg)) p2 p3 p4 q3 hq3) (va_cwS 5 hts gX3_partBy_X3_thickOf rfl rfl rfl hs_X3_thickOf ⟨Nat.le_of_ble_eq_true rfl, Nat.le_of_ble_eq_true rfl⟩) [] [0, 1] [0, 1] rfl rfl rfl rfl (by decide) rfl rfl rfl rfl hl.1 (Nat.le_of_ble_eq_true rfl) dX3_partBy_22 ⟨Nat.zero_le _, Nat.zero_le _⟩ (fun H locs hP hD hS => ?_)
  obtain rfl := Option.some.inj hf
  exact W.iret (v := q3) hx hb hr (fun t ht hW => ⟨⟨q3, (), rfl, rfl, rf_mk ht hP hD⟩, hS.F ht⟩) hS.2.2 dX3_partBy_25
theorem kX3_nowOf_0 : (.fieldLink RX3 9 "RingAndFingerModel" "s" "[I" : Cond) ∈ wsX3_nowOf := by decide +kernel
theorem jX3_nowOf_X3 : ∀ w ∈ u_ws RX3 TX3 16, w ∈ wsX3_nowOf := by decide +kernel
set_option maxHeartbeats 8000000 in
set_option maxRecDepth 100000 in
theorem c_X3_nowOf (l : Launch) (D : va_G) (cA : ClassId) (ad : Nat → Nat) (a_this a_this_s a_this_image a_this_read a_this_mind a_this_letters a_this_row a_this_refused a_this_numbers a_this_cost : Nat) (sz : Nat) (g_this f_this_s : Nat → Int32) (p1 : Int32) (q : Int32) (hf : f_X3_nowOf g_this f_this_s p1 = some q) : Met l yX3_nowOf wsX3_nowOf ({ frames := 3, cells := 0, slots := 0, locals := 71 } : Room) (va_Pc [.ref a_this, .int p1] (rf_Pre D cA ad [(a_this, .inr (3, rf_o3 a_this_s a_this_image a_this_read a_this_mind a_this_letters a_this_row a_this_refused a_this_numbers a_this_cost g_this)), (a_this_s, .inl (cA, 22, .inl f_this_s))] sz)) (va_Qi (fun (r : Int32) (_ : Unit) => r = q) (fun _ t => rf_Post D (va_A [(a_this, .inr (3, rf_o3 a_this_s a_this_image a_this_read a_this_mind a_this_letters a_this_row a_this_refused a_this_numbers a_this_cost g_this)), (a_this_s, .inl (cA, 22, .inl f_this_s))] sz) [(a_this, .inr (3, rf_o3 a_this_s a_this_image a_this_read a_this_mind a_this_letters a_this_row a_this_refused a_this_numbers a_this_cost g_this)), (a_this_s, .inl (cA, 22, .inl f_this_s))] t) (va_A [(a_this, .inr (3, rf_o3 a_this_s a_this_image a_this_read a_this_mind a_this_letters a_this_row a_this_refused a_this_numbers a_this_cost g_this)), (a_this_s, .inl (cA, 22, .inl f_this_s))] sz)) 0 0 (va_A [(a_this, .inr (3, rf_o3 a_this_s a_this_image a_this_read a_this_mind a_this_letters a_this_row a_this_refused a_this_numbers a_this_cost g_this)), (a_this_s, .inl (cA, 22, .inl f_this_s))] sz) := by
  refine Met.ofW (cc := cX3_nowOf) (maxL := 2) (ret := (some .int)) (by decide) rfl ?_
  intro p e s m args below meth c s₁ B hml hv
  obtain ⟨rfl, hsz, hP, hK, hD0, hE⟩ := hv
  have hx := B.exec
  have hb := B.bytes
  have hr := B.returns
  have hts := atoms_spec (ws := wsX3_nowOf) B.pre
  have hown : s.vm.findClass RX3 = some m.cls := findClass_of_methodNamed B.named
  have hlocks := B.notSynchronized
  subst hsz
  have hD := hD0.self (sz := s.heap.size)
  generalize hAe : va_A [(a_this, .inr (3, rf_o3 a_this_s a_this_image a_this_read a_this_mind a_this_letters a_this_row a_this_refused a_this_numbers a_this_cost g_this)), (a_this_s, .inl (cA, 22, .inl f_this_s))] s.heap.size = A at hD hE ⊢
  have hA : ∀ q : Nat, s.heap.size ≤ q → A q := fun q h => by rw [← hAe]; exact Or.inr h
  have hS : va_S A s.heap s.heap [] := va_S.rf
  have hP : va_P D vwCl [(a_this, .inr (3, rf_o3 a_this_s a_this_image a_this_read a_this_mind a_this_letters a_this_row a_this_refused a_this_numbers a_this_cost g_this)), (a_this_s, .inl (cA, 22, .inl f_this_s))] s.heap := hP
  have hl := lv_entry ([.ref a_this, .int p1]) (n := 2) (Nat.le_of_ble_eq_true rfl)
  rw [lg_entry_eq]
  generalize (lg_sl ([.ref a_this, .int p1]) ++ List.replicate (2 - (lg_sl ([.ref a_this, .int p1])).length) Slot.unset).toArray = ls at hl ⊢
  have hl : lv_has ls 2 [(0, .ref a_this), (1, .int p1)] := hl
  rw [f_X3_nowOf] at hf
  refine lv_aload_n hx hb dX3_nowOf_0 rfl (lv_at hl 0 rfl) ?_
  refine lv_iload_n hx hb dX3_nowOf_1 rfl (lv_at hl 1 rfl) ?_
  refine lv_aload_n hx hb dX3_nowOf_2 rfl (lv_at hl 0 rfl) ?_
  refine va_get (D := D) (ci := 3) (v := .ref a_this_s) (C := RX3) (T := TX3) (N := 16) hx hb hts jX3_nowOf_X3 hown hK hP 0 rfl rfl 0 (by decide) (hts _ kX3_nowOf_0) (fun _ h9 => h9) rfl dX3_nowOf_3 ?_
  refine lv_iconst (v := 4) hx hb dX3_nowOf_6 (by decide) ?_
  refine rf_ialoadk hx hb hK hP 1 0 rfl rfl (k := 4) (by decide) (by decide) (by decide) dX3_nowOf_7 ?_
  refine lv_aload_n hx hb dX3_nowOf_8 rfl (lv_at hl 0 rfl) ?_
  refine va_get (D := D) (ci := 3) (v := .ref a_this_s) (C := RX3) (T := TX3) (N := 16) hx hb hts jX3_nowOf_X3 hown hK hP 0 rfl rfl 0 (by decide) (hts _ kX3_nowOf_0) (fun _ h9 => h9) rfl dX3_nowOf_9 ?_
  refine lv_iconst (v := 5) hx hb dX3_nowOf_12 (by decide) ?_
  refine rf_ialoadk hx hb hK hP 1 0 rfl rfl (k := 5) (by decide) (by decide) (by decide) dX3_nowOf_13 ?_
  refine lv_aload_n hx hb dX3_nowOf_14 rfl (lv_at hl 0 rfl) ?_
  refine va_get (D := D) (ci := 3) (v := .ref a_this_s) (C := RX3) (T := TX3) (N := 16) hx hb hts jX3_nowOf_X3 hown hK hP 0 rfl rfl 0 (by decide) (hts _ kX3_nowOf_0) (fun _ h9 => h9) rfl dX3_nowOf_15 ?_
  refine lv_bipush (v := 7) hx hb dX3_nowOf_18 (by decide) ?_
  refine rf_ialoadk hx hb hK hP 1 0 rfl rfl (k := 7) (by decide) (by decide) (by decide) dX3_nowOf_20 ?_
  obtain ⟨q1, hq1, hf⟩ := rf_bindq hf
  refine rf_Vi (As := [.int p1, .int (f_this_s 4), .int (f_this_s 5), .int (f_this_s 7)]) (rest := []) (wr := []) (wn := [(a_this, .inr (3, rf_o3 a_this_s a_this_image a_this_read a_this_mind a_this_letters a_this_row a_this_refused a_this_numbers a_this_cost g_this)), (a_this_s, .inl (cA, 22, .inl f_this_s))]) ⟨hx, hb, hml, hown, hts⟩ hK hP hD hS hA hE (c_X3_partBy l D cA ad a_this a_this_s a_this_image a_this_read a_this_mind a_this_letters a_this_row a_this_refused a_this_numbers a_this_cost s.heap.size g_this f_this_s p1 (f_this_s 4) (f_this_s 5) (f_this_s 7) q1 hq1) (cwV 4 hts gX3_nowOf_X3_partBy rfl rfl rfl hv_X3_partBy ⟨Nat.le_of_ble_eq_true rfl, Nat.le_of_ble_eq_true rfl⟩) [0, 1] [] [0, 1] rfl rfl rfl rfl (by decide) rfl rfl 3 0 rfl rfl rfl rfl rfl hl.1 (Nat.le_of_ble_eq_true rfl) dX3_nowOf_21 ⟨Nat.zero_le _, Nat.zero_le _⟩ (fun H locs hP hD hS => ?_)
  obtain rfl := Option.some.inj hf
  exact W.iret (v := q1) hx hb hr (fun t ht hW => ⟨⟨q1, (), rfl, rfl, rf_mk ht hP hD⟩, hS.F ht⟩) hS.2.2 dX3_nowOf_24
theorem kX3_allows_0 : (.fieldLink RX3 9 "RingAndFingerModel" "s" "[I" : Cond) ∈ wsX3_allows := by decide +kernel
theorem jX3_allows_X3 : ∀ w ∈ u_ws RX3 TX3 16, w ∈ wsX3_allows := by decide +kernel
set_option maxHeartbeats 8000000 in
set_option maxRecDepth 100000 in
theorem c_X3_allows (l : Launch) (D : va_G) (cA : ClassId) (ad : Nat → Nat) (a_this a_this_s a_this_image a_this_read a_this_mind a_this_letters a_this_row a_this_refused a_this_numbers a_this_cost : Nat) (sz : Nat) (g_this f_this_s : Nat → Int32) (p1 : Int32) (q : Int32) (hf : f_X3_allows g_this f_this_s p1 = some q) : Met l yX3_allows wsX3_allows ({ frames := 0, cells := 0, slots := 0, locals := 0 } : Room) (va_Pc [.ref a_this, .int p1] (rf_Pre D cA ad [(a_this, .inr (3, rf_o3 a_this_s a_this_image a_this_read a_this_mind a_this_letters a_this_row a_this_refused a_this_numbers a_this_cost g_this)), (a_this_s, .inl (cA, 22, .inl f_this_s))] sz)) (va_Qi (fun (r : Int32) (_ : Unit) => r = q) (fun _ t => rf_Post D (va_A [(a_this, .inr (3, rf_o3 a_this_s a_this_image a_this_read a_this_mind a_this_letters a_this_row a_this_refused a_this_numbers a_this_cost g_this)), (a_this_s, .inl (cA, 22, .inl f_this_s))] sz) [(a_this, .inr (3, rf_o3 a_this_s a_this_image a_this_read a_this_mind a_this_letters a_this_row a_this_refused a_this_numbers a_this_cost g_this)), (a_this_s, .inl (cA, 22, .inl f_this_s))] t) (va_A [(a_this, .inr (3, rf_o3 a_this_s a_this_image a_this_read a_this_mind a_this_letters a_this_row a_this_refused a_this_numbers a_this_cost g_this)), (a_this_s, .inl (cA, 22, .inl f_this_s))] sz)) 0 0 (va_A [(a_this, .inr (3, rf_o3 a_this_s a_this_image a_this_read a_this_mind a_this_letters a_this_row a_this_refused a_this_numbers a_this_cost g_this)), (a_this_s, .inl (cA, 22, .inl f_this_s))] sz) := by
  refine Met.ofW (cc := cX3_allows) (maxL := 2) (ret := (some .int)) (by decide) rfl ?_
  intro p e s m args below meth c s₁ B hml hv
  obtain ⟨rfl, hsz, hP, hK, hD0, hE⟩ := hv
  have hx := B.exec
  have hb := B.bytes
  have hr := B.returns
  have hts := atoms_spec (ws := wsX3_allows) B.pre
  have hown : s.vm.findClass RX3 = some m.cls := findClass_of_methodNamed B.named
  have hlocks := B.notSynchronized
  subst hsz
  have hD := hD0.self (sz := s.heap.size)
  generalize hAe : va_A [(a_this, .inr (3, rf_o3 a_this_s a_this_image a_this_read a_this_mind a_this_letters a_this_row a_this_refused a_this_numbers a_this_cost g_this)), (a_this_s, .inl (cA, 22, .inl f_this_s))] s.heap.size = A at hD hE ⊢
  have hA : ∀ q : Nat, s.heap.size ≤ q → A q := fun q h => by rw [← hAe]; exact Or.inr h
  have hS : va_S A s.heap s.heap [] := va_S.rf
  have hP : va_P D vwCl [(a_this, .inr (3, rf_o3 a_this_s a_this_image a_this_read a_this_mind a_this_letters a_this_row a_this_refused a_this_numbers a_this_cost g_this)), (a_this_s, .inl (cA, 22, .inl f_this_s))] s.heap := hP
  have hl := lv_entry ([.ref a_this, .int p1]) (n := 2) (Nat.le_of_ble_eq_true rfl)
  rw [lg_entry_eq]
  generalize (lg_sl ([.ref a_this, .int p1]) ++ List.replicate (2 - (lg_sl ([.ref a_this, .int p1])).length) Slot.unset).toArray = ls at hl ⊢
  have hl : lv_has ls 2 [(0, .ref a_this), (1, .int p1)] := hl
  rw [f_X3_allows] at hf
  refine lv_iload_n hx hb dX3_allows_0 rfl (lv_at hl 1 rfl) ?_
  by_cases c1 : p1 = 1
  · have hf := rf_ifp hf c1
    refine rf_tabC (off := 39) (tgt := 40) hx hb dX3_allows_1 c1 (by decide) (by decide) (by decide) (by decide) ?_
    refine lv_iconst (v := 4) hx hb dX3_allows_40 (by decide) ?_
    obtain rfl := Option.some.inj hf
    exact W.iret (v := 4) hx hb hr (fun t ht hW => ⟨⟨4, (), rfl, rfl, rf_mk ht hP hD⟩, hS.F ht⟩) hS.2.2 dX3_allows_41
  · have hf := rf_ifn hf c1
    by_cases c2 : p1 = 2
    · have hf := rf_ifp hf c2
      refine rf_tabC (off := 41) (tgt := 42) hx hb dX3_allows_1 c2 (by decide) (by decide) (by decide) (by decide) ?_
      refine lv_bipush (v := 7) hx hb dX3_allows_42 (by decide) ?_
      obtain rfl := Option.some.inj hf
      exact W.iret (v := 7) hx hb hr (fun t ht hW => ⟨⟨7, (), rfl, rfl, rf_mk ht hP hD⟩, hS.F ht⟩) hS.2.2 dX3_allows_44
    · have hf := rf_ifn hf c2
      by_cases c3 : p1 = 3
      · have hf := rf_ifp hf c3
        refine rf_tabC (off := 44) (tgt := 45) hx hb dX3_allows_1 c3 (by decide) (by decide) (by decide) (by decide) ?_
        refine lv_bipush (v := 9) hx hb dX3_allows_45 (by decide) ?_
        refine lv_aload_n hx hb dX3_allows_47 rfl (lv_at hl 0 rfl) ?_
        refine va_get (D := D) (ci := 3) (v := .ref a_this_s) (C := RX3) (T := TX3) (N := 16) hx hb hts jX3_allows_X3 hown hK hP 0 rfl rfl 0 (by decide) (hts _ kX3_allows_0) (fun _ h9 => h9) rfl dX3_allows_48 ?_
        refine lv_iconst (v := 2) hx hb dX3_allows_51 (by decide) ?_
        refine rf_ialoadk hx hb hK hP 1 0 rfl rfl (k := 2) (by decide) (by decide) (by decide) dX3_allows_52 ?_
        refine lv_isub hx hb dX3_allows_53 ?_
        obtain rfl := Option.some.inj hf
        exact W.iret (v := (9 - (f_this_s 2))) hx hb hr (fun t ht hW => ⟨⟨(9 - (f_this_s 2)), (), rfl, rfl, rf_mk ht hP hD⟩, hS.F ht⟩) hS.2.2 dX3_allows_54
      · have hf := rf_ifn hf c3
        by_cases c4 : p1 = 4
        · have hf := rf_ifp hf c4
          refine rf_tabC (off := 54) (tgt := 55) hx hb dX3_allows_1 c4 (by decide) (by decide) (by decide) (by decide) ?_
          refine lv_bipush (v := 6) hx hb dX3_allows_55 (by decide) ?_
          obtain rfl := Option.some.inj hf
          exact W.iret (v := 6) hx hb hr (fun t ht hW => ⟨⟨6, (), rfl, rfl, rf_mk ht hP hD⟩, hS.F ht⟩) hS.2.2 dX3_allows_57
        · have hf := rf_ifn hf c4
          by_cases c5 : p1 = 5
          · have hf := rf_ifp hf c5
            refine rf_tabC (off := 57) (tgt := 58) hx hb dX3_allows_1 c5 (by decide) (by decide) (by decide) (by decide) ?_
            refine lv_bipush (v := 15) hx hb dX3_allows_58 (by decide) ?_
            obtain rfl := Option.some.inj hf
            exact W.iret (v := 15) hx hb hr (fun t ht hW => ⟨⟨15, (), rfl, rfl, rf_mk ht hP hD⟩, hS.F ht⟩) hS.2.2 dX3_allows_60
          · have hf := rf_ifn hf c5
            by_cases c6 : p1 = 6
            · have hf := rf_ifp hf c6
              refine rf_tabC (off := 39) (tgt := 40) hx hb dX3_allows_1 c6 (by decide) (by decide) (by decide) (by decide) ?_
              refine lv_iconst (v := 4) hx hb dX3_allows_40 (by decide) ?_
              obtain rfl := Option.some.inj hf
              exact W.iret (v := 4) hx hb hr (fun t ht hW => ⟨⟨4, (), rfl, rfl, rf_mk ht hP hD⟩, hS.F ht⟩) hS.2.2 dX3_allows_41
            · have hf := rf_ifn hf c6
              refine rf_tabD (tgt := 61) (ks := [1, 2, 3, 4, 5, 6]) hx hb dX3_allows_1 (by intro z hz; simp only [List.mem_cons, List.not_mem_nil, or_false] at hz; rcases hz with rfl | rfl | rfl | rfl | rfl | rfl <;> assumption) (by decide) (by decide) ?_
              refine lv_iconst (v := 0) hx hb dX3_allows_61 (by decide) ?_
              obtain rfl := Option.some.inj hf
              exact W.iret (v := 0) hx hb hr (fun t ht hW => ⟨⟨0, (), rfl, rfl, rf_mk ht hP hD⟩, hS.F ht⟩) hS.2.2 dX3_allows_62

set_option maxHeartbeats 8000000 in
set_option maxRecDepth 100000 in
theorem c_X3_minutesOf (l : Launch) (D : va_G) (cA : ClassId) (ad : Nat → Nat) (sz : Nat) (p0 : Int32) (q : Int32) (hf : f_X3_minutesOf p0 = some q) : Met l yX3_minutesOf wsX3_minutesOf ({ frames := 0, cells := 0, slots := 0, locals := 0 } : Room) (va_Pc [.int p0] (rf_Pre D cA ad [] sz)) (va_Qi (fun (r : Int32) (_ : Unit) => r = q) (fun _ t => rf_Post D (va_A [] sz) [] t) (va_A [] sz)) 0 0 (va_A [] sz) := by
  refine Met.ofW (cc := cX3_minutesOf) (maxL := 1) (ret := (some .int)) (by decide) rfl ?_
  intro p e s m args below meth c s₁ B hml hv
  obtain ⟨rfl, hsz, hP, hK, hD0, hE⟩ := hv
  have hx := B.exec
  have hb := B.bytes
  have hr := B.returns
  have hts := atoms_spec (ws := wsX3_minutesOf) B.pre
  have hown : s.vm.findClass RX3 = some m.cls := findClass_of_methodNamed B.named
  have hlocks := B.notSynchronized
  subst hsz
  have hD := hD0.self (sz := s.heap.size)
  generalize hAe : va_A [] s.heap.size = A at hD hE ⊢
  have hA : ∀ q : Nat, s.heap.size ≤ q → A q := fun q h => by rw [← hAe]; exact Or.inr h
  have hS : va_S A s.heap s.heap [] := va_S.rf
  have hP : va_P D vwCl [] s.heap := hP
  have hl := lv_entry ([.int p0]) (n := 1) (Nat.le_of_ble_eq_true rfl)
  rw [lg_entry_eq]
  generalize (lg_sl ([.int p0]) ++ List.replicate (1 - (lg_sl ([.int p0])).length) Slot.unset).toArray = ls at hl ⊢
  have hl : lv_has ls 1 [(0, .int p0)] := hl
  rw [f_X3_minutesOf] at hf
  refine lv_iload_n hx hb dX3_minutesOf_0 rfl (lv_at hl 0 rfl) ?_
  by_cases c1 : p0 = 1
  · have hf := rf_ifp hf c1
    refine rf_tabC (off := 39) (tgt := 40) hx hb dX3_minutesOf_1 c1 (by decide) (by decide) (by decide) (by decide) ?_
    refine lv_iconst (v := 2) hx hb dX3_minutesOf_40 (by decide) ?_
    obtain rfl := Option.some.inj hf
    exact W.iret (v := 2) hx hb hr (fun t ht hW => ⟨⟨2, (), rfl, rfl, rf_mk ht hP hD⟩, hS.F ht⟩) hS.2.2 dX3_minutesOf_41
  · have hf := rf_ifn hf c1
    by_cases c2 : p0 = 2
    · have hf := rf_ifp hf c2
      refine rf_tabC (off := 41) (tgt := 42) hx hb dX3_minutesOf_1 c2 (by decide) (by decide) (by decide) (by decide) ?_
      refine lv_iconst (v := 3) hx hb dX3_minutesOf_42 (by decide) ?_
      obtain rfl := Option.some.inj hf
      exact W.iret (v := 3) hx hb hr (fun t ht hW => ⟨⟨3, (), rfl, rfl, rf_mk ht hP hD⟩, hS.F ht⟩) hS.2.2 dX3_minutesOf_43
    · have hf := rf_ifn hf c2
      by_cases c3 : p0 = 3
      · have hf := rf_ifp hf c3
        refine rf_tabC (off := 43) (tgt := 44) hx hb dX3_minutesOf_1 c3 (by decide) (by decide) (by decide) (by decide) ?_
        refine lv_iconst (v := 4) hx hb dX3_minutesOf_44 (by decide) ?_
        obtain rfl := Option.some.inj hf
        exact W.iret (v := 4) hx hb hr (fun t ht hW => ⟨⟨4, (), rfl, rfl, rf_mk ht hP hD⟩, hS.F ht⟩) hS.2.2 dX3_minutesOf_45
      · have hf := rf_ifn hf c3
        by_cases c4 : p0 = 5
        · have hf := rf_ifp hf c4
          refine rf_tabC (off := 45) (tgt := 46) hx hb dX3_minutesOf_1 c4 (by decide) (by decide) (by decide) (by decide) ?_
          refine lv_bipush (v := 6) hx hb dX3_minutesOf_46 (by decide) ?_
          obtain rfl := Option.some.inj hf
          exact W.iret (v := 6) hx hb hr (fun t ht hW => ⟨⟨6, (), rfl, rfl, rf_mk ht hP hD⟩, hS.F ht⟩) hS.2.2 dX3_minutesOf_48
        · have hf := rf_ifn hf c4
          by_cases c5 : p0 = 6
          · have hf := rf_ifp hf c5
            refine rf_tabC (off := 48) (tgt := 49) hx hb dX3_minutesOf_1 c5 (by decide) (by decide) (by decide) (by decide) ?_
            refine lv_bipush (v := 8) hx hb dX3_minutesOf_49 (by decide) ?_
            obtain rfl := Option.some.inj hf
            exact W.iret (v := 8) hx hb hr (fun t ht hW => ⟨⟨8, (), rfl, rfl, rf_mk ht hP hD⟩, hS.F ht⟩) hS.2.2 dX3_minutesOf_51
          · have hf := rf_ifn hf c5
            refine rf_tabD (tgt := 52) (ks := [1, 2, 3, 5, 6]) hx hb dX3_minutesOf_1 (by intro z hz; simp only [List.mem_cons, List.not_mem_nil, or_false] at hz; rcases hz with rfl | rfl | rfl | rfl | rfl <;> assumption) (by decide) (by decide) ?_
            refine lv_iconst (v := 1) hx hb dX3_minutesOf_52 (by decide) ?_
            obtain rfl := Option.some.inj hf
            exact W.iret (v := 1) hx hb hr (fun t ht hW => ⟨⟨1, (), rfl, rfl, rf_mk ht hP hD⟩, hS.F ht⟩) hS.2.2 dX3_minutesOf_53

set_option maxHeartbeats 8000000 in
set_option maxRecDepth 100000 in
theorem c_X3_swellsBy (l : Launch) (D : va_G) (cA : ClassId) (ad : Nat → Nat) (sz : Nat) (p0 : Int32) (q : Int32) (hf : f_X3_swellsBy p0 = some q) : Met l yX3_swellsBy wsX3_swellsBy ({ frames := 0, cells := 0, slots := 0, locals := 0 } : Room) (va_Pc [.int p0] (rf_Pre D cA ad [] sz)) (va_Qi (fun (r : Int32) (_ : Unit) => r = q) (fun _ t => rf_Post D (va_A [] sz) [] t) (va_A [] sz)) 0 0 (va_A [] sz) := by
  refine Met.ofW (cc := cX3_swellsBy) (maxL := 1) (ret := (some .int)) (by decide) rfl ?_
  intro p e s m args below meth c s₁ B hml hv
  obtain ⟨rfl, hsz, hP, hK, hD0, hE⟩ := hv
  have hx := B.exec
  have hb := B.bytes
  have hr := B.returns
  have hts := atoms_spec (ws := wsX3_swellsBy) B.pre
  have hown : s.vm.findClass RX3 = some m.cls := findClass_of_methodNamed B.named
  have hlocks := B.notSynchronized
  subst hsz
  have hD := hD0.self (sz := s.heap.size)
  generalize hAe : va_A [] s.heap.size = A at hD hE ⊢
  have hA : ∀ q : Nat, s.heap.size ≤ q → A q := fun q h => by rw [← hAe]; exact Or.inr h
  have hS : va_S A s.heap s.heap [] := va_S.rf
  have hP : va_P D vwCl [] s.heap := hP
  have hl := lv_entry ([.int p0]) (n := 1) (Nat.le_of_ble_eq_true rfl)
  rw [lg_entry_eq]
  generalize (lg_sl ([.int p0]) ++ List.replicate (1 - (lg_sl ([.int p0])).length) Slot.unset).toArray = ls at hl ⊢
  have hl : lv_has ls 1 [(0, .int p0)] := hl
  rw [f_X3_swellsBy] at hf
  refine lv_iload_n hx hb dX3_swellsBy_0 rfl (lv_at hl 0 rfl) ?_
  refine lv_iconst (v := 2) hx hb dX3_swellsBy_1 (by decide) ?_
  refine lv_icmp_ne (tgt := 9) hx hb dX3_swellsBy_2 (by decide) (fun c1 => ?_) (fun c1 => ?_)
  · have hf := rf_ifn hf c1
    refine lv_iload_n hx hb dX3_swellsBy_9 rfl (lv_at hl 0 rfl) ?_
    refine lv_iconst (v := 3) hx hb dX3_swellsBy_10 (by decide) ?_
    refine lv_icmp_eq (tgt := 19) hx hb dX3_swellsBy_11 (by decide) (fun c2 => ?_) (fun c2 => ?_)
    · have hf := rf_ifp hf c2
      refine lv_iconst (v := 1) hx hb dX3_swellsBy_19 (by decide) ?_
      refine lv_goto (tgt := 33) hx hb dX3_swellsBy_20 (by decide) ?_
      obtain rfl := Option.some.inj hf
      exact W.iret (v := 1) hx hb hr (fun t ht hW => ⟨⟨1, (), rfl, rfl, rf_mk ht hP hD⟩, hS.F ht⟩) hS.2.2 dX3_swellsBy_33
    · have hf := rf_ifn hf c2
      refine lv_iload_n hx hb dX3_swellsBy_14 rfl (lv_at hl 0 rfl) ?_
      refine lv_iconst (v := 5) hx hb dX3_swellsBy_15 (by decide) ?_
      refine lv_icmp_ne (tgt := 23) hx hb dX3_swellsBy_16 (by decide) (fun c3 => ?_) (fun c3 => ?_)
      · have hf := rf_ifn hf c3
        refine lv_iload_n hx hb dX3_swellsBy_23 rfl (lv_at hl 0 rfl) ?_
        refine lv_iconst (v := 4) hx hb dX3_swellsBy_24 (by decide) ?_
        refine lv_icmp_ne (tgt := 32) hx hb dX3_swellsBy_25 (by decide) (fun c4 => ?_) (fun c4 => ?_)
        · have hf := rf_ifn hf c4
          refine lv_iconst (v := 2) hx hb dX3_swellsBy_32 (by decide) ?_
          obtain rfl := Option.some.inj hf
          exact W.iret (v := 2) hx hb hr (fun t ht hW => ⟨⟨2, (), rfl, rfl, rf_mk ht hP hD⟩, hS.F ht⟩) hS.2.2 dX3_swellsBy_33
        · have hf := rf_ifp hf c4
          refine lv_iconst (v := 5) hx hb dX3_swellsBy_28 (by decide) ?_
          refine lv_goto (tgt := 33) hx hb dX3_swellsBy_29 (by decide) ?_
          obtain rfl := Option.some.inj hf
          exact W.iret (v := 5) hx hb hr (fun t ht hW => ⟨⟨5, (), rfl, rfl, rf_mk ht hP hD⟩, hS.F ht⟩) hS.2.2 dX3_swellsBy_33
      · have hf := rf_ifp hf c3
        refine lv_iconst (v := 1) hx hb dX3_swellsBy_19 (by decide) ?_
        refine lv_goto (tgt := 33) hx hb dX3_swellsBy_20 (by decide) ?_
        obtain rfl := Option.some.inj hf
        exact W.iret (v := 1) hx hb hr (fun t ht hW => ⟨⟨1, (), rfl, rfl, rf_mk ht hP hD⟩, hS.F ht⟩) hS.2.2 dX3_swellsBy_33
  · have hf := rf_ifp hf c1
    refine lv_iconst (v := 3) hx hb dX3_swellsBy_5 (by decide) ?_
    refine lv_goto (tgt := 33) hx hb dX3_swellsBy_6 (by decide) ?_
    obtain rfl := Option.some.inj hf
    exact W.iret (v := 3) hx hb hr (fun t ht hW => ⟨⟨3, (), rfl, rfl, rf_mk ht hP hD⟩, hS.F ht⟩) hS.2.2 dX3_swellsBy_33

set_option maxHeartbeats 8000000 in
set_option maxRecDepth 100000 in
theorem c_X3_harmOf (l : Launch) (D : va_G) (cA : ClassId) (ad : Nat → Nat) (sz : Nat) (p0 : Int32) (q : Int32) (hf : f_X3_harmOf p0 = some q) : Met l yX3_harmOf wsX3_harmOf ({ frames := 0, cells := 0, slots := 0, locals := 0 } : Room) (va_Pc [.int p0] (rf_Pre D cA ad [] sz)) (va_Qi (fun (r : Int32) (_ : Unit) => r = q) (fun _ t => rf_Post D (va_A [] sz) [] t) (va_A [] sz)) 0 0 (va_A [] sz) := by
  refine Met.ofW (cc := cX3_harmOf) (maxL := 1) (ret := (some .int)) (by decide) rfl ?_
  intro p e s m args below meth c s₁ B hml hv
  obtain ⟨rfl, hsz, hP, hK, hD0, hE⟩ := hv
  have hx := B.exec
  have hb := B.bytes
  have hr := B.returns
  have hts := atoms_spec (ws := wsX3_harmOf) B.pre
  have hown : s.vm.findClass RX3 = some m.cls := findClass_of_methodNamed B.named
  have hlocks := B.notSynchronized
  subst hsz
  have hD := hD0.self (sz := s.heap.size)
  generalize hAe : va_A [] s.heap.size = A at hD hE ⊢
  have hA : ∀ q : Nat, s.heap.size ≤ q → A q := fun q h => by rw [← hAe]; exact Or.inr h
  have hS : va_S A s.heap s.heap [] := va_S.rf
  have hP : va_P D vwCl [] s.heap := hP
  have hl := lv_entry ([.int p0]) (n := 1) (Nat.le_of_ble_eq_true rfl)
  rw [lg_entry_eq]
  generalize (lg_sl ([.int p0]) ++ List.replicate (1 - (lg_sl ([.int p0])).length) Slot.unset).toArray = ls at hl ⊢
  have hl : lv_has ls 1 [(0, .int p0)] := hl
  rw [f_X3_harmOf] at hf
  refine lv_iload_n hx hb dX3_harmOf_0 rfl (lv_at hl 0 rfl) ?_
  refine lv_iconst (v := 4) hx hb dX3_harmOf_1 (by decide) ?_
  refine lv_icmp_ne (tgt := 9) hx hb dX3_harmOf_2 (by decide) (fun c1 => ?_) (fun c1 => ?_)
  · have hf := rf_ifn hf c1
    refine lv_iload_n hx hb dX3_harmOf_9 rfl (lv_at hl 0 rfl) ?_
    refine lv_iconst (v := 5) hx hb dX3_harmOf_10 (by decide) ?_
    refine lv_icmp_ne (tgt := 18) hx hb dX3_harmOf_11 (by decide) (fun c2 => ?_) (fun c2 => ?_)
    · have hf := rf_ifn hf c2
      refine lv_iconst (v := 1) hx hb dX3_harmOf_18 (by decide) ?_
      obtain rfl := Option.some.inj hf
      exact W.iret (v := 1) hx hb hr (fun t ht hW => ⟨⟨1, (), rfl, rfl, rf_mk ht hP hD⟩, hS.F ht⟩) hS.2.2 dX3_harmOf_19
    · have hf := rf_ifp hf c2
      refine lv_iconst (v := 2) hx hb dX3_harmOf_14 (by decide) ?_
      refine lv_goto (tgt := 19) hx hb dX3_harmOf_15 (by decide) ?_
      obtain rfl := Option.some.inj hf
      exact W.iret (v := 2) hx hb hr (fun t ht hW => ⟨⟨2, (), rfl, rfl, rf_mk ht hP hD⟩, hS.F ht⟩) hS.2.2 dX3_harmOf_19
  · have hf := rf_ifp hf c1
    refine lv_iconst (v := 3) hx hb dX3_harmOf_5 (by decide) ?_
    refine lv_goto (tgt := 19) hx hb dX3_harmOf_6 (by decide) ?_
    obtain rfl := Option.some.inj hf
    exact W.iret (v := 3) hx hb hr (fun t ht hW => ⟨⟨3, (), rfl, rfl, rf_mk ht hP hD⟩, hS.F ht⟩) hS.2.2 dX3_harmOf_19

set_option maxHeartbeats 8000000 in
set_option maxRecDepth 100000 in
theorem c_X3_coldBy (l : Launch) (D : va_G) (cA : ClassId) (ad : Nat → Nat) (sz : Nat) (p0 p1 : Int32) (q : Int32) (hf : f_X3_coldBy p0 p1 = some q) : Met l yX3_coldBy wsX3_coldBy ({ frames := 1, cells := 0, slots := 0, locals := 21 } : Room) (va_Pc [.int p0, .int p1] (rf_Pre D cA ad [] sz)) (va_Qi (fun (r : Int32) (_ : Unit) => r = q) (fun _ t => rf_Post D (va_A [] sz) [] t) (va_A [] sz)) 0 0 (va_A [] sz) := by
  refine Met.ofW (cc := cX3_coldBy) (maxL := 2) (ret := (some .int)) (by decide) rfl ?_
  intro p e s m args below meth c s₁ B hml hv
  obtain ⟨rfl, hsz, hP, hK, hD0, hE⟩ := hv
  have hx := B.exec
  have hb := B.bytes
  have hr := B.returns
  have hts := atoms_spec (ws := wsX3_coldBy) B.pre
  have hown : s.vm.findClass RX3 = some m.cls := findClass_of_methodNamed B.named
  have hlocks := B.notSynchronized
  subst hsz
  have hD := hD0.self (sz := s.heap.size)
  generalize hAe : va_A [] s.heap.size = A at hD hE ⊢
  have hA : ∀ q : Nat, s.heap.size ≤ q → A q := fun q h => by rw [← hAe]; exact Or.inr h
  have hS : va_S A s.heap s.heap [] := va_S.rf
  have hP : va_P D vwCl [] s.heap := hP
  have hl := lv_entry ([.int p0, .int p1]) (n := 2) (Nat.le_of_ble_eq_true rfl)
  rw [lg_entry_eq]
  generalize (lg_sl ([.int p0, .int p1]) ++ List.replicate (2 - (lg_sl ([.int p0, .int p1])).length) Slot.unset).toArray = ls at hl ⊢
  have hl : lv_has ls 2 [(0, .int p0), (1, .int p1)] := hl
  rw [f_X3_coldBy] at hf
  refine lv_iload_n hx hb dX3_coldBy_0 rfl (lv_at hl 0 rfl) ?_
  refine lv_bipush (v := 6) hx hb dX3_coldBy_1 (by decide) ?_
  refine lv_icmp_ne (tgt := 18) hx hb dX3_coldBy_3 (by decide) (fun c1 => ?_) (fun c1 => ?_)
  · have hf := rf_ifn hf c1
    refine lv_iload_n hx hb dX3_coldBy_18 rfl (lv_at hl 1 rfl) ?_
    obtain rfl := Option.some.inj hf
    exact W.iret (v := p1) hx hb hr (fun t ht hW => ⟨⟨p1, (), rfl, rfl, rf_mk ht hP hD⟩, hS.F ht⟩) hS.2.2 dX3_coldBy_19
  · have hf := rf_ifp hf c1
    refine lv_bipush (v := 20) hx hb dX3_coldBy_6 (by decide) ?_
    refine lv_iload_n hx hb dX3_coldBy_8 rfl (lv_at hl 1 rfl) ?_
    refine lv_bipush (v := 8) hx hb dX3_coldBy_9 (by decide) ?_
    refine lv_iadd hx hb dX3_coldBy_11 ?_
    obtain ⟨q2, hq2, hf⟩ := rf_bindq hf
    refine rf_Si (As := [.int 20, .int (p1 + 8)]) (rest := []) (wr := []) (wn := []) ⟨hx, hb, hml, hown, hts⟩ hK hP hD hS hA hE (c_X3_least l D cA ad s.heap.size 20 (p1 + 8) q2 hq2) (va_cwS 2 hts gX3_coldBy_X3_least rfl rfl rfl hs_X3_least ⟨Nat.le_of_ble_eq_true rfl, Nat.le_of_ble_eq_true rfl⟩) [] [] [] rfl rfl rfl rfl (by decide) rfl rfl rfl rfl hl.1 (Nat.le_of_ble_eq_true rfl) dX3_coldBy_12 ⟨Nat.zero_le _, Nat.zero_le _⟩ (fun H locs hP hD hS => ?_)
    refine lv_goto (tgt := 19) hx hb dX3_coldBy_15 (by decide) ?_
    obtain rfl := Option.some.inj hf
    exact W.iret (v := q2) hx hb hr (fun t ht hW => ⟨⟨q2, (), rfl, rfl, rf_mk ht hP hD⟩, hS.F ht⟩) hS.2.2 dX3_coldBy_19
theorem kX3_goesOver_0 : (.fieldLink RX3 9 "RingAndFingerModel" "s" "[I" : Cond) ∈ wsX3_goesOver := by decide +kernel
theorem jX3_goesOver_X3 : ∀ w ∈ u_ws RX3 TX3 16, w ∈ wsX3_goesOver := by decide +kernel
set_option maxHeartbeats 8000000 in
set_option maxRecDepth 100000 in
theorem c_X3_goesOver (l : Launch) (D : va_G) (cA : ClassId) (ad : Nat → Nat) (a_this a_this_s a_this_image a_this_read a_this_mind a_this_letters a_this_row a_this_refused a_this_numbers a_this_cost : Nat) (sz : Nat) (g_this f_this_s : Nat → Int32) (p1 p2 p3 p4 : Int32) (q : Int32) (hf : f_X3_goesOver g_this f_this_s p1 p2 p3 p4 = some q) : Met l yX3_goesOver wsX3_goesOver ({ frames := 3, cells := 0, slots := 0, locals := 71 } : Room) (va_Pc [.ref a_this, .int p1, .int p2, .int p3, .int p4] (rf_Pre D cA ad [(a_this, .inr (3, rf_o3 a_this_s a_this_image a_this_read a_this_mind a_this_letters a_this_row a_this_refused a_this_numbers a_this_cost g_this)), (a_this_s, .inl (cA, 22, .inl f_this_s))] sz)) (va_Qi (fun (r : Int32) (_ : Unit) => r = q) (fun _ t => rf_Post D (va_A [(a_this, .inr (3, rf_o3 a_this_s a_this_image a_this_read a_this_mind a_this_letters a_this_row a_this_refused a_this_numbers a_this_cost g_this)), (a_this_s, .inl (cA, 22, .inl f_this_s))] sz) [(a_this, .inr (3, rf_o3 a_this_s a_this_image a_this_read a_this_mind a_this_letters a_this_row a_this_refused a_this_numbers a_this_cost g_this)), (a_this_s, .inl (cA, 22, .inl f_this_s))] t) (va_A [(a_this, .inr (3, rf_o3 a_this_s a_this_image a_this_read a_this_mind a_this_letters a_this_row a_this_refused a_this_numbers a_this_cost g_this)), (a_this_s, .inl (cA, 22, .inl f_this_s))] sz)) 0 0 (va_A [(a_this, .inr (3, rf_o3 a_this_s a_this_image a_this_read a_this_mind a_this_letters a_this_row a_this_refused a_this_numbers a_this_cost g_this)), (a_this_s, .inl (cA, 22, .inl f_this_s))] sz) := by
  refine Met.ofW (cc := cX3_goesOver) (maxL := 5) (ret := (some .boolean)) (by decide) rfl ?_
  intro p e s m args below meth c s₁ B hml hv
  obtain ⟨rfl, hsz, hP, hK, hD0, hE⟩ := hv
  have hx := B.exec
  have hb := B.bytes
  have hr := B.returns
  have hts := atoms_spec (ws := wsX3_goesOver) B.pre
  have hown : s.vm.findClass RX3 = some m.cls := findClass_of_methodNamed B.named
  have hlocks := B.notSynchronized
  subst hsz
  have hD := hD0.self (sz := s.heap.size)
  generalize hAe : va_A [(a_this, .inr (3, rf_o3 a_this_s a_this_image a_this_read a_this_mind a_this_letters a_this_row a_this_refused a_this_numbers a_this_cost g_this)), (a_this_s, .inl (cA, 22, .inl f_this_s))] s.heap.size = A at hD hE ⊢
  have hA : ∀ q : Nat, s.heap.size ≤ q → A q := fun q h => by rw [← hAe]; exact Or.inr h
  have hS : va_S A s.heap s.heap [] := va_S.rf
  have hP : va_P D vwCl [(a_this, .inr (3, rf_o3 a_this_s a_this_image a_this_read a_this_mind a_this_letters a_this_row a_this_refused a_this_numbers a_this_cost g_this)), (a_this_s, .inl (cA, 22, .inl f_this_s))] s.heap := hP
  have hl := lv_entry ([.ref a_this, .int p1, .int p2, .int p3, .int p4]) (n := 5) (Nat.le_of_ble_eq_true rfl)
  rw [lg_entry_eq]
  generalize (lg_sl ([.ref a_this, .int p1, .int p2, .int p3, .int p4]) ++ List.replicate (5 - (lg_sl ([.ref a_this, .int p1, .int p2, .int p3, .int p4])).length) Slot.unset).toArray = ls at hl ⊢
  have hl : lv_has ls 5 [(0, .ref a_this), (1, .int p1), (2, .int p2), (3, .int p3), (4, .int p4)] := hl
  rw [f_X3_goesOver] at hf
  refine lv_aload_n hx hb dX3_goesOver_0 rfl (lv_at hl 0 rfl) ?_
  refine lv_iload_n hx hb dX3_goesOver_1 rfl (lv_at hl 1 rfl) ?_
  refine lv_iload_n hx hb dX3_goesOver_2 rfl (lv_at hl 3 rfl) ?_
  refine lv_iload_n hx hb dX3_goesOver_3 rfl (lv_at hl 2 rfl) ?_
  refine lv_iload hx hb dX3_goesOver_4 (lv_at hl 4 rfl) ?_
  obtain ⟨q1, hq1, hf⟩ := rf_bindq hf
  refine rf_Si (As := [.int p2, .int p4]) (rest := [.int p3, .int p1, .ref a_this]) (wr := [(a_this, .inr (3, rf_o3 a_this_s a_this_image a_this_read a_this_mind a_this_letters a_this_row a_this_refused a_this_numbers a_this_cost g_this)), (a_this_s, .inl (cA, 22, .inl f_this_s))]) (wn := [(a_this, .inr (3, rf_o3 a_this_s a_this_image a_this_read a_this_mind a_this_letters a_this_row a_this_refused a_this_numbers a_this_cost g_this)), (a_this_s, .inl (cA, 22, .inl f_this_s))]) ⟨hx, hb, hml, hown, hts⟩ hK hP hD hS hA hE (c_X3_coldBy l D cA ad s.heap.size p2 p4 q1 hq1) (va_cwS 2 hts gX3_goesOver_X3_coldBy rfl rfl rfl hs_X3_coldBy ⟨Nat.le_of_ble_eq_true rfl, Nat.le_of_ble_eq_true rfl⟩) [] [0, 1] [0, 1] rfl rfl rfl rfl (by decide) rfl rfl rfl rfl hl.1 (Nat.le_of_ble_eq_true rfl) dX3_goesOver_6 ⟨Nat.zero_le _, Nat.zero_le _⟩ (fun H locs hP hD hS => ?_)
  refine lv_aload_n hx hb dX3_goesOver_9 rfl (lv_at hl 0 rfl) ?_
  refine va_get (D := D) (ci := 3) (v := .ref a_this_s) (C := RX3) (T := TX3) (N := 16) hx hb hts jX3_goesOver_X3 hown hK hP 0 rfl rfl 0 (by decide) (hts _ kX3_goesOver_0) (fun _ h9 => h9) rfl dX3_goesOver_10 ?_
  refine lv_bipush (v := 7) hx hb dX3_goesOver_13 (by decide) ?_
  refine rf_ialoadk hx hb hK hP 1 0 rfl rfl (k := 7) (by decide) (by decide) (by decide) dX3_goesOver_15 ?_
  obtain ⟨q2, hq2, hf⟩ := rf_bindq hf
  refine rf_Vi (As := [.int p1, .int p3, .int q1, .int (f_this_s 7)]) (rest := []) (wr := []) (wn := [(a_this, .inr (3, rf_o3 a_this_s a_this_image a_this_read a_this_mind a_this_letters a_this_row a_this_refused a_this_numbers a_this_cost g_this)), (a_this_s, .inl (cA, 22, .inl f_this_s))]) ⟨hx, hb, hml, hown, hts⟩ hK hP hD hS hA hE (c_X3_partBy l D cA ad a_this a_this_s a_this_image a_this_read a_this_mind a_this_letters a_this_row a_this_refused a_this_numbers a_this_cost H.size g_this f_this_s p1 p3 q1 (f_this_s 7) q2 hq2) (cwV 4 hts gX3_goesOver_X3_partBy rfl rfl rfl hv_X3_partBy ⟨Nat.le_of_ble_eq_true rfl, Nat.le_of_ble_eq_true rfl⟩) [0, 1] [] [0, 1] rfl rfl rfl rfl (by decide) rfl rfl 3 0 rfl rfl rfl rfl rfl hl.1 (Nat.le_of_ble_eq_true rfl) dX3_goesOver_16 ⟨Nat.zero_le _, Nat.zero_le _⟩ (fun H locs hP hD hS => ?_)
  refine lv_aload_n hx hb dX3_goesOver_19 rfl (lv_at hl 0 rfl) ?_
  refine va_get (D := D) (ci := 3) (v := .ref a_this_s) (C := RX3) (T := TX3) (N := 16) hx hb hts jX3_goesOver_X3 hown hK hP 0 rfl rfl 0 (by decide) (hts _ kX3_goesOver_0) (fun _ h9 => h9) rfl dX3_goesOver_20 ?_
  refine lv_iconst (v := 1) hx hb dX3_goesOver_23 (by decide) ?_
  refine rf_ialoadk hx hb hK hP 1 0 rfl rfl (k := 1) (by decide) (by decide) (by decide) dX3_goesOver_24 ?_
  refine lv_aload_n hx hb dX3_goesOver_25 rfl (lv_at hl 0 rfl) ?_
  refine lv_iload_n hx hb dX3_goesOver_26 rfl (lv_at hl 2 rfl) ?_
  obtain ⟨q3, hq3, hf⟩ := rf_bindq hf
  refine rf_Vi (As := [.int p2]) (rest := [.int (f_this_s 1), .int q2]) (wr := []) (wn := [(a_this, .inr (3, rf_o3 a_this_s a_this_image a_this_read a_this_mind a_this_letters a_this_row a_this_refused a_this_numbers a_this_cost g_this)), (a_this_s, .inl (cA, 22, .inl f_this_s))]) ⟨hx, hb, hml, hown, hts⟩ hK hP hD hS hA hE (c_X3_allows l D cA ad a_this a_this_s a_this_image a_this_read a_this_mind a_this_letters a_this_row a_this_refused a_this_numbers a_this_cost H.size g_this f_this_s p2 q3 hq3) (cwV 1 hts gX3_goesOver_X3_allows rfl rfl rfl hv_X3_allows ⟨Nat.le_of_ble_eq_true rfl, Nat.le_of_ble_eq_true rfl⟩) [0, 1] [] [0, 1] rfl rfl rfl rfl (by decide) rfl rfl 3 0 rfl rfl rfl rfl rfl hl.1 (Nat.le_of_ble_eq_true rfl) dX3_goesOver_27 ⟨Nat.zero_le _, Nat.zero_le _⟩ (fun H locs hP hD hS => ?_)
  refine lv_iadd hx hb dX3_goesOver_30 ?_
  refine lv_icmp_gt (tgt := 38) hx hb dX3_goesOver_31 (by decide) (fun c4 => ?_) (fun c4 => ?_)
  · have hf := rf_ifp hf c4
    refine lv_iconst (v := 0) hx hb dX3_goesOver_38 (by decide) ?_
    obtain rfl := Option.some.inj hf
    exact W.zret (v := 0) hx hb hr rfl (fun t ht hW => ⟨⟨0, (), rfl, rfl, rf_mk ht hP hD⟩, hS.F ht⟩) hS.2.2 dX3_goesOver_39
  · have hf := rf_ifn hf c4
    refine lv_iconst (v := 1) hx hb dX3_goesOver_34 (by decide) ?_
    refine lv_goto (tgt := 39) hx hb dX3_goesOver_35 (by decide) ?_
    obtain rfl := Option.some.inj hf
    exact W.zret (v := 1) hx hb hr rfl (fun t ht hW => ⟨⟨1, (), rfl, rfl, rf_mk ht hP hD⟩, hS.F ht⟩) hS.2.2 dX3_goesOver_39
theorem kX3_wouldGo_0 : (.fieldLink RX3 9 "RingAndFingerModel" "s" "[I" : Cond) ∈ wsX3_wouldGo := by decide +kernel
theorem jX3_wouldGo_X3 : ∀ w ∈ u_ws RX3 TX3 16, w ∈ wsX3_wouldGo := by decide +kernel
set_option maxHeartbeats 8000000 in
set_option maxRecDepth 100000 in
theorem c_X3_wouldGo (l : Launch) (D : va_G) (cA : ClassId) (ad : Nat → Nat) (a_this a_this_s a_this_image a_this_read a_this_mind a_this_letters a_this_row a_this_refused a_this_numbers a_this_cost : Nat) (sz : Nat) (g_this f_this_s : Nat → Int32) (p1 : Int32) (q : Int32) (hf : f_X3_wouldGo g_this f_this_s p1 = some q) : Met l yX3_wouldGo wsX3_wouldGo ({ frames := 4, cells := 0, slots := 0, locals := 95 } : Room) (va_Pc [.ref a_this, .int p1] (rf_Pre D cA ad [(a_this, .inr (3, rf_o3 a_this_s a_this_image a_this_read a_this_mind a_this_letters a_this_row a_this_refused a_this_numbers a_this_cost g_this)), (a_this_s, .inl (cA, 22, .inl f_this_s))] sz)) (va_Qi (fun (r : Int32) (_ : Unit) => r = q) (fun _ t => rf_Post D (va_A [(a_this, .inr (3, rf_o3 a_this_s a_this_image a_this_read a_this_mind a_this_letters a_this_row a_this_refused a_this_numbers a_this_cost g_this)), (a_this_s, .inl (cA, 22, .inl f_this_s))] sz) [(a_this, .inr (3, rf_o3 a_this_s a_this_image a_this_read a_this_mind a_this_letters a_this_row a_this_refused a_this_numbers a_this_cost g_this)), (a_this_s, .inl (cA, 22, .inl f_this_s))] t) (va_A [(a_this, .inr (3, rf_o3 a_this_s a_this_image a_this_read a_this_mind a_this_letters a_this_row a_this_refused a_this_numbers a_this_cost g_this)), (a_this_s, .inl (cA, 22, .inl f_this_s))] sz)) 0 0 (va_A [(a_this, .inr (3, rf_o3 a_this_s a_this_image a_this_read a_this_mind a_this_letters a_this_row a_this_refused a_this_numbers a_this_cost g_this)), (a_this_s, .inl (cA, 22, .inl f_this_s))] sz) := by
  refine Met.ofW (cc := cX3_wouldGo) (maxL := 2) (ret := (some .boolean)) (by decide) rfl ?_
  intro p e s m args below meth c s₁ B hml hv
  obtain ⟨rfl, hsz, hP, hK, hD0, hE⟩ := hv
  have hx := B.exec
  have hb := B.bytes
  have hr := B.returns
  have hts := atoms_spec (ws := wsX3_wouldGo) B.pre
  have hown : s.vm.findClass RX3 = some m.cls := findClass_of_methodNamed B.named
  have hlocks := B.notSynchronized
  subst hsz
  have hD := hD0.self (sz := s.heap.size)
  generalize hAe : va_A [(a_this, .inr (3, rf_o3 a_this_s a_this_image a_this_read a_this_mind a_this_letters a_this_row a_this_refused a_this_numbers a_this_cost g_this)), (a_this_s, .inl (cA, 22, .inl f_this_s))] s.heap.size = A at hD hE ⊢
  have hA : ∀ q : Nat, s.heap.size ≤ q → A q := fun q h => by rw [← hAe]; exact Or.inr h
  have hS : va_S A s.heap s.heap [] := va_S.rf
  have hP : va_P D vwCl [(a_this, .inr (3, rf_o3 a_this_s a_this_image a_this_read a_this_mind a_this_letters a_this_row a_this_refused a_this_numbers a_this_cost g_this)), (a_this_s, .inl (cA, 22, .inl f_this_s))] s.heap := hP
  have hl := lv_entry ([.ref a_this, .int p1]) (n := 2) (Nat.le_of_ble_eq_true rfl)
  rw [lg_entry_eq]
  generalize (lg_sl ([.ref a_this, .int p1]) ++ List.replicate (2 - (lg_sl ([.ref a_this, .int p1])).length) Slot.unset).toArray = ls at hl ⊢
  have hl : lv_has ls 2 [(0, .ref a_this), (1, .int p1)] := hl
  rw [f_X3_wouldGo] at hf
  refine lv_aload_n hx hb dX3_wouldGo_0 rfl (lv_at hl 0 rfl) ?_
  refine lv_aload_n hx hb dX3_wouldGo_1 rfl (lv_at hl 0 rfl) ?_
  refine va_get (D := D) (ci := 3) (v := .ref a_this_s) (C := RX3) (T := TX3) (N := 16) hx hb hts jX3_wouldGo_X3 hown hK hP 0 rfl rfl 0 (by decide) (hts _ kX3_wouldGo_0) (fun _ h9 => h9) rfl dX3_wouldGo_2 ?_
  refine lv_iconst (v := 3) hx hb dX3_wouldGo_5 (by decide) ?_
  refine rf_ialoadk hx hb hK hP 1 0 rfl rfl (k := 3) (by decide) (by decide) (by decide) dX3_wouldGo_6 ?_
  refine lv_iload_n hx hb dX3_wouldGo_7 rfl (lv_at hl 1 rfl) ?_
  refine lv_aload_n hx hb dX3_wouldGo_8 rfl (lv_at hl 0 rfl) ?_
  refine va_get (D := D) (ci := 3) (v := .ref a_this_s) (C := RX3) (T := TX3) (N := 16) hx hb hts jX3_wouldGo_X3 hown hK hP 0 rfl rfl 0 (by decide) (hts _ kX3_wouldGo_0) (fun _ h9 => h9) rfl dX3_wouldGo_9 ?_
  refine lv_iconst (v := 4) hx hb dX3_wouldGo_12 (by decide) ?_
  refine rf_ialoadk hx hb hK hP 1 0 rfl rfl (k := 4) (by decide) (by decide) (by decide) dX3_wouldGo_13 ?_
  refine lv_aload_n hx hb dX3_wouldGo_14 rfl (lv_at hl 0 rfl) ?_
  refine va_get (D := D) (ci := 3) (v := .ref a_this_s) (C := RX3) (T := TX3) (N := 16) hx hb hts jX3_wouldGo_X3 hown hK hP 0 rfl rfl 0 (by decide) (hts _ kX3_wouldGo_0) (fun _ h9 => h9) rfl dX3_wouldGo_15 ?_
  refine lv_iconst (v := 5) hx hb dX3_wouldGo_18 (by decide) ?_
  refine rf_ialoadk hx hb hK hP 1 0 rfl rfl (k := 5) (by decide) (by decide) (by decide) dX3_wouldGo_19 ?_
  obtain ⟨q1, hq1, hf⟩ := rf_bindq hf
  refine rf_Vi (As := [.int (f_this_s 3), .int p1, .int (f_this_s 4), .int (f_this_s 5)]) (rest := []) (wr := []) (wn := [(a_this, .inr (3, rf_o3 a_this_s a_this_image a_this_read a_this_mind a_this_letters a_this_row a_this_refused a_this_numbers a_this_cost g_this)), (a_this_s, .inl (cA, 22, .inl f_this_s))]) ⟨hx, hb, hml, hown, hts⟩ hK hP hD hS hA hE (c_X3_goesOver l D cA ad a_this a_this_s a_this_image a_this_read a_this_mind a_this_letters a_this_row a_this_refused a_this_numbers a_this_cost s.heap.size g_this f_this_s (f_this_s 3) p1 (f_this_s 4) (f_this_s 5) q1 hq1) (cwV 4 hts gX3_wouldGo_X3_goesOver rfl rfl rfl hv_X3_goesOver ⟨Nat.le_of_ble_eq_true rfl, Nat.le_of_ble_eq_true rfl⟩) [0, 1] [] [0, 1] rfl rfl rfl rfl (by decide) rfl rfl 3 0 rfl rfl rfl rfl rfl hl.1 (Nat.le_of_ble_eq_true rfl) dX3_wouldGo_20 ⟨Nat.zero_le _, Nat.zero_le _⟩ (fun H locs hP hD hS => ?_)
  obtain ⟨c2, hf⟩ := rf_chk hf
  obtain rfl := Option.some.inj hf
  exact W.zret (v := q1) hx hb hr (rf_nb c2) (fun t ht hW => ⟨⟨q1, (), rfl, rfl, rf_mk ht hP hD⟩, hS.F ht⟩) hS.2.2 dX3_wouldGo_23
theorem kX3_wears_0 : (.fieldLink RX3 9 "RingAndFingerModel" "s" "[I" : Cond) ∈ wsX3_wears := by decide +kernel
theorem jX3_wears_X3 : ∀ w ∈ u_ws RX3 TX3 16, w ∈ wsX3_wears := by decide +kernel
set_option maxHeartbeats 8000000 in
set_option maxRecDepth 100000 in
theorem c_X3_wears (l : Launch) (D : va_G) (cA : ClassId) (ad : Nat → Nat) (a_this a_this_s a_this_image a_this_read a_this_mind a_this_letters a_this_row a_this_refused a_this_numbers a_this_cost : Nat) (sz : Nat) (g_this f_this_s : Nat → Int32) (p1 : Int32) (q : (Nat → Int32)) (hf : f_X3_wears g_this f_this_s p1 = some q) : Met l yX3_wears wsX3_wears ({ frames := 2, cells := 0, slots := 0, locals := 42 } : Room) (va_Pc [.ref a_this, .int p1] (rf_Pre D cA ad [(a_this, .inr (3, rf_o3 a_this_s a_this_image a_this_read a_this_mind a_this_letters a_this_row a_this_refused a_this_numbers a_this_cost g_this)), (a_this_s, .inl (cA, 22, .inl f_this_s))] sz)) (va_Qv (fun (_ : Unit) => True) (fun _ t => rf_Post D (va_A [(a_this, .inr (3, rf_o3 a_this_s a_this_image a_this_read a_this_mind a_this_letters a_this_row a_this_refused a_this_numbers a_this_cost g_this)), (a_this_s, .inl (cA, 22, .inl f_this_s))] sz) [(a_this, .inr (3, rf_o3 a_this_s a_this_image a_this_read a_this_mind a_this_letters a_this_row a_this_refused a_this_numbers a_this_cost g_this)), (a_this_s, .inl (cA, 22, .inl q))] t) (va_A [(a_this, .inr (3, rf_o3 a_this_s a_this_image a_this_read a_this_mind a_this_letters a_this_row a_this_refused a_this_numbers a_this_cost g_this)), (a_this_s, .inl (cA, 22, .inl f_this_s))] sz)) 0 0 (va_A [(a_this, .inr (3, rf_o3 a_this_s a_this_image a_this_read a_this_mind a_this_letters a_this_row a_this_refused a_this_numbers a_this_cost g_this)), (a_this_s, .inl (cA, 22, .inl f_this_s))] sz) := by
  refine Met.ofW (cc := cX3_wears) (maxL := 2) (ret := none) (by decide) rfl ?_
  intro p e s m args below meth c s₁ B hml hv
  obtain ⟨rfl, hsz, hP, hK, hD0, hE⟩ := hv
  have hx := B.exec
  have hb := B.bytes
  have hr := B.returns
  have hts := atoms_spec (ws := wsX3_wears) B.pre
  have hown : s.vm.findClass RX3 = some m.cls := findClass_of_methodNamed B.named
  have hlocks := B.notSynchronized
  subst hsz
  have hD := hD0.self (sz := s.heap.size)
  generalize hAe : va_A [(a_this, .inr (3, rf_o3 a_this_s a_this_image a_this_read a_this_mind a_this_letters a_this_row a_this_refused a_this_numbers a_this_cost g_this)), (a_this_s, .inl (cA, 22, .inl f_this_s))] s.heap.size = A at hD hE ⊢
  have hA : ∀ q : Nat, s.heap.size ≤ q → A q := fun q h => by rw [← hAe]; exact Or.inr h
  have hS : va_S A s.heap s.heap [] := va_S.rf
  have hP : va_P D vwCl [(a_this, .inr (3, rf_o3 a_this_s a_this_image a_this_read a_this_mind a_this_letters a_this_row a_this_refused a_this_numbers a_this_cost g_this)), (a_this_s, .inl (cA, 22, .inl f_this_s))] s.heap := hP
  have hl := lv_entry ([.ref a_this, .int p1]) (n := 2) (Nat.le_of_ble_eq_true rfl)
  rw [lg_entry_eq]
  generalize (lg_sl ([.ref a_this, .int p1]) ++ List.replicate (2 - (lg_sl ([.ref a_this, .int p1])).length) Slot.unset).toArray = ls at hl ⊢
  have hl : lv_has ls 2 [(0, .ref a_this), (1, .int p1)] := hl
  rw [f_X3_wears] at hf
  refine lv_aload_n hx hb dX3_wears_0 rfl (lv_at hl 0 rfl) ?_
  refine va_get (D := D) (ci := 3) (v := .ref a_this_s) (C := RX3) (T := TX3) (N := 16) hx hb hts jX3_wears_X3 hown hK hP 0 rfl rfl 0 (by decide) (hts _ kX3_wears_0) (fun _ h9 => h9) rfl dX3_wears_1 ?_
  refine lv_iconst (v := 5) hx hb dX3_wears_4 (by decide) ?_
  refine lv_iload_n hx hb dX3_wears_5 rfl (lv_at hl 1 rfl) ?_
  refine lv_aload_n hx hb dX3_wears_6 rfl (lv_at hl 0 rfl) ?_
  refine va_get (D := D) (ci := 3) (v := .ref a_this_s) (C := RX3) (T := TX3) (N := 16) hx hb hts jX3_wears_X3 hown hK hP 0 rfl rfl 0 (by decide) (hts _ kX3_wears_0) (fun _ h9 => h9) rfl dX3_wears_7 ?_
  refine lv_iconst (v := 5) hx hb dX3_wears_10 (by decide) ?_
  refine rf_ialoadk hx hb hK hP 1 0 rfl rfl (k := 5) (by decide) (by decide) (by decide) dX3_wears_11 ?_
  obtain ⟨q1, hq1, hf⟩ := rf_bindq hf
  refine rf_Si (As := [.int p1, .int (f_this_s 5)]) (rest := [.int 5, .ref a_this_s]) (wr := [(a_this, .inr (3, rf_o3 a_this_s a_this_image a_this_read a_this_mind a_this_letters a_this_row a_this_refused a_this_numbers a_this_cost g_this)), (a_this_s, .inl (cA, 22, .inl f_this_s))]) (wn := [(a_this, .inr (3, rf_o3 a_this_s a_this_image a_this_read a_this_mind a_this_letters a_this_row a_this_refused a_this_numbers a_this_cost g_this)), (a_this_s, .inl (cA, 22, .inl f_this_s))]) ⟨hx, hb, hml, hown, hts⟩ hK hP hD hS hA hE (c_X3_coldBy l D cA ad s.heap.size p1 (f_this_s 5) q1 hq1) (va_cwS 2 hts gX3_wears_X3_coldBy rfl rfl rfl hs_X3_coldBy ⟨Nat.le_of_ble_eq_true rfl, Nat.le_of_ble_eq_true rfl⟩) [] [0, 1] [0, 1] rfl rfl rfl rfl (by decide) rfl rfl rfl rfl hl.1 (Nat.le_of_ble_eq_true rfl) dX3_wears_12 ⟨Nat.zero_le _, Nat.zero_le _⟩ (fun H locs hP hD hS => ?_)
  refine rf_iastorek hx hb hK hP hD hS 1 0 rfl rfl (k := 5) (by decide) (by decide) (by decide) dX3_wears_15 (fun H locs hP hD hS => ?_)
  have hP : va_P D vwCl [(a_this, .inr (3, rf_o3 a_this_s a_this_image a_this_read a_this_mind a_this_letters a_this_row a_this_refused a_this_numbers a_this_cost g_this)), (a_this_s, .inl (cA, 22, .inl (upd f_this_s 5 q1)))] H := hP
  have hD : va_D A [(a_this, .inr (3, rf_o3 a_this_s a_this_image a_this_read a_this_mind a_this_letters a_this_row a_this_refused a_this_numbers a_this_cost g_this)), (a_this_s, .inl (cA, 22, .inl (upd f_this_s 5 q1)))] := hD
  refine lv_aload_n hx hb dX3_wears_16 rfl (lv_at hl 0 rfl) ?_
  refine va_get (D := D) (ci := 3) (v := .ref a_this_s) (C := RX3) (T := TX3) (N := 16) hx hb hts jX3_wears_X3 hown hK hP 0 rfl rfl 0 (by decide) (hts _ kX3_wears_0) (fun _ h9 => h9) rfl dX3_wears_17 ?_
  refine lv_iconst (v := 4) hx hb dX3_wears_20 (by decide) ?_
  refine lv_bipush (v := 30) hx hb dX3_wears_21 (by decide) ?_
  refine lv_aload_n hx hb dX3_wears_23 rfl (lv_at hl 0 rfl) ?_
  refine va_get (D := D) (ci := 3) (v := .ref a_this_s) (C := RX3) (T := TX3) (N := 16) hx hb hts jX3_wears_X3 hown hK hP 0 rfl rfl 0 (by decide) (hts _ kX3_wears_0) (fun _ h9 => h9) rfl dX3_wears_24 ?_
  refine lv_iconst (v := 4) hx hb dX3_wears_27 (by decide) ?_
  refine rf_ialoadk hx hb hK hP 1 0 rfl rfl (k := 4) (by decide) (by decide) (by decide) dX3_wears_28 ?_
  refine lv_iload_n hx hb dX3_wears_29 rfl (lv_at hl 1 rfl) ?_
  obtain ⟨q2, hq2, hf⟩ := rf_bindq hf
  refine rf_Si (As := [.int p1]) (rest := [.int (f_this_s 4), .int 30, .int 4, .ref a_this_s]) (wr := [(a_this, .inr (3, rf_o3 a_this_s a_this_image a_this_read a_this_mind a_this_letters a_this_row a_this_refused a_this_numbers a_this_cost g_this)), (a_this_s, .inl (cA, 22, .inl (upd f_this_s 5 q1)))]) (wn := [(a_this, .inr (3, rf_o3 a_this_s a_this_image a_this_read a_this_mind a_this_letters a_this_row a_this_refused a_this_numbers a_this_cost g_this)), (a_this_s, .inl (cA, 22, .inl (upd f_this_s 5 q1)))]) ⟨hx, hb, hml, hown, hts⟩ hK hP hD hS hA hE (c_X3_swellsBy l D cA ad H.size p1 q2 hq2) (va_cwS 1 hts gX3_wears_X3_swellsBy rfl rfl rfl hs_X3_swellsBy ⟨Nat.le_of_ble_eq_true rfl, Nat.le_of_ble_eq_true rfl⟩) [] [0, 1] [0, 1] rfl rfl rfl rfl (by decide) rfl rfl rfl rfl hl.1 (Nat.le_of_ble_eq_true rfl) dX3_wears_30 ⟨Nat.zero_le _, Nat.zero_le _⟩ (fun H locs hP hD hS => ?_)
  refine lv_iadd hx hb dX3_wears_33 ?_
  obtain ⟨q3, hq3, hf⟩ := rf_bindq hf
  refine rf_Si (As := [.int 30, .int ((f_this_s 4) + q2)]) (rest := [.int 4, .ref a_this_s]) (wr := [(a_this, .inr (3, rf_o3 a_this_s a_this_image a_this_read a_this_mind a_this_letters a_this_row a_this_refused a_this_numbers a_this_cost g_this)), (a_this_s, .inl (cA, 22, .inl (upd f_this_s 5 q1)))]) (wn := [(a_this, .inr (3, rf_o3 a_this_s a_this_image a_this_read a_this_mind a_this_letters a_this_row a_this_refused a_this_numbers a_this_cost g_this)), (a_this_s, .inl (cA, 22, .inl (upd f_this_s 5 q1)))]) ⟨hx, hb, hml, hown, hts⟩ hK hP hD hS hA hE (c_X3_least l D cA ad H.size 30 ((f_this_s 4) + q2) q3 hq3) (va_cwS 2 hts gX3_wears_X3_least rfl rfl rfl hs_X3_least ⟨Nat.le_of_ble_eq_true rfl, Nat.le_of_ble_eq_true rfl⟩) [] [0, 1] [0, 1] rfl rfl rfl rfl (by decide) rfl rfl rfl rfl hl.1 (Nat.le_of_ble_eq_true rfl) dX3_wears_34 ⟨Nat.zero_le _, Nat.zero_le _⟩ (fun H locs hP hD hS => ?_)
  refine rf_iastorek hx hb hK hP hD hS 1 0 rfl rfl (k := 4) (by decide) (by decide) (by decide) dX3_wears_37 (fun H locs hP hD hS => ?_)
  have hP : va_P D vwCl [(a_this, .inr (3, rf_o3 a_this_s a_this_image a_this_read a_this_mind a_this_letters a_this_row a_this_refused a_this_numbers a_this_cost g_this)), (a_this_s, .inl (cA, 22, .inl (upd (upd f_this_s 5 q1) 4 q3)))] H := hP
  have hD : va_D A [(a_this, .inr (3, rf_o3 a_this_s a_this_image a_this_read a_this_mind a_this_letters a_this_row a_this_refused a_this_numbers a_this_cost g_this)), (a_this_s, .inl (cA, 22, .inl (upd (upd f_this_s 5 q1) 4 q3)))] := hD
  refine lv_aload_n hx hb dX3_wears_38 rfl (lv_at hl 0 rfl) ?_
  refine va_get (D := D) (ci := 3) (v := .ref a_this_s) (C := RX3) (T := TX3) (N := 16) hx hb hts jX3_wears_X3 hown hK hP 0 rfl rfl 0 (by decide) (hts _ kX3_wears_0) (fun _ h9 => h9) rfl dX3_wears_39 ?_
  refine lv_bipush (v := 9) hx hb dX3_wears_42 (by decide) ?_
  refine lv_dup2_11 hx hb dX3_wears_44 rfl rfl ?_
  refine rf_ialoadk hx hb hK hP 1 0 rfl rfl (k := 9) (by decide) (by decide) (by decide) dX3_wears_45 ?_
  refine lv_iload_n hx hb dX3_wears_46 rfl (lv_at hl 1 rfl) ?_
  obtain ⟨q4, hq4, hf⟩ := rf_bindq hf
  refine rf_Si (As := [.int p1]) (rest := [.int (f_this_s 9), .int 9, .ref a_this_s]) (wr := [(a_this, .inr (3, rf_o3 a_this_s a_this_image a_this_read a_this_mind a_this_letters a_this_row a_this_refused a_this_numbers a_this_cost g_this)), (a_this_s, .inl (cA, 22, .inl (upd (upd f_this_s 5 q1) 4 q3)))]) (wn := [(a_this, .inr (3, rf_o3 a_this_s a_this_image a_this_read a_this_mind a_this_letters a_this_row a_this_refused a_this_numbers a_this_cost g_this)), (a_this_s, .inl (cA, 22, .inl (upd (upd f_this_s 5 q1) 4 q3)))]) ⟨hx, hb, hml, hown, hts⟩ hK hP hD hS hA hE (c_X3_harmOf l D cA ad H.size p1 q4 hq4) (va_cwS 1 hts gX3_wears_X3_harmOf rfl rfl rfl hs_X3_harmOf ⟨Nat.le_of_ble_eq_true rfl, Nat.le_of_ble_eq_true rfl⟩) [] [0, 1] [0, 1] rfl rfl rfl rfl (by decide) rfl rfl rfl rfl hl.1 (Nat.le_of_ble_eq_true rfl) dX3_wears_47 ⟨Nat.zero_le _, Nat.zero_le _⟩ (fun H locs hP hD hS => ?_)
  refine lv_iadd hx hb dX3_wears_50 ?_
  refine lv_topi (fun v5 ev5 => ?_)
  have hf := rf_bindv hf ev5
  clear ev5
  refine rf_iastorek hx hb hK hP hD hS 1 0 rfl rfl (k := 9) (by decide) (by decide) (by decide) dX3_wears_51 (fun H locs hP hD hS => ?_)
  have hP : va_P D vwCl [(a_this, .inr (3, rf_o3 a_this_s a_this_image a_this_read a_this_mind a_this_letters a_this_row a_this_refused a_this_numbers a_this_cost g_this)), (a_this_s, .inl (cA, 22, .inl (upd (upd (upd f_this_s 5 q1) 4 q3) 9 v5)))] H := hP
  have hD : va_D A [(a_this, .inr (3, rf_o3 a_this_s a_this_image a_this_read a_this_mind a_this_letters a_this_row a_this_refused a_this_numbers a_this_cost g_this)), (a_this_s, .inl (cA, 22, .inl (upd (upd (upd f_this_s 5 q1) 4 q3) 9 v5)))] := hD
  refine lv_aload_n hx hb dX3_wears_52 rfl (lv_at hl 0 rfl) ?_
  refine va_get (D := D) (ci := 3) (v := .ref a_this_s) (C := RX3) (T := TX3) (N := 16) hx hb hts jX3_wears_X3 hown hK hP 0 rfl rfl 0 (by decide) (hts _ kX3_wears_0) (fun _ h9 => h9) rfl dX3_wears_53 ?_
  refine lv_bipush (v := 6) hx hb dX3_wears_56 (by decide) ?_
  refine lv_bipush (v := 99) hx hb dX3_wears_58 (by decide) ?_
  refine lv_aload_n hx hb dX3_wears_60 rfl (lv_at hl 0 rfl) ?_
  refine va_get (D := D) (ci := 3) (v := .ref a_this_s) (C := RX3) (T := TX3) (N := 16) hx hb hts jX3_wears_X3 hown hK hP 0 rfl rfl 0 (by decide) (hts _ kX3_wears_0) (fun _ h9 => h9) rfl dX3_wears_61 ?_
  refine lv_bipush (v := 6) hx hb dX3_wears_64 (by decide) ?_
  refine rf_ialoadk hx hb hK hP 1 0 rfl rfl (k := 6) (by decide) (by decide) (by decide) dX3_wears_66 ?_
  refine lv_iload_n hx hb dX3_wears_67 rfl (lv_at hl 1 rfl) ?_
  refine lv_iconst (v := 5) hx hb dX3_wears_68 (by decide) ?_
  refine lv_icmp_ne (tgt := 76) hx hb dX3_wears_69 (by decide) (fun c6 => ?_) (fun c6 => ?_)
  · have hf := rf_ifn hf c6
    refine lv_iconst (v := 0) hx hb dX3_wears_76 (by decide) ?_
    refine lv_iadd hx hb dX3_wears_77 ?_
    obtain ⟨q7, hq7, hf⟩ := rf_bindq hf
    refine rf_Si (As := [.int 99, .int ((f_this_s 6) + 0)]) (rest := [.int 6, .ref a_this_s]) (wr := [(a_this, .inr (3, rf_o3 a_this_s a_this_image a_this_read a_this_mind a_this_letters a_this_row a_this_refused a_this_numbers a_this_cost g_this)), (a_this_s, .inl (cA, 22, .inl (upd (upd (upd f_this_s 5 q1) 4 q3) 9 v5)))]) (wn := [(a_this, .inr (3, rf_o3 a_this_s a_this_image a_this_read a_this_mind a_this_letters a_this_row a_this_refused a_this_numbers a_this_cost g_this)), (a_this_s, .inl (cA, 22, .inl (upd (upd (upd f_this_s 5 q1) 4 q3) 9 v5)))]) ⟨hx, hb, hml, hown, hts⟩ hK hP hD hS hA hE (c_X3_least l D cA ad H.size 99 ((f_this_s 6) + 0) q7 hq7) (va_cwS 2 hts gX3_wears_X3_least rfl rfl rfl hs_X3_least ⟨Nat.le_of_ble_eq_true rfl, Nat.le_of_ble_eq_true rfl⟩) [] [0, 1] [0, 1] rfl rfl rfl rfl (by decide) rfl rfl rfl rfl hl.1 (Nat.le_of_ble_eq_true rfl) dX3_wears_78 ⟨Nat.zero_le _, Nat.zero_le _⟩ (fun H locs hP hD hS => ?_)
    refine rf_iastorek hx hb hK hP hD hS 1 0 rfl rfl (k := 6) (by decide) (by decide) (by decide) dX3_wears_81 (fun H locs hP hD hS => ?_)
    have hP : va_P D vwCl [(a_this, .inr (3, rf_o3 a_this_s a_this_image a_this_read a_this_mind a_this_letters a_this_row a_this_refused a_this_numbers a_this_cost g_this)), (a_this_s, .inl (cA, 22, .inl (upd (upd (upd (upd f_this_s 5 q1) 4 q3) 9 v5) 6 q7)))] H := hP
    have hD : va_D A [(a_this, .inr (3, rf_o3 a_this_s a_this_image a_this_read a_this_mind a_this_letters a_this_row a_this_refused a_this_numbers a_this_cost g_this)), (a_this_s, .inl (cA, 22, .inl (upd (upd (upd (upd f_this_s 5 q1) 4 q3) 9 v5) 6 q7)))] := hD
    refine lv_aload_n hx hb dX3_wears_82 rfl (lv_at hl 0 rfl) ?_
    refine va_get (D := D) (ci := 3) (v := .ref a_this_s) (C := RX3) (T := TX3) (N := 16) hx hb hts jX3_wears_X3 hown hK hP 0 rfl rfl 0 (by decide) (hts _ kX3_wears_0) (fun _ h9 => h9) rfl dX3_wears_83 ?_
    refine lv_bipush (v := 8) hx hb dX3_wears_86 (by decide) ?_
    refine lv_dup2_11 hx hb dX3_wears_88 rfl rfl ?_
    refine rf_ialoadk hx hb hK hP 1 0 rfl rfl (k := 8) (by decide) (by decide) (by decide) dX3_wears_89 ?_
    refine lv_iload_n hx hb dX3_wears_90 rfl (lv_at hl 1 rfl) ?_
    obtain ⟨q8, hq8, hf⟩ := rf_bindq hf
    refine rf_Si (As := [.int p1]) (rest := [.int (f_this_s 8), .int 8, .ref a_this_s]) (wr := [(a_this, .inr (3, rf_o3 a_this_s a_this_image a_this_read a_this_mind a_this_letters a_this_row a_this_refused a_this_numbers a_this_cost g_this)), (a_this_s, .inl (cA, 22, .inl (upd (upd (upd (upd f_this_s 5 q1) 4 q3) 9 v5) 6 q7)))]) (wn := [(a_this, .inr (3, rf_o3 a_this_s a_this_image a_this_read a_this_mind a_this_letters a_this_row a_this_refused a_this_numbers a_this_cost g_this)), (a_this_s, .inl (cA, 22, .inl (upd (upd (upd (upd f_this_s 5 q1) 4 q3) 9 v5) 6 q7)))]) ⟨hx, hb, hml, hown, hts⟩ hK hP hD hS hA hE (c_X3_minutesOf l D cA ad H.size p1 q8 hq8) (va_cwS 1 hts gX3_wears_X3_minutesOf rfl rfl rfl hs_X3_minutesOf ⟨Nat.le_of_ble_eq_true rfl, Nat.le_of_ble_eq_true rfl⟩) [] [0, 1] [0, 1] rfl rfl rfl rfl (by decide) rfl rfl rfl rfl hl.1 (Nat.le_of_ble_eq_true rfl) dX3_wears_91 ⟨Nat.zero_le _, Nat.zero_le _⟩ (fun H locs hP hD hS => ?_)
    refine lv_iadd hx hb dX3_wears_94 ?_
    refine lv_topi (fun v9 ev9 => ?_)
    have hf := rf_bindv hf ev9
    clear ev9
    refine rf_iastorek hx hb hK hP hD hS 1 0 rfl rfl (k := 8) (by decide) (by decide) (by decide) dX3_wears_95 (fun H locs hP hD hS => ?_)
    have hP : va_P D vwCl [(a_this, .inr (3, rf_o3 a_this_s a_this_image a_this_read a_this_mind a_this_letters a_this_row a_this_refused a_this_numbers a_this_cost g_this)), (a_this_s, .inl (cA, 22, .inl (upd (upd (upd (upd (upd f_this_s 5 q1) 4 q3) 9 v5) 6 q7) 8 v9)))] H := hP
    have hD : va_D A [(a_this, .inr (3, rf_o3 a_this_s a_this_image a_this_read a_this_mind a_this_letters a_this_row a_this_refused a_this_numbers a_this_cost g_this)), (a_this_s, .inl (cA, 22, .inl (upd (upd (upd (upd (upd f_this_s 5 q1) 4 q3) 9 v5) 6 q7) 8 v9)))] := hD
    obtain rfl := Option.some.inj hf
    exact W.vret hx hb hr (fun t ht hW => ⟨⟨(), rfl, trivial, rf_mk ht hP hD⟩, hS.F ht⟩) hS.2.2 dX3_wears_96
  · have hf := rf_ifp hf c6
    refine lv_iconst (v := 5) hx hb dX3_wears_72 (by decide) ?_
    refine lv_goto (tgt := 77) hx hb dX3_wears_73 (by decide) ?_
    refine lv_iadd hx hb dX3_wears_77 ?_
    obtain ⟨q10, hq10, hf⟩ := rf_bindq hf
    refine rf_Si (As := [.int 99, .int ((f_this_s 6) + 5)]) (rest := [.int 6, .ref a_this_s]) (wr := [(a_this, .inr (3, rf_o3 a_this_s a_this_image a_this_read a_this_mind a_this_letters a_this_row a_this_refused a_this_numbers a_this_cost g_this)), (a_this_s, .inl (cA, 22, .inl (upd (upd (upd f_this_s 5 q1) 4 q3) 9 v5)))]) (wn := [(a_this, .inr (3, rf_o3 a_this_s a_this_image a_this_read a_this_mind a_this_letters a_this_row a_this_refused a_this_numbers a_this_cost g_this)), (a_this_s, .inl (cA, 22, .inl (upd (upd (upd f_this_s 5 q1) 4 q3) 9 v5)))]) ⟨hx, hb, hml, hown, hts⟩ hK hP hD hS hA hE (c_X3_least l D cA ad H.size 99 ((f_this_s 6) + 5) q10 hq10) (va_cwS 2 hts gX3_wears_X3_least rfl rfl rfl hs_X3_least ⟨Nat.le_of_ble_eq_true rfl, Nat.le_of_ble_eq_true rfl⟩) [] [0, 1] [0, 1] rfl rfl rfl rfl (by decide) rfl rfl rfl rfl hl.1 (Nat.le_of_ble_eq_true rfl) dX3_wears_78 ⟨Nat.zero_le _, Nat.zero_le _⟩ (fun H locs hP hD hS => ?_)
    refine rf_iastorek hx hb hK hP hD hS 1 0 rfl rfl (k := 6) (by decide) (by decide) (by decide) dX3_wears_81 (fun H locs hP hD hS => ?_)
    have hP : va_P D vwCl [(a_this, .inr (3, rf_o3 a_this_s a_this_image a_this_read a_this_mind a_this_letters a_this_row a_this_refused a_this_numbers a_this_cost g_this)), (a_this_s, .inl (cA, 22, .inl (upd (upd (upd (upd f_this_s 5 q1) 4 q3) 9 v5) 6 q10)))] H := hP
    have hD : va_D A [(a_this, .inr (3, rf_o3 a_this_s a_this_image a_this_read a_this_mind a_this_letters a_this_row a_this_refused a_this_numbers a_this_cost g_this)), (a_this_s, .inl (cA, 22, .inl (upd (upd (upd (upd f_this_s 5 q1) 4 q3) 9 v5) 6 q10)))] := hD
    refine lv_aload_n hx hb dX3_wears_82 rfl (lv_at hl 0 rfl) ?_
    refine va_get (D := D) (ci := 3) (v := .ref a_this_s) (C := RX3) (T := TX3) (N := 16) hx hb hts jX3_wears_X3 hown hK hP 0 rfl rfl 0 (by decide) (hts _ kX3_wears_0) (fun _ h9 => h9) rfl dX3_wears_83 ?_
    refine lv_bipush (v := 8) hx hb dX3_wears_86 (by decide) ?_
    refine lv_dup2_11 hx hb dX3_wears_88 rfl rfl ?_
    refine rf_ialoadk hx hb hK hP 1 0 rfl rfl (k := 8) (by decide) (by decide) (by decide) dX3_wears_89 ?_
    refine lv_iload_n hx hb dX3_wears_90 rfl (lv_at hl 1 rfl) ?_
    obtain ⟨q11, hq11, hf⟩ := rf_bindq hf
    refine rf_Si (As := [.int p1]) (rest := [.int (f_this_s 8), .int 8, .ref a_this_s]) (wr := [(a_this, .inr (3, rf_o3 a_this_s a_this_image a_this_read a_this_mind a_this_letters a_this_row a_this_refused a_this_numbers a_this_cost g_this)), (a_this_s, .inl (cA, 22, .inl (upd (upd (upd (upd f_this_s 5 q1) 4 q3) 9 v5) 6 q10)))]) (wn := [(a_this, .inr (3, rf_o3 a_this_s a_this_image a_this_read a_this_mind a_this_letters a_this_row a_this_refused a_this_numbers a_this_cost g_this)), (a_this_s, .inl (cA, 22, .inl (upd (upd (upd (upd f_this_s 5 q1) 4 q3) 9 v5) 6 q10)))]) ⟨hx, hb, hml, hown, hts⟩ hK hP hD hS hA hE (c_X3_minutesOf l D cA ad H.size p1 q11 hq11) (va_cwS 1 hts gX3_wears_X3_minutesOf rfl rfl rfl hs_X3_minutesOf ⟨Nat.le_of_ble_eq_true rfl, Nat.le_of_ble_eq_true rfl⟩) [] [0, 1] [0, 1] rfl rfl rfl rfl (by decide) rfl rfl rfl rfl hl.1 (Nat.le_of_ble_eq_true rfl) dX3_wears_91 ⟨Nat.zero_le _, Nat.zero_le _⟩ (fun H locs hP hD hS => ?_)
    refine lv_iadd hx hb dX3_wears_94 ?_
    refine lv_topi (fun v12 ev12 => ?_)
    have hf := rf_bindv hf ev12
    clear ev12
    refine rf_iastorek hx hb hK hP hD hS 1 0 rfl rfl (k := 8) (by decide) (by decide) (by decide) dX3_wears_95 (fun H locs hP hD hS => ?_)
    have hP : va_P D vwCl [(a_this, .inr (3, rf_o3 a_this_s a_this_image a_this_read a_this_mind a_this_letters a_this_row a_this_refused a_this_numbers a_this_cost g_this)), (a_this_s, .inl (cA, 22, .inl (upd (upd (upd (upd (upd f_this_s 5 q1) 4 q3) 9 v5) 6 q10) 8 v12)))] H := hP
    have hD : va_D A [(a_this, .inr (3, rf_o3 a_this_s a_this_image a_this_read a_this_mind a_this_letters a_this_row a_this_refused a_this_numbers a_this_cost g_this)), (a_this_s, .inl (cA, 22, .inl (upd (upd (upd (upd (upd f_this_s 5 q1) 4 q3) 9 v5) 6 q10) 8 v12)))] := hD
    obtain rfl := Option.some.inj hf
    exact W.vret hx hb hr (fun t ht hW => ⟨⟨(), rfl, trivial, rf_mk ht hP hD⟩, hS.F ht⟩) hS.2.2 dX3_wears_96
theorem kX3_tried_0 : (.fieldLink RX3 9 "RingAndFingerModel" "s" "[I" : Cond) ∈ wsX3_tried := by decide +kernel
theorem jX3_tried_X3 : ∀ w ∈ u_ws RX3 TX3 16, w ∈ wsX3_tried := by decide +kernel
set_option maxHeartbeats 8000000 in
set_option maxRecDepth 100000 in
theorem c_X3_tried (l : Launch) (D : va_G) (cA : ClassId) (ad : Nat → Nat) (a_this a_this_s a_this_image a_this_read a_this_mind a_this_letters a_this_row a_this_refused a_this_numbers a_this_cost : Nat) (sz : Nat) (g_this f_this_s : Nat → Int32) (p1 : Int32) (q : Int32 × (Nat → Int32)) (hf : f_X3_tried g_this f_this_s p1 = some q) : Met l yX3_tried wsX3_tried ({ frames := 5, cells := 0, slots := 0, locals := 116 } : Room) (va_Pc [.ref a_this, .int p1] (rf_Pre D cA ad [(a_this, .inr (3, rf_o3 a_this_s a_this_image a_this_read a_this_mind a_this_letters a_this_row a_this_refused a_this_numbers a_this_cost g_this)), (a_this_s, .inl (cA, 22, .inl f_this_s))] sz)) (va_Qi (fun (r : Int32) (_ : Unit) => r = q.1) (fun _ t => rf_Post D (va_A [(a_this, .inr (3, rf_o3 a_this_s a_this_image a_this_read a_this_mind a_this_letters a_this_row a_this_refused a_this_numbers a_this_cost g_this)), (a_this_s, .inl (cA, 22, .inl f_this_s))] sz) [(a_this, .inr (3, rf_o3 a_this_s a_this_image a_this_read a_this_mind a_this_letters a_this_row a_this_refused a_this_numbers a_this_cost g_this)), (a_this_s, .inl (cA, 22, .inl q.2))] t) (va_A [(a_this, .inr (3, rf_o3 a_this_s a_this_image a_this_read a_this_mind a_this_letters a_this_row a_this_refused a_this_numbers a_this_cost g_this)), (a_this_s, .inl (cA, 22, .inl f_this_s))] sz)) 0 0 (va_A [(a_this, .inr (3, rf_o3 a_this_s a_this_image a_this_read a_this_mind a_this_letters a_this_row a_this_refused a_this_numbers a_this_cost g_this)), (a_this_s, .inl (cA, 22, .inl f_this_s))] sz) := by
  refine Met.ofW (cc := cX3_tried) (maxL := 3) (ret := (some .boolean)) (by decide) rfl ?_
  intro p e s m args below meth c s₁ B hml hv
  obtain ⟨rfl, hsz, hP, hK, hD0, hE⟩ := hv
  have hx := B.exec
  have hb := B.bytes
  have hr := B.returns
  have hts := atoms_spec (ws := wsX3_tried) B.pre
  have hown : s.vm.findClass RX3 = some m.cls := findClass_of_methodNamed B.named
  have hlocks := B.notSynchronized
  subst hsz
  have hD := hD0.self (sz := s.heap.size)
  generalize hAe : va_A [(a_this, .inr (3, rf_o3 a_this_s a_this_image a_this_read a_this_mind a_this_letters a_this_row a_this_refused a_this_numbers a_this_cost g_this)), (a_this_s, .inl (cA, 22, .inl f_this_s))] s.heap.size = A at hD hE ⊢
  have hA : ∀ q : Nat, s.heap.size ≤ q → A q := fun q h => by rw [← hAe]; exact Or.inr h
  have hS : va_S A s.heap s.heap [] := va_S.rf
  have hP : va_P D vwCl [(a_this, .inr (3, rf_o3 a_this_s a_this_image a_this_read a_this_mind a_this_letters a_this_row a_this_refused a_this_numbers a_this_cost g_this)), (a_this_s, .inl (cA, 22, .inl f_this_s))] s.heap := hP
  have hl := lv_entry ([.ref a_this, .int p1]) (n := 3) (Nat.le_of_ble_eq_true rfl)
  rw [lg_entry_eq]
  generalize (lg_sl ([.ref a_this, .int p1]) ++ List.replicate (3 - (lg_sl ([.ref a_this, .int p1])).length) Slot.unset).toArray = ls at hl ⊢
  have hl : lv_has ls 3 [(0, .ref a_this), (1, .int p1)] := hl
  rw [f_X3_tried] at hf
  refine lv_aload_n hx hb dX3_tried_0 rfl (lv_at hl 0 rfl) ?_
  refine lv_iload_n hx hb dX3_tried_1 rfl (lv_at hl 1 rfl) ?_
  obtain ⟨q1, hq1, hf⟩ := rf_bindq hf
  refine rf_Vi (As := [.int p1]) (rest := []) (wr := []) (wn := [(a_this, .inr (3, rf_o3 a_this_s a_this_image a_this_read a_this_mind a_this_letters a_this_row a_this_refused a_this_numbers a_this_cost g_this)), (a_this_s, .inl (cA, 22, .inl f_this_s))]) ⟨hx, hb, hml, hown, hts⟩ hK hP hD hS hA hE (c_X3_wouldGo l D cA ad a_this a_this_s a_this_image a_this_read a_this_mind a_this_letters a_this_row a_this_refused a_this_numbers a_this_cost s.heap.size g_this f_this_s p1 q1 hq1) (cwV 1 hts gX3_tried_X3_wouldGo rfl rfl rfl hv_X3_wouldGo ⟨Nat.le_of_ble_eq_true rfl, Nat.le_of_ble_eq_true rfl⟩) [0, 1] [] [0, 1] rfl rfl rfl rfl (by decide) rfl rfl 3 0 rfl rfl rfl rfl rfl hl.1 (Nat.le_of_ble_eq_true rfl) dX3_tried_2 ⟨Nat.zero_le _, Nat.zero_le _⟩ (fun H locs hP hD hS => ?_)
  refine lv_istore_n (lv' := [(2, .int q1), (0, .ref a_this), (1, .int p1)]) hx hb dX3_tried_5 rfl hl (by decide) rfl (fun ls hl => ?_)
  refine lv_aload_n hx hb dX3_tried_6 rfl (lv_at hl 1 rfl) ?_
  refine va_get (D := D) (ci := 3) (v := .ref a_this_s) (C := RX3) (T := TX3) (N := 16) hx hb hts jX3_tried_X3 hown hK hP 0 rfl rfl 0 (by decide) (hts _ kX3_tried_0) (fun _ h9 => h9) rfl dX3_tried_7 ?_
  refine lv_iconst (v := 3) hx hb dX3_tried_10 (by decide) ?_
  refine lv_dup2_11 hx hb dX3_tried_11 rfl rfl ?_
  refine rf_ialoadk hx hb hK hP 1 0 rfl rfl (k := 3) (by decide) (by decide) (by decide) dX3_tried_12 ?_
  refine lv_iload_n hx hb dX3_tried_13 rfl (lv_at hl 0 rfl) ?_
  refine lv_if_eq (tgt := 21) hx hb dX3_tried_14 (by decide) (fun c2 => ?_) (fun c2 => ?_)
  · have hf := rf_ifp hf c2
    refine lv_iconst (v := 0) hx hb dX3_tried_21 (by decide) ?_
    refine lv_iadd hx hb dX3_tried_22 ?_
    refine lv_topi (fun v3 ev3 => ?_)
    have hf := rf_bindv hf ev3
    clear ev3
    refine rf_iastorek hx hb hK hP hD hS 1 0 rfl rfl (k := 3) (by decide) (by decide) (by decide) dX3_tried_23 (fun H locs hP hD hS => ?_)
    have hP : va_P D vwCl [(a_this, .inr (3, rf_o3 a_this_s a_this_image a_this_read a_this_mind a_this_letters a_this_row a_this_refused a_this_numbers a_this_cost g_this)), (a_this_s, .inl (cA, 22, .inl (upd f_this_s 3 v3)))] H := hP
    have hD : va_D A [(a_this, .inr (3, rf_o3 a_this_s a_this_image a_this_read a_this_mind a_this_letters a_this_row a_this_refused a_this_numbers a_this_cost g_this)), (a_this_s, .inl (cA, 22, .inl (upd f_this_s 3 v3)))] := hD
    refine lv_aload_n hx hb dX3_tried_24 rfl (lv_at hl 1 rfl) ?_
    refine lv_iload_n hx hb dX3_tried_25 rfl (lv_at hl 2 rfl) ?_
    obtain ⟨q4, hq4, hf⟩ := rf_bindq hf
    refine rf_Vv (As := [.int p1]) (rest := []) (wr := []) (wn := [(a_this, .inr (3, rf_o3 a_this_s a_this_image a_this_read a_this_mind a_this_letters a_this_row a_this_refused a_this_numbers a_this_cost g_this)), (a_this_s, .inl (cA, 22, .inl q4))]) ⟨hx, hb, hml, hown, hts⟩ hK hP hD hS hA hE (c_X3_wears l D cA ad a_this a_this_s a_this_image a_this_read a_this_mind a_this_letters a_this_row a_this_refused a_this_numbers a_this_cost H.size g_this (upd f_this_s 3 v3) p1 q4 hq4) (cwV 1 hts gX3_tried_X3_wears rfl rfl rfl hv_X3_wears ⟨Nat.le_of_ble_eq_true rfl, Nat.le_of_ble_eq_true rfl⟩) [0, 1] [] [0, 1] rfl rfl rfl rfl (by decide) rfl rfl 3 0 rfl rfl rfl rfl rfl hl.1 (Nat.le_of_ble_eq_true rfl) dX3_tried_26 ⟨Nat.zero_le _, Nat.zero_le _⟩ (fun H locs hP hD hS => ?_)
    refine lv_iload_n hx hb dX3_tried_29 rfl (lv_at hl 0 rfl) ?_
    obtain ⟨c5, hf⟩ := rf_chk hf
    obtain rfl := Option.some.inj hf
    exact W.zret (v := q1) hx hb hr (rf_nb c5) (fun t ht hW => ⟨⟨q1, (), rfl, rfl, rf_mk ht hP hD⟩, hS.F ht⟩) hS.2.2 dX3_tried_30
  · have hf := rf_ifn hf c2
    refine lv_iconst (v := 1) hx hb dX3_tried_17 (by decide) ?_
    refine lv_goto (tgt := 22) hx hb dX3_tried_18 (by decide) ?_
    refine lv_iadd hx hb dX3_tried_22 ?_
    refine lv_topi (fun v6 ev6 => ?_)
    have hf := rf_bindv hf ev6
    clear ev6
    refine rf_iastorek hx hb hK hP hD hS 1 0 rfl rfl (k := 3) (by decide) (by decide) (by decide) dX3_tried_23 (fun H locs hP hD hS => ?_)
    have hP : va_P D vwCl [(a_this, .inr (3, rf_o3 a_this_s a_this_image a_this_read a_this_mind a_this_letters a_this_row a_this_refused a_this_numbers a_this_cost g_this)), (a_this_s, .inl (cA, 22, .inl (upd f_this_s 3 v6)))] H := hP
    have hD : va_D A [(a_this, .inr (3, rf_o3 a_this_s a_this_image a_this_read a_this_mind a_this_letters a_this_row a_this_refused a_this_numbers a_this_cost g_this)), (a_this_s, .inl (cA, 22, .inl (upd f_this_s 3 v6)))] := hD
    refine lv_aload_n hx hb dX3_tried_24 rfl (lv_at hl 1 rfl) ?_
    refine lv_iload_n hx hb dX3_tried_25 rfl (lv_at hl 2 rfl) ?_
    obtain ⟨q7, hq7, hf⟩ := rf_bindq hf
    refine rf_Vv (As := [.int p1]) (rest := []) (wr := []) (wn := [(a_this, .inr (3, rf_o3 a_this_s a_this_image a_this_read a_this_mind a_this_letters a_this_row a_this_refused a_this_numbers a_this_cost g_this)), (a_this_s, .inl (cA, 22, .inl q7))]) ⟨hx, hb, hml, hown, hts⟩ hK hP hD hS hA hE (c_X3_wears l D cA ad a_this a_this_s a_this_image a_this_read a_this_mind a_this_letters a_this_row a_this_refused a_this_numbers a_this_cost H.size g_this (upd f_this_s 3 v6) p1 q7 hq7) (cwV 1 hts gX3_tried_X3_wears rfl rfl rfl hv_X3_wears ⟨Nat.le_of_ble_eq_true rfl, Nat.le_of_ble_eq_true rfl⟩) [0, 1] [] [0, 1] rfl rfl rfl rfl (by decide) rfl rfl 3 0 rfl rfl rfl rfl rfl hl.1 (Nat.le_of_ble_eq_true rfl) dX3_tried_26 ⟨Nat.zero_le _, Nat.zero_le _⟩ (fun H locs hP hD hS => ?_)
    refine lv_iload_n hx hb dX3_tried_29 rfl (lv_at hl 0 rfl) ?_
    obtain ⟨c8, hf⟩ := rf_chk hf
    obtain rfl := Option.some.inj hf
    exact W.zret (v := q1) hx hb hr (rf_nb c8) (fun t ht hW => ⟨⟨q1, (), rfl, rfl, rf_mk ht hP hD⟩, hS.F ht⟩) hS.2.2 dX3_tried_30
