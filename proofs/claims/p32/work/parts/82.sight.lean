/-! the law's sight of the class -/
section RFLong
variable {p : Program} {l : Launch} {e : Env} {R : Room} {s : State} {m : MethodId} {args : Array Value} {below : List Frame} {meth : Method} {c : Code} {H : Heap} {locs : List Loc} {cells slots : Nat} {Q : State → Prop}
variable {cc bytes : ByteArray} {nL maxL n index pc : Nat} {Ts wsy : List Cond} {own C : String} {y : MethodName} {ret : Option FieldType} {rm : Room} {D : va_G} {cA : ClassId} {ad : Nat → Nat} {ws wc wr w1 wn : va_W} {A : Nat → Prop} {r0 : Int64} {b : Addr} {As rest st0 : List Value} {ls : Array Slot}
theorem rf_Sl (S : CallFix p m c cc nL s args Ts own) (hK : va_K D vwCl [(cA, .int)] s) (hP : va_P D vwCl ws H) (hD : va_D A ws) (hS : va_S A s.heap H locs) (hA : ∀ q, s.heap.size ≤ q → A q) (hE : rf_EV ad A s)
    (hM : Met l y wsy rm (va_Pc As (rf_Pre D cA ad wc H.size)) (va_Ql (fun (r : Int64) (_ : Unit) => r = r0) (fun _ t => rf_Post D (va_A wc H.size) w1 t) (va_A wc H.size)) 0 0 (va_A wc H.size))
    (cw : CallB R s args own index y bytes maxL ret wsy rm 0 0 n ∧ (Cond.static y).before args s = true)
    (isC isR isN : List Nat) (hC : isC.map (fun i => ws[i]?) = wc.map some) (hnC : va_nd isC = true) (hR : isR.map (fun i => ws[i]?) = wr.map some) (hnR : va_nd isR = true) (hdis : ∀ i ∈ isR, i ∉ isC) (hN : isN.map (fun i => (wr ++ w1)[i]?) = wn.map some) (hnN : va_nd isN = true)
    (hlen : As.length = n) (hst : st0 = As.reverse ++ rest) (hsize : ls.size = nL) (hW : 2 * 0 + (rest.map fun v => v.category).sum ≤ 8) (hdg : decode cc pc = .ok (.invokestatic index, 3)) (hf : cells + 0 ≤ R.cells ∧ slots + 0 ≤ R.slots)
    (kk : ∀ (H1 : Heap) (locs1 : List Loc), va_P D vwCl wn H1 → va_D A wn → va_S A s.heap H1 locs1 → W p l e R s m args below meth c H1 locs1 cells slots Q (F0 m (pc + 3) ls (.long r0 :: rest))) : W p l e R s m args below meth c H locs cells slots Q (F0 m pc ls st0) := by
  have hF := va_free hD hS hA isC hC
  refine va_calll (va_runS (As := As) (rest := rest) S hM cw ⟨rf_blind, fun U hU hW => ⟨rfl, rf_pre hK hP hD hS hA hE isC hC hnC U hU hW⟩⟩ rfl hlen hsize hst hW hdg hf) hS (fun q _ h => hF q h) hF (fun r u t H1 locs1 ht hvm hw hB hz hk hS1 => ?_)
  subst hw
  obtain ⟨hP1, hD1⟩ := rf_back hP hD hS hA isC isR isN hC hR hnR hdis hN hnN ht hk hB
  exact kk H1 locs1 hP1 hD1 hS1
end RFLong
theorem kwL_sight_0 : (.constantLong RL 81 (31) : Cond) ∈ wsL_sight := by decide +kernel
theorem kwL_sight_1 : (.constantLong RL 83 (1000) : Cond) ∈ wsL_sight := by decide +kernel
theorem kwL_sight_2 : (.constantLong RL 79 (7) : Cond) ∈ wsL_sight := by decide +kernel
theorem wh_X2_count : yX2_count.cls = RX2 ∧ yX2_count.cls ≠ "java/lang/invoke/MethodHandle" ∧ yX2_count.cls ≠ "java/lang/invoke/VarHandle" ∧ (parseMethodDescriptor yX2_count.desc).map (fun d => d.parameters.length) = some 1 := by decide +kernel
theorem wh_X2_part : yX2_part.cls = RX2 ∧ yX2_part.cls ≠ "java/lang/invoke/MethodHandle" ∧ yX2_part.cls ≠ "java/lang/invoke/VarHandle" ∧ (parseMethodDescriptor yX2_part.desc).map (fun d => d.parameters.length) = some 2 := by decide +kernel
set_option maxHeartbeats 8000000 in
set_option maxRecDepth 100000 in
/-- the law's sight: a number that the finger alone makes; nothing changes -/
theorem c_L_sight (l : Launch) (D : va_G) (cA : ClassId) (ad : Nat → Nat) (a0 a1 a2 a3 a4 a5 a6 a7 a8 a9 a10 : Nat) (sz : Nat) (G γ κ τ φ : Nat → Nat) (h : ra_ok γ κ τ) : Met l yL_sight wsL_sight ({ frames := 4, cells := 0, slots := 0, locals := 90 } : Room) (va_Pc [.ref a0] (rf_Pre D cA ad [(a0, .inr (2, rf_o2 a1 a5 a6 a7 a8 a9 a10 a4 (ra_nf G))), (a1, .inr (0, rf_o0 a2 a3 (ra_nf γ))), (a2, .inl (cA, 6, .inl (ra_nf κ))), (a3, .inl (cA, 6, .inl (ra_nf τ))), (a4, .inl (cA, 7, .inl (ra_nf φ)))] sz)) (va_Ql (fun (r : Int64) (_ : Unit) => r = sg γ κ τ) (fun _ t => rf_Post D (va_A [(a0, .inr (2, rf_o2 a1 a5 a6 a7 a8 a9 a10 a4 (ra_nf G))), (a1, .inr (0, rf_o0 a2 a3 (ra_nf γ))), (a2, .inl (cA, 6, .inl (ra_nf κ))), (a3, .inl (cA, 6, .inl (ra_nf τ))), (a4, .inl (cA, 7, .inl (ra_nf φ)))] sz) [(a0, .inr (2, rf_o2 a1 a5 a6 a7 a8 a9 a10 a4 (ra_nf G))), (a1, .inr (0, rf_o0 a2 a3 (ra_nf γ))), (a2, .inl (cA, 6, .inl (ra_nf κ))), (a3, .inl (cA, 6, .inl (ra_nf τ))), (a4, .inl (cA, 7, .inl (ra_nf φ)))] t) (va_A [(a0, .inr (2, rf_o2 a1 a5 a6 a7 a8 a9 a10 a4 (ra_nf G))), (a1, .inr (0, rf_o0 a2 a3 (ra_nf γ))), (a2, .inl (cA, 6, .inl (ra_nf κ))), (a3, .inl (cA, 6, .inl (ra_nf τ))), (a4, .inl (cA, 7, .inl (ra_nf φ)))] sz)) 0 0 (va_A [(a0, .inr (2, rf_o2 a1 a5 a6 a7 a8 a9 a10 a4 (ra_nf G))), (a1, .inr (0, rf_o0 a2 a3 (ra_nf γ))), (a2, .inl (cA, 6, .inl (ra_nf κ))), (a3, .inl (cA, 6, .inl (ra_nf τ))), (a4, .inl (cA, 7, .inl (ra_nf φ)))] sz) := by
  refine Met.ofW (cc := cL_sight) (maxL := 4) (ret := (some .long)) (by decide) rfl ?_
  intro p e s m args below meth c s₁ B hml hv
  obtain ⟨rfl, hsz, hP, hK, hD0, hE⟩ := hv
  have hx := B.exec
  have hb := B.bytes
  have hr := B.returns
  have hts := atoms_spec (ws := wsL_sight) B.pre
  have hown : s.vm.findClass RL = some m.cls := findClass_of_methodNamed B.named
  have hlocks := B.notSynchronized
  subst hsz
  have hD := hD0.self (sz := s.heap.size)
  generalize hAe : va_A [(a0, .inr (2, rf_o2 a1 a5 a6 a7 a8 a9 a10 a4 (ra_nf G))), (a1, .inr (0, rf_o0 a2 a3 (ra_nf γ))), (a2, .inl (cA, 6, .inl (ra_nf κ))), (a3, .inl (cA, 6, .inl (ra_nf τ))), (a4, .inl (cA, 7, .inl (ra_nf φ)))] s.heap.size = A at hD hE ⊢
  have hA : ∀ q : Nat, s.heap.size ≤ q → A q := fun q h => by rw [← hAe]; exact Or.inr h
  have hS : va_S A s.heap s.heap [] := va_S.rf
  have hP : va_P D vwCl [(a0, .inr (2, rf_o2 a1 a5 a6 a7 a8 a9 a10 a4 (ra_nf G))), (a1, .inr (0, rf_o0 a2 a3 (ra_nf γ))), (a2, .inl (cA, 6, .inl (ra_nf κ))), (a3, .inl (cA, 6, .inl (ra_nf τ))), (a4, .inl (cA, 7, .inl (ra_nf φ)))] s.heap := hP
  have hl := lv_entry ([.ref a0]) (n := 4) (Nat.le_of_ble_eq_true rfl)
  rw [lg_entry_eq]
  generalize (lg_sl ([.ref a0]) ++ List.replicate (4 - (lg_sl ([.ref a0])).length) Slot.unset).toArray = ls at hl ⊢
  have hl : lv_has ls 4 [(0, .ref a0)] := hl
  have h6 : γ 0 ≤ 6 := h.1
  have key2 : ∀ (d k : Nat), k + d = γ 0 → ∀ (H : Heap) (locs : List Loc) (ls : Array Slot), va_P D vwCl [(a0, .inr (2, rf_o2 a1 a5 a6 a7 a8 a9 a10 a4 (ra_nf G))), (a1, .inr (0, rf_o0 a2 a3 (ra_nf γ))), (a2, .inl (cA, 6, .inl (ra_nf κ))), (a3, .inl (cA, 6, .inl (ra_nf τ))), (a4, .inl (cA, 7, .inl (ra_nf φ)))] H → va_D A [(a0, .inr (2, rf_o2 a1 a5 a6 a7 a8 a9 a10 a4 (ra_nf G))), (a1, .inr (0, rf_o0 a2 a3 (ra_nf γ))), (a2, .inl (cA, 6, .inl (ra_nf κ))), (a3, .inl (cA, 6, .inl (ra_nf τ))), (a4, .inl (cA, 7, .inl (ra_nf φ)))] → va_S A s.heap H locs → lv_has ls 4 [(3, .int (nI k)), (1, .long (sg_2 γ κ τ k)), (0, .ref a0)] → W p l e (headSpec wsL_sight ({ frames := 4, cells := 0, slots := 0, locals := 90 } : Room)).room s m ([.ref a0] : List Value).toArray below meth c H locs 0 0 (MQ below (va_Ql (fun (r : Int64) (_ : Unit) => r = sg γ κ τ) (fun _ t => rf_Post D A [(a0, .inr (2, rf_o2 a1 a5 a6 a7 a8 a9 a10 a4 (ra_nf G))), (a1, .inr (0, rf_o0 a2 a3 (ra_nf γ))), (a2, .inl (cA, 6, .inl (ra_nf κ))), (a3, .inl (cA, 6, .inl (ra_nf τ))), (a4, .inl (cA, 7, .inl (ra_nf φ)))] t) A) ([.ref a0] : List Value).toArray s 0 0 A) (F0 m 61 ls []) := by
    intro d
    induction d with
    | zero =>
      intro k hk H locs ls hP hD hS hl
      have hk : k = γ 0 := by omega
      subst hk
      refine lv_iload_n hx hb dL_sight_61 rfl (lv_at hl 0 rfl) ?_
      refine lv_aload_n hx hb dL_sight_62 rfl (lv_at hl 2 rfl) ?_
      refine lv_iconst (v := 0) hx hb dL_sight_63 (by decide) ?_
      refine rf_Vi (r0 := (nI (γ 0))) (As := [.int 0]) (rest := [.int (nI (γ 0))]) (wr := [(a2, .inl (cA, 6, .inl (ra_nf κ))), (a3, .inl (cA, 6, .inl (ra_nf τ)))]) (wn := [(a0, .inr (2, rf_o2 a1 a5 a6 a7 a8 a9 a10 a4 (ra_nf G))), (a1, .inr (0, rf_o0 a2 a3 (ra_nf γ))), (a2, .inl (cA, 6, .inl (ra_nf κ))), (a3, .inl (cA, 6, .inl (ra_nf τ))), (a4, .inl (cA, 7, .inl (ra_nf φ)))]) ⟨hx, hb, hml, hown, hts⟩ hK hP hD hS hA hE (c_X2_count l D cA ad a0 a1 a5 a6 a7 a8 a9 a10 a4 a2 a3 H.size (ra_nf G) (ra_nf γ) (ra_nf φ) 0 _ (qa_cnt0 G γ φ)) (cwV 1 hts gL_sight_X2_count rfl rfl rfl wh_X2_count ⟨Nat.le_of_ble_eq_true rfl, Nat.le_of_ble_eq_true rfl⟩) [0, 1, 4] [2, 3] [2, 3, 0, 1, 4] rfl rfl rfl rfl (by decide) rfl rfl 2 0 rfl rfl rfl rfl rfl hl.1 (Nat.le_of_ble_eq_true rfl) dL_sight_64 ⟨Nat.le_of_ble_eq_true rfl, Nat.le_of_ble_eq_true rfl⟩ (fun H locs hP hD hS => ?_)
      refine lv_icmp_ge (tgt := 102) hx hb dL_sight_67 (by decide) (fun _ => ?_) (fun c9 => absurd (nI_le (Nat.le_refl _) (by omega)) c9)
      refine lv_lload_n hx hb dL_sight_102 rfl (lv_at hl 1 rfl) ?_
      exact W.lret (v := sg_2 γ κ τ (γ 0)) hx hb hr (fun t ht hW => ⟨⟨_, (), rfl, rfl, rf_mk ht hP hD⟩, hS.F ht⟩) hS.2.2 dL_sight_103
    | succ d ih =>
      intro k hk H locs ls hP hD hS hl
      have hkk : k < γ 0 := by omega
      refine lv_iload_n hx hb dL_sight_61 rfl (lv_at hl 0 rfl) ?_
      refine lv_aload_n hx hb dL_sight_62 rfl (lv_at hl 2 rfl) ?_
      refine lv_iconst (v := 0) hx hb dL_sight_63 (by decide) ?_
      refine rf_Vi (r0 := (nI (γ 0))) (As := [.int 0]) (rest := [.int (nI k)]) (wr := [(a2, .inl (cA, 6, .inl (ra_nf κ))), (a3, .inl (cA, 6, .inl (ra_nf τ)))]) (wn := [(a0, .inr (2, rf_o2 a1 a5 a6 a7 a8 a9 a10 a4 (ra_nf G))), (a1, .inr (0, rf_o0 a2 a3 (ra_nf γ))), (a2, .inl (cA, 6, .inl (ra_nf κ))), (a3, .inl (cA, 6, .inl (ra_nf τ))), (a4, .inl (cA, 7, .inl (ra_nf φ)))]) ⟨hx, hb, hml, hown, hts⟩ hK hP hD hS hA hE (c_X2_count l D cA ad a0 a1 a5 a6 a7 a8 a9 a10 a4 a2 a3 H.size (ra_nf G) (ra_nf γ) (ra_nf φ) 0 _ (qa_cnt0 G γ φ)) (cwV 1 hts gL_sight_X2_count rfl rfl rfl wh_X2_count ⟨Nat.le_of_ble_eq_true rfl, Nat.le_of_ble_eq_true rfl⟩) [0, 1, 4] [2, 3] [2, 3, 0, 1, 4] rfl rfl rfl rfl (by decide) rfl rfl 2 0 rfl rfl rfl rfl rfl hl.1 (Nat.le_of_ble_eq_true rfl) dL_sight_64 ⟨Nat.le_of_ble_eq_true rfl, Nat.le_of_ble_eq_true rfl⟩ (fun H locs hP hD hS => ?_)
      refine lv_icmp_ge (tgt := 102) hx hb dL_sight_67 (by decide) (fun c9 => absurd c9 (nI_ge (by omega) (by omega))) (fun _ => ?_)
      refine lv_ldc2 (v := 31) hx hb hown (hts _ kwL_sight_0) dL_sight_70 ?_
      refine lv_lload_n hx hb dL_sight_73 rfl (lv_at hl 1 rfl) ?_
      refine lv_lmul hx hb dL_sight_74 ?_
      refine lv_ldc2 (v := 1000) hx hb hown (hts _ kwL_sight_1) dL_sight_75 ?_
      refine lv_aload_n hx hb dL_sight_78 rfl (lv_at hl 2 rfl) ?_
      refine lv_iload_n hx hb dL_sight_79 rfl (lv_at hl 0 rfl) ?_
      refine lv_iconst (v := 0) hx hb dL_sight_80 (by decide) ?_
      refine rf_Vi (r0 := (nI (κ k))) (As := [.int (nI k), .int 0]) (rest := [.long 1000, .long (31 * (sg_2 γ κ τ k))]) (wr := []) (wn := [(a0, .inr (2, rf_o2 a1 a5 a6 a7 a8 a9 a10 a4 (ra_nf G))), (a1, .inr (0, rf_o0 a2 a3 (ra_nf γ))), (a2, .inl (cA, 6, .inl (ra_nf κ))), (a3, .inl (cA, 6, .inl (ra_nf τ))), (a4, .inl (cA, 7, .inl (ra_nf φ)))]) ⟨hx, hb, hml, hown, hts⟩ hK hP hD hS hA hE (c_X2_part l D cA ad a0 a1 a5 a6 a7 a8 a9 a10 a4 a2 a3 H.size (ra_nf G) (ra_nf γ) (ra_nf κ) (ra_nf τ) (ra_nf φ) (nI k) 0 _ (qa_part0 G φ h hkk)) (cwV 2 hts gL_sight_X2_part rfl rfl rfl wh_X2_part ⟨Nat.le_of_ble_eq_true rfl, Nat.le_of_ble_eq_true rfl⟩) [0, 1, 2, 3, 4] [] [0, 1, 2, 3, 4] rfl rfl rfl rfl (by decide) rfl rfl 2 0 rfl rfl rfl rfl rfl hl.1 (Nat.le_of_ble_eq_true rfl) dL_sight_81 ⟨Nat.le_of_ble_eq_true rfl, Nat.le_of_ble_eq_true rfl⟩ (fun H locs hP hD hS => ?_)
      refine lv_i2l (v := (nI (κ k)).toInt64) hx hb dL_sight_84 rfl ?_
      refine lv_lmul hx hb dL_sight_85 ?_
      refine lv_ladd hx hb dL_sight_86 ?_
      refine lv_aload_n hx hb dL_sight_87 rfl (lv_at hl 2 rfl) ?_
      refine lv_iload_n hx hb dL_sight_88 rfl (lv_at hl 0 rfl) ?_
      refine lv_iconst (v := 2) hx hb dL_sight_89 (by decide) ?_
      refine rf_Vi (r0 := (nI (ra_tk (κ k) (τ k) (γ 4) (γ 5) (γ 7)))) (As := [.int (nI k), .int 2]) (rest := [.long ((31 * (sg_2 γ κ τ k)) + (1000 * ((nI (κ k)).toInt64)))]) (wr := []) (wn := [(a0, .inr (2, rf_o2 a1 a5 a6 a7 a8 a9 a10 a4 (ra_nf G))), (a1, .inr (0, rf_o0 a2 a3 (ra_nf γ))), (a2, .inl (cA, 6, .inl (ra_nf κ))), (a3, .inl (cA, 6, .inl (ra_nf τ))), (a4, .inl (cA, 7, .inl (ra_nf φ)))]) ⟨hx, hb, hml, hown, hts⟩ hK hP hD hS hA hE (c_X2_part l D cA ad a0 a1 a5 a6 a7 a8 a9 a10 a4 a2 a3 H.size (ra_nf G) (ra_nf γ) (ra_nf κ) (ra_nf τ) (ra_nf φ) (nI k) 2 _ (qa_part2 G φ h hkk)) (cwV 2 hts gL_sight_X2_part rfl rfl rfl wh_X2_part ⟨Nat.le_of_ble_eq_true rfl, Nat.le_of_ble_eq_true rfl⟩) [0, 1, 2, 3, 4] [] [0, 1, 2, 3, 4] rfl rfl rfl rfl (by decide) rfl rfl 2 0 rfl rfl rfl rfl rfl hl.1 (Nat.le_of_ble_eq_true rfl) dL_sight_90 ⟨Nat.le_of_ble_eq_true rfl, Nat.le_of_ble_eq_true rfl⟩ (fun H locs hP hD hS => ?_)
      refine lv_i2l (v := (nI (ra_tk (κ k) (τ k) (γ 4) (γ 5) (γ 7))).toInt64) hx hb dL_sight_93 rfl ?_
      refine lv_ladd hx hb dL_sight_94 ?_
      refine lv_topl (fun y9 e9 => ?_)
      obtain rfl : y9 = (sg_2 γ κ τ (k + 1)) := e9.trans rfl
      refine lv_lstore_n (lv' := [(1, .long (sg_2 γ κ τ (k + 1))), (3, .int (nI k)), (0, .ref a0)]) hx hb dL_sight_95 rfl hl (by decide) rfl (fun ls hl => ?_)
      refine lv_iinc (v := (nI (k + 1))) (lv' := [(3, .int (nI (k + 1))), (1, .long (sg_2 γ κ τ (k + 1))), (0, .ref a0)]) hx hb dL_sight_96 hl (k := 1) rfl (by rw [← nI_add] <;> rfl) (by decide) rfl (fun ls hl => ?_)
      refine lv_goto (tgt := 61) hx hb dL_sight_99 (by decide) ?_
      exact ih (k + 1) (by omega) _ _ _ hP hD hS (lv_sub hl [0, 1, 2] rfl)
  have key1 : ∀ (d k : Nat), k + d = 18 → ∀ (H : Heap) (locs : List Loc) (ls : Array Slot), va_P D vwCl [(a0, .inr (2, rf_o2 a1 a5 a6 a7 a8 a9 a10 a4 (ra_nf G))), (a1, .inr (0, rf_o0 a2 a3 (ra_nf γ))), (a2, .inl (cA, 6, .inl (ra_nf κ))), (a3, .inl (cA, 6, .inl (ra_nf τ))), (a4, .inl (cA, 7, .inl (ra_nf φ)))] H → va_D A [(a0, .inr (2, rf_o2 a1 a5 a6 a7 a8 a9 a10 a4 (ra_nf G))), (a1, .inr (0, rf_o0 a2 a3 (ra_nf γ))), (a2, .inl (cA, 6, .inl (ra_nf κ))), (a3, .inl (cA, 6, .inl (ra_nf τ))), (a4, .inl (cA, 7, .inl (ra_nf φ)))] → va_S A s.heap H locs → lv_has ls 4 [(3, .int (nI k)), (1, .long (sg_1 γ k)), (0, .ref a0)] → W p l e (headSpec wsL_sight ({ frames := 4, cells := 0, slots := 0, locals := 90 } : Room)).room s m ([.ref a0] : List Value).toArray below meth c H locs 0 0 (MQ below (va_Ql (fun (r : Int64) (_ : Unit) => r = sg γ κ τ) (fun _ t => rf_Post D A [(a0, .inr (2, rf_o2 a1 a5 a6 a7 a8 a9 a10 a4 (ra_nf G))), (a1, .inr (0, rf_o0 a2 a3 (ra_nf γ))), (a2, .inl (cA, 6, .inl (ra_nf κ))), (a3, .inl (cA, 6, .inl (ra_nf τ))), (a4, .inl (cA, 7, .inl (ra_nf φ)))] t) A) ([.ref a0] : List Value).toArray s 0 0 A) (F0 m 6 ls []) := by
    intro d
    induction d with
    | zero =>
      intro k hk H locs ls hP hD hS hl
      have hk : k = 18 := by omega
      subst hk
      refine lv_iload_n hx hb dL_sight_6 rfl (lv_at hl 0 rfl) ?_
      refine lv_bipush (v := 18) hx hb dL_sight_7 (by decide) ?_
      refine lv_icmp_ge (tgt := 59) hx hb dL_sight_9 (by decide) (fun _ => ?_) (fun c9 => absurd (nI_le (b := 18) (Nat.le_refl _) (by decide)) c9)
      refine lv_iconst (v := 0) hx hb dL_sight_59 (by decide) ?_
      refine lv_istore_n (lv' := [(3, .int 0), (1, .long (sg_1 γ 18)), (0, .ref a0)]) hx hb dL_sight_60 rfl hl (by decide) rfl (fun ls hl => ?_)
      exact key2 (γ 0) 0 (by omega) _ _ _ hP hD hS (lv_sub hl [0, 1, 2] rfl)
    | succ d ih =>
      intro k hk H locs ls hP hD hS hl
      have hkk : k < 18 := by omega
      have meet : ∀ (H : Heap) (locs : List Loc) (ls : Array Slot), va_P D vwCl [(a0, .inr (2, rf_o2 a1 a5 a6 a7 a8 a9 a10 a4 (ra_nf G))), (a1, .inr (0, rf_o0 a2 a3 (ra_nf γ))), (a2, .inl (cA, 6, .inl (ra_nf κ))), (a3, .inl (cA, 6, .inl (ra_nf τ))), (a4, .inl (cA, 7, .inl (ra_nf φ)))] H → va_D A [(a0, .inr (2, rf_o2 a1 a5 a6 a7 a8 a9 a10 a4 (ra_nf G))), (a1, .inr (0, rf_o0 a2 a3 (ra_nf γ))), (a2, .inl (cA, 6, .inl (ra_nf κ))), (a3, .inl (cA, 6, .inl (ra_nf τ))), (a4, .inl (cA, 7, .inl (ra_nf φ)))] → va_S A s.heap H locs → lv_has ls 4 [(3, .int (nI k)), (1, .long (sg_1 γ k)), (0, .ref a0)] → W p l e (headSpec wsL_sight ({ frames := 4, cells := 0, slots := 0, locals := 90 } : Room)).room s m ([.ref a0] : List Value).toArray below meth c H locs 0 0 (MQ below (va_Ql (fun (r : Int64) (_ : Unit) => r = sg γ κ τ) (fun _ t => rf_Post D A [(a0, .inr (2, rf_o2 a1 a5 a6 a7 a8 a9 a10 a4 (ra_nf G))), (a1, .inr (0, rf_o0 a2 a3 (ra_nf γ))), (a2, .inl (cA, 6, .inl (ra_nf κ))), (a3, .inl (cA, 6, .inl (ra_nf τ))), (a4, .inl (cA, 7, .inl (ra_nf φ)))] t) A) ([.ref a0] : List Value).toArray s 0 0 A) (F0 m 50 ls [.int (sg_c γ k), .long (31 * sg_1 γ k)]) := by
        intro H locs ls hP hD hS hl
        refine lv_i2l (v := (sg_c γ k).toInt64) hx hb dL_sight_50 rfl ?_
        refine lv_ladd hx hb dL_sight_51 ?_
        refine lv_topl (fun y9 e9 => ?_)
        obtain rfl : y9 = (sg_1 γ (k + 1)) := e9.trans rfl
        refine lv_lstore_n (lv' := [(1, .long (sg_1 γ (k + 1))), (3, .int (nI k)), (0, .ref a0)]) hx hb dL_sight_52 rfl hl (by decide) rfl (fun ls hl => ?_)
        refine lv_iinc (v := (nI (k + 1))) (lv' := [(3, .int (nI (k + 1))), (1, .long (sg_1 γ (k + 1))), (0, .ref a0)]) hx hb dL_sight_53 hl (k := 1) rfl (by rw [← nI_add] <;> rfl) (by decide) rfl (fun ls hl => ?_)
        refine lv_goto (tgt := 6) hx hb dL_sight_56 (by decide) ?_
        exact ih (k + 1) (by omega) _ _ _ hP hD hS (lv_sub hl [0, 1, 2] rfl)
      refine lv_iload_n hx hb dL_sight_6 rfl (lv_at hl 0 rfl) ?_
      refine lv_bipush (v := 18) hx hb dL_sight_7 (by decide) ?_
      refine lv_icmp_ge (tgt := 59) hx hb dL_sight_9 (by decide) (fun c9 => absurd c9 (show ¬ (18 : Int32) ≤ nI k from nI_ge (b := 18) hkk (by decide))) (fun _ => ?_)
      refine lv_ldc2 (v := 31) hx hb hown (hts _ kwL_sight_0) dL_sight_12 ?_
      refine lv_lload_n hx hb dL_sight_15 rfl (lv_at hl 1 rfl) ?_
      refine lv_lmul hx hb dL_sight_16 ?_
      refine lv_iload_n hx hb dL_sight_17 rfl (lv_at hl 0 rfl) ?_
      refine lv_bipush (v := 8) hx hb dL_sight_18 (by decide) ?_
      refine lv_icmp_eq (tgt := 41) hx hb dL_sight_20 (by decide) (fun c9 => ?_) (fun c9 => ?_)
      · have c8 : k = 8 := ((nI_eq (a := k) (b := 8) (by omega) (by decide)).mp c9)
        refine lv_iconst (v := 0) hx hb dL_sight_41 (by decide) ?_
        refine lv_goto (tgt := 50) hx hb dL_sight_42 (by decide) ?_
        refine lv_topi (fun y9 e9 => ?_)
        obtain rfl : y9 = (sg_c γ k) := e9.trans (sg_cT (γ := γ) (k := k) (Or.inl c8))
        exact meet _ _ _ hP hD hS hl
      · have c8 : ¬ k = 8 := (fun z => c9 ((nI_eq (a := k) (b := 8) (by omega) (by decide)).mpr z))
        refine lv_iload_n hx hb dL_sight_23 rfl (lv_at hl 0 rfl) ?_
        refine lv_bipush (v := 9) hx hb dL_sight_24 (by decide) ?_
        refine lv_icmp_eq (tgt := 41) hx hb dL_sight_26 (by decide) (fun c9 => ?_) (fun c9 => ?_)
        · have c8 : k = 9 := ((nI_eq (a := k) (b := 9) (by omega) (by decide)).mp c9)
          refine lv_iconst (v := 0) hx hb dL_sight_41 (by decide) ?_
          refine lv_goto (tgt := 50) hx hb dL_sight_42 (by decide) ?_
          refine lv_topi (fun y9 e9 => ?_)
          obtain rfl : y9 = (sg_c γ k) := e9.trans (sg_cT (γ := γ) (k := k) (Or.inr (Or.inl c8)))
          exact meet _ _ _ hP hD hS hl
        · have c7 : ¬ k = 9 := (fun z => c9 ((nI_eq (a := k) (b := 9) (by omega) (by decide)).mpr z))
          refine lv_iload_n hx hb dL_sight_29 rfl (lv_at hl 0 rfl) ?_
          refine lv_bipush (v := 10) hx hb dL_sight_30 (by decide) ?_
          refine lv_icmp_le (tgt := 45) hx hb dL_sight_32 (by decide) (fun c9 => ?_) (fun c9 => ?_)
          · have c6 : k ≤ 10 := (nI_leI (a := k) (b := 10) (by omega) (by decide)).mp c9
            refine lv_aload_n hx hb dL_sight_45 rfl (lv_at hl 2 rfl) ?_
            refine lv_iload_n hx hb dL_sight_46 rfl (lv_at hl 0 rfl) ?_
            refine rf_Vi (r0 := (sg_v γ k)) (As := [.int (nI k)]) (rest := [.long (31 * sg_1 γ k)]) (wr := [(a2, .inl (cA, 6, .inl (ra_nf κ))), (a3, .inl (cA, 6, .inl (ra_nf τ)))]) (wn := [(a0, .inr (2, rf_o2 a1 a5 a6 a7 a8 a9 a10 a4 (ra_nf G))), (a1, .inr (0, rf_o0 a2 a3 (ra_nf γ))), (a2, .inl (cA, 6, .inl (ra_nf κ))), (a3, .inl (cA, 6, .inl (ra_nf τ))), (a4, .inl (cA, 7, .inl (ra_nf φ)))]) ⟨hx, hb, hml, hown, hts⟩ hK hP hD hS hA hE (c_X2_count l D cA ad a0 a1 a5 a6 a7 a8 a9 a10 a4 a2 a3 H.size (ra_nf G) (ra_nf γ) (ra_nf φ) (nI k) _ (qa_count G γ φ (by omega) (fun z => by unfold sg_no at z; omega))) (cwV 1 hts gL_sight_X2_count rfl rfl rfl wh_X2_count ⟨Nat.le_of_ble_eq_true rfl, Nat.le_of_ble_eq_true rfl⟩) [0, 1, 4] [2, 3] [2, 3, 0, 1, 4] rfl rfl rfl rfl (by decide) rfl rfl 2 0 rfl rfl rfl rfl rfl hl.1 (Nat.le_of_ble_eq_true rfl) dL_sight_47 ⟨Nat.le_of_ble_eq_true rfl, Nat.le_of_ble_eq_true rfl⟩ (fun H locs hP hD hS => ?_)
            refine lv_topi (fun y9 e9 => ?_)
            obtain rfl : y9 = (sg_c γ k) := e9.trans (sg_cF (γ := γ) (k := k) (fun z => by unfold sg_no at z; omega))
            exact meet _ _ _ hP hD hS hl
          · have c6 : ¬ k ≤ 10 := fun z => c9 ((nI_leI (a := k) (b := 10) (by omega) (by decide)).mpr z)
            refine lv_iload_n hx hb dL_sight_35 rfl (lv_at hl 0 rfl) ?_
            refine lv_bipush (v := 17) hx hb dL_sight_36 (by decide) ?_
            refine lv_icmp_ge (tgt := 45) hx hb dL_sight_38 (by decide) (fun c9 => ?_) (fun c9 => ?_)
            · have c5 : 17 ≤ k := (nI_leI (a := 17) (b := k) (by decide) (by omega)).mp c9
              refine lv_aload_n hx hb dL_sight_45 rfl (lv_at hl 2 rfl) ?_
              refine lv_iload_n hx hb dL_sight_46 rfl (lv_at hl 0 rfl) ?_
              refine rf_Vi (r0 := (sg_v γ k)) (As := [.int (nI k)]) (rest := [.long (31 * sg_1 γ k)]) (wr := [(a2, .inl (cA, 6, .inl (ra_nf κ))), (a3, .inl (cA, 6, .inl (ra_nf τ)))]) (wn := [(a0, .inr (2, rf_o2 a1 a5 a6 a7 a8 a9 a10 a4 (ra_nf G))), (a1, .inr (0, rf_o0 a2 a3 (ra_nf γ))), (a2, .inl (cA, 6, .inl (ra_nf κ))), (a3, .inl (cA, 6, .inl (ra_nf τ))), (a4, .inl (cA, 7, .inl (ra_nf φ)))]) ⟨hx, hb, hml, hown, hts⟩ hK hP hD hS hA hE (c_X2_count l D cA ad a0 a1 a5 a6 a7 a8 a9 a10 a4 a2 a3 H.size (ra_nf G) (ra_nf γ) (ra_nf φ) (nI k) _ (qa_count G γ φ (by omega) (fun z => by unfold sg_no at z; omega))) (cwV 1 hts gL_sight_X2_count rfl rfl rfl wh_X2_count ⟨Nat.le_of_ble_eq_true rfl, Nat.le_of_ble_eq_true rfl⟩) [0, 1, 4] [2, 3] [2, 3, 0, 1, 4] rfl rfl rfl rfl (by decide) rfl rfl 2 0 rfl rfl rfl rfl rfl hl.1 (Nat.le_of_ble_eq_true rfl) dL_sight_47 ⟨Nat.le_of_ble_eq_true rfl, Nat.le_of_ble_eq_true rfl⟩ (fun H locs hP hD hS => ?_)
              refine lv_topi (fun y9 e9 => ?_)
              obtain rfl : y9 = (sg_c γ k) := e9.trans (sg_cF (γ := γ) (k := k) (fun z => by unfold sg_no at z; omega))
              exact meet _ _ _ hP hD hS hl
            · have c5 : ¬ 17 ≤ k := fun z => c9 ((nI_leI (a := 17) (b := k) (by decide) (by omega)).mpr z)
              refine lv_iconst (v := 0) hx hb dL_sight_41 (by decide) ?_
              refine lv_goto (tgt := 50) hx hb dL_sight_42 (by decide) ?_
              refine lv_topi (fun y9 e9 => ?_)
              obtain rfl : y9 = (sg_c γ k) := e9.trans (sg_cT (γ := γ) (k := k) (Or.inr (Or.inr ⟨by omega, by omega⟩)))
              exact meet _ _ _ hP hD hS hl
  refine lv_ldc2 (v := 7) hx hb hown (hts _ kwL_sight_2) dL_sight_0 ?_
  refine lv_lstore_n (lv' := [(1, .long 7), (0, .ref a0)]) hx hb dL_sight_3 rfl hl (by decide) rfl (fun ls hl => ?_)
  refine lv_iconst (v := 0) hx hb dL_sight_4 (by decide) ?_
  refine lv_istore_n (lv' := [(3, .int 0), (1, .long 7), (0, .ref a0)]) hx hb dL_sight_5 rfl hl (by decide) rfl (fun ls hl => ?_)
  exact key1 18 0 (by omega) _ _ _ hP hD hS (lv_sub hl [0, 1, 2] rfl)
