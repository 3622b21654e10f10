/-! the law from its entry to its end -/
set_option maxHeartbeats 8000000 in
set_option maxRecDepth 100000 in
/-- the law's loop, at its head -/
theorem lz_loop {p : Program} {l : Launch} {e : Env} {s : State} {m : MethodId} {below : List Frame} {meth : Method} {c : Code} {b L : Nat} {xs : Nat → Int32} {D : va_G} {cA : ClassId} {ad : Nat → Nat} {A : Nat → Prop} (hC : lz_C p s m meth c b L xs D cA ad A) {q : Nat → Nat} : ∀ (n i : Nat), 26 ≤ i + n → i < 2 ^ 31 → ∀ (H : Heap) (locs : List Loc), lz_J D cA A q H → va_S A s.heap H locs → ∀ (ls : Array Slot), lv_has ls 18 [(0, .ref b), (1, .ref (q 0)), (2, .ref (q 21)), (3, .int (nI i))] → W p l e room_1 s m #[Value.ref b] below meth c H locs 22 5871 (lw_Z below #[Value.ref b] s) (F0 m 28 ls []) := by
  have hC0 := hC
  obtain ⟨⟨hx, hb0, hr, hml, hown0, htl, hX, hbl, hlocks, hgv⟩, hL, hK, hE, hA, hT, hA9⟩ := hC0
  have hb : c.code = cL_law := hb0
  intro n
  induction n with
  | zero =>
    intro i hin hi H locs hJ hS ls hl
    refine lv_iload_n hx hb dL_law_28 rfl (lv_at hl 3 rfl) ?_
    refine lv_aload_n hx hb dL_law_29 rfl (lv_at hl 0 rfl) ?_
    refine va_tlen (v := nI L) hx hb hT hS rfl dL_law_30 ?_
    refine lv_icmp_ge (tgt := 796) hx hb dL_law_31 (by decide) (fun _ => ?_) (fun _ => ?_)
    · refine lv_iconst (v := 1) hx hb dL_law_796 (by decide) ?_
      refine va_forget (fun q hq => hA9 _ (hS.2.2 q hq)) ?_
      exact lw_ret hx hb0 hr hlocks dL_law_797
    · refine lv_iload_n hx hb dL_law_34 rfl (lv_at hl 3 rfl) ?_
      refine lv_bipush (v := 26) hx hb dL_law_35 (by decide) ?_
      refine lv_icmp_ge (tgt := 796) hx hb dL_law_37 (by decide) (fun _ => ?_) (fun c9 => ?_)
      · refine lv_iconst (v := 1) hx hb dL_law_796 (by decide) ?_
        refine va_forget (fun q hq => hA9 _ (hS.2.2 q hq)) ?_
        exact lw_ret hx hb0 hr hlocks dL_law_797
      · exact absurd (show (26 : Int32) ≤ nI i from nI_le (a := 26) (by omega) hi) c9
  | succ n ih =>
    intro i hin hi H locs hJ hS ls hl
    refine lv_iload_n hx hb dL_law_28 rfl (lv_at hl 3 rfl) ?_
    refine lv_aload_n hx hb dL_law_29 rfl (lv_at hl 0 rfl) ?_
    refine va_tlen (v := nI L) hx hb hT hS rfl dL_law_30 ?_
    refine lv_icmp_ge (tgt := 796) hx hb dL_law_31 (by decide) (fun _ => ?_) (fun _ => ?_)
    · refine lv_iconst (v := 1) hx hb dL_law_796 (by decide) ?_
      refine va_forget (fun q hq => hA9 _ (hS.2.2 q hq)) ?_
      exact lw_ret hx hb0 hr hlocks dL_law_797
    · refine lv_iload_n hx hb dL_law_34 rfl (lv_at hl 3 rfl) ?_
      refine lv_bipush (v := 26) hx hb dL_law_35 (by decide) ?_
      refine lv_icmp_ge (tgt := 796) hx hb dL_law_37 (by decide) (fun _ => ?_) (fun c9 => ?_)
      · refine lv_iconst (v := 1) hx hb dL_law_796 (by decide) ?_
        refine va_forget (fun q hq => hA9 _ (hS.2.2 q hq)) ?_
        exact lw_ret hx hb0 hr hlocks dL_law_797
      · have h26 : i < 26 := Nat.lt_of_not_le (fun z => c9 (show (26 : Int32) ≤ nI i from nI_le (a := 26) z hi))
        refine lz_round hC (by omega) hJ hS hl (fun H locs ls hJ hS hl => ?_)
        refine lv_iinc (v := nI (i + 1)) (lv' := [(3, .int (nI (i + 1))), (0, .ref b), (1, .ref (q 0)), (2, .ref (q 21))]) hx hb dL_law_790 hl (k := 3) rfl (by rw [← nI_add] <;> rfl) (by decide) rfl (fun ls hl => ?_)
        refine lv_goto (tgt := 28) hx hb dL_law_793 (by decide) ?_
        exact ih (i + 1) (by omega) (by omega) H locs hJ hS ls (lv_sub hl [1, 2, 3, 0] rfl)
theorem wh_L_hand : yL_hand.cls ≠ "java/lang/invoke/MethodHandle" ∧ yL_hand.cls ≠ "java/lang/invoke/VarHandle" ∧ (parseMethodDescriptor yL_hand.desc).map (fun d => d.parameters.length) = some 4 := by decide +kernel
set_option maxHeartbeats 8000000 in
set_option maxRecDepth 100000 in
/-- the law, from its entry -/
theorem whole_start {p : Program} {e : Env} {s : State} {m : MethodId} {below : List Frame} {meth : Method} {c : Code} (l : Launch) (hflags : l.flags = flags0) {b L : Nat} {xs : Nat → Int32} (hL : L ≤ 260) (C0 : lw_At p s m meth c b L xs) : W p l e room_1 s m #[Value.ref b] below meth c s.heap [] 0 0 (lw_Z below #[Value.ref b] s) (entryFrame m ([Value.ref b] : List Value).toArray 18) := by
  have hC0 := C0
  obtain ⟨hx, hb0, hr, hml, hown0, htl, hX, hbl, hlocks, hgv⟩ := hC0
  have hb : c.code = cL_law := hb0
  have hown : s.vm.findClass RL = some m.cls := hown0
  have hts : ∀ w ∈ wsL_law, w.before #[Value.ref b] s = true := fun w hw => htl w (wsL_law_in w hw)
  obtain ⟨ad, hE⟩ := lz_EV htl hgv
  obtain ⟨D, cA, hK⟩ := lz_K htl
  obtain ⟨aS, aV, hZ, hR⟩ := lz_St htl hgv
  have hT := lz_T hX hbl
  have hA : ∀ q : Nat, s.heap.size ≤ q → (fun q : Nat => s.heap.size ≤ q) q := fun _ h => h
  have hC : lz_C p s m meth c b L xs D cA ad (fun q : Nat => s.heap.size ≤ q) := ⟨C0, hL, hK, hE, hA, hT, fun _ h => h⟩
  have hS : va_S (fun q : Nat => s.heap.size ≤ q) s.heap s.heap [] := va_S.rf
  have hP : va_P D vwCl [] s.heap := fun k q h => by simp at h
  have hD : va_D (fun q : Nat => s.heap.size ≤ q) [] := ⟨fun i j p q h => by simp at h, fun k q h => by simp at h⟩
  have hl := lv_entry ([.ref b]) (n := 18) (Nat.le_of_ble_eq_true rfl)
  rw [lg_entry_eq]
  generalize (lg_sl ([.ref b]) ++ List.replicate (18 - (lg_sl ([.ref b])).length) Slot.unset).toArray = ls at hl ⊢
  have hl : lv_has ls 18 [(0, .ref b)] := hl
  refine va_new (ci := 2) (fs := [.null, .null, .null, .null, .null, .null, .null, .null, .int 0, .int 0, .int 0, .int 0]) (C := RX2) (T := TX2) (N := 12) hx hb hts inlX2 tyX2 tyX2_ok hown (hts (.classLink RL 10 RX2) (by decide +kernel)) (hts (.instantiable RX2 12) (by decide +kernel)) (hts (.initialized RX2) (by decide +kernel)) hK hP hD hS hA rfl (fun j hj => by rcases (show j = 0 ∨ j = 1 ∨ j = 2 ∨ j = 3 ∨ j = 4 ∨ j = 5 ∨ j = 6 ∨ j = 7 ∨ j = 8 ∨ j = 9 ∨ j = 10 ∨ j = 11 by omega) with rfl | rfl | rfl | rfl | rfl | rfl | rfl | rfl | rfl | rfl | rfl | rfl <;> rfl) (Nat.le_of_ble_eq_true rfl) (Nat.le_of_ble_eq_true rfl) dL_law_0 (fun a0 H hP hD hS => ?_)
  have hP : va_P D vwCl [(a0, .inr (2, [.null, .null, .null, .null, .null, .null, .null, .null, .int 0, .int 0, .int 0, .int 0]))] H := hP
  have hD : va_D (fun q : Nat => s.heap.size ≤ q) [(a0, .inr (2, [.null, .null, .null, .null, .null, .null, .null, .null, .int 0, .int 0, .int 0, .int 0]))] := hD
  refine W.widen (k := 1) (n := 12) (Nat.le_of_ble_eq_true rfl) (Nat.le_of_ble_eq_true rfl) ?_
  refine lv_dup hx hb dL_law_3 rfl ?_
  refine rf_I (As := []) (rest := [.ref a0]) (wr := []) ⟨hx, hb, hml, hown, hts⟩ hK hP hD hS hA hE (c_X2_init l D cA ad a0 H.size) (cwI 0 hts gL_law_X2_init rfl rfl rfl (hts (.initialized RX2) (by decide +kernel)) (hts (.methodLink RL 87 yX2_init) (by decide +kernel)) (hts (.instanceMethod yX2_init) (by decide +kernel)) rfl n0_X2_init ⟨Nat.le_of_ble_eq_true rfl, Nat.le_of_ble_eq_true rfl⟩) [0] [] rfl rfl rfl rfl (by decide) rfl rfl hl.1 (Nat.le_of_ble_eq_true rfl) dL_law_4 ⟨Nat.le_of_ble_eq_true rfl, Nat.le_of_ble_eq_true rfl⟩ (fun u2 H locs hP hD hS => ?_)
  obtain ⟨a1, a2, a3, a4, a5, a6, a7, a8, a9, a10, a11, a12, a13, a14, a15, a16, a17, a18, a19, a20⟩ := u2
  have hP : va_P D vwCl [(a0, .inr (2, rf_o2 a1 a4 a7 a10 a17 a18 a19 a20 rf_z)), (a1, .inr (0, rf_o0 a2 a3 rf_g0)), (a2, .inl (cA, 6, .inl rf_z)), (a3, .inl (cA, 6, .inl rf_z)), (a4, .inr (0, rf_o0 a5 a6 rf_g0)), (a5, .inl (cA, 6, .inl rf_z)), (a6, .inl (cA, 6, .inl rf_z)), (a7, .inr (0, rf_o0 a8 a9 rf_g0)), (a8, .inl (cA, 6, .inl rf_z)), (a9, .inl (cA, 6, .inl rf_z)), (a10, .inr (1, rf_o1 a11 a14 a15 a16 rf_z)), (a11, .inr (0, rf_o0 a12 a13 rf_g0)), (a12, .inl (cA, 6, .inl rf_z)), (a13, .inl (cA, 6, .inl rf_z)), (a14, .inl (cA, 5022, .inl rf_z)), (a15, .inl (cA, 9, .inl rf_z)), (a16, .inl (cA, 558, .inl rf_z)), (a17, .inl (cA, 96, .inl rf_z)), (a18, .inl (cA, 12, .inl rf_z)), (a19, .inl (cA, 12, .inl rf_z)), (a20, .inl (cA, 7, .inl rf_z))] H := hP
  have hD : va_D (fun q : Nat => s.heap.size ≤ q) [(a0, .inr (2, rf_o2 a1 a4 a7 a10 a17 a18 a19 a20 rf_z)), (a1, .inr (0, rf_o0 a2 a3 rf_g0)), (a2, .inl (cA, 6, .inl rf_z)), (a3, .inl (cA, 6, .inl rf_z)), (a4, .inr (0, rf_o0 a5 a6 rf_g0)), (a5, .inl (cA, 6, .inl rf_z)), (a6, .inl (cA, 6, .inl rf_z)), (a7, .inr (0, rf_o0 a8 a9 rf_g0)), (a8, .inl (cA, 6, .inl rf_z)), (a9, .inl (cA, 6, .inl rf_z)), (a10, .inr (1, rf_o1 a11 a14 a15 a16 rf_z)), (a11, .inr (0, rf_o0 a12 a13 rf_g0)), (a12, .inl (cA, 6, .inl rf_z)), (a13, .inl (cA, 6, .inl rf_z)), (a14, .inl (cA, 5022, .inl rf_z)), (a15, .inl (cA, 9, .inl rf_z)), (a16, .inl (cA, 558, .inl rf_z)), (a17, .inl (cA, 96, .inl rf_z)), (a18, .inl (cA, 12, .inl rf_z)), (a19, .inl (cA, 12, .inl rf_z)), (a20, .inl (cA, 7, .inl rf_z))] := hD
  refine W.widen (k := 21) (n := 5831) (Nat.le_of_ble_eq_true rfl) (Nat.le_of_ble_eq_true rfl) ?_
  refine lv_astore_n (lv' := [(1, .ref a0), (0, .ref b)]) hx hb dL_law_7 rfl hl (by decide) rfl (fun ls hl => ?_)
  refine lv_bipush (v := 40) hx hb dL_law_8 (by decide) ?_
  refine va_newa (atype := .int) (ty := .int) hx hb (hts (.arrayClass .int) (by decide +kernel)) rfl hK hP hD hS hA (n := 40) (N' := 40) (a0 := (40, .inl rf_z)) (fun _ => rfl) (by decide) (by decide) (Nat.le_of_ble_eq_true rfl) (Nat.le_of_ble_eq_true rfl) (Nat.le_of_ble_eq_true rfl) dL_law_10 (fun a21 cA9 H hK9 hP hD hS => ?_)
  have e9 := rf_cA hK9
  clear hK9
  subst e9
  have hP : va_P D vwCl [(a0, .inr (2, rf_o2 a1 a4 a7 a10 a17 a18 a19 a20 rf_z)), (a1, .inr (0, rf_o0 a2 a3 rf_g0)), (a2, .inl (cA, 6, .inl rf_z)), (a3, .inl (cA, 6, .inl rf_z)), (a4, .inr (0, rf_o0 a5 a6 rf_g0)), (a5, .inl (cA, 6, .inl rf_z)), (a6, .inl (cA, 6, .inl rf_z)), (a7, .inr (0, rf_o0 a8 a9 rf_g0)), (a8, .inl (cA, 6, .inl rf_z)), (a9, .inl (cA, 6, .inl rf_z)), (a10, .inr (1, rf_o1 a11 a14 a15 a16 rf_z)), (a11, .inr (0, rf_o0 a12 a13 rf_g0)), (a12, .inl (cA, 6, .inl rf_z)), (a13, .inl (cA, 6, .inl rf_z)), (a14, .inl (cA, 5022, .inl rf_z)), (a15, .inl (cA, 9, .inl rf_z)), (a16, .inl (cA, 558, .inl rf_z)), (a17, .inl (cA, 96, .inl rf_z)), (a18, .inl (cA, 12, .inl rf_z)), (a19, .inl (cA, 12, .inl rf_z)), (a20, .inl (cA, 7, .inl rf_z)), (a21, .inl (cA, 40, .inl rf_z))] H := hP
  have hD : va_D (fun q : Nat => s.heap.size ≤ q) [(a0, .inr (2, rf_o2 a1 a4 a7 a10 a17 a18 a19 a20 rf_z)), (a1, .inr (0, rf_o0 a2 a3 rf_g0)), (a2, .inl (cA, 6, .inl rf_z)), (a3, .inl (cA, 6, .inl rf_z)), (a4, .inr (0, rf_o0 a5 a6 rf_g0)), (a5, .inl (cA, 6, .inl rf_z)), (a6, .inl (cA, 6, .inl rf_z)), (a7, .inr (0, rf_o0 a8 a9 rf_g0)), (a8, .inl (cA, 6, .inl rf_z)), (a9, .inl (cA, 6, .inl rf_z)), (a10, .inr (1, rf_o1 a11 a14 a15 a16 rf_z)), (a11, .inr (0, rf_o0 a12 a13 rf_g0)), (a12, .inl (cA, 6, .inl rf_z)), (a13, .inl (cA, 6, .inl rf_z)), (a14, .inl (cA, 5022, .inl rf_z)), (a15, .inl (cA, 9, .inl rf_z)), (a16, .inl (cA, 558, .inl rf_z)), (a17, .inl (cA, 96, .inl rf_z)), (a18, .inl (cA, 12, .inl rf_z)), (a19, .inl (cA, 12, .inl rf_z)), (a20, .inl (cA, 7, .inl rf_z)), (a21, .inl (cA, 40, .inl rf_z))] := hD
  refine W.widen (k := 22) (n := 5871) (Nat.le_of_ble_eq_true rfl) (Nat.le_of_ble_eq_true rfl) ?_
  refine lv_astore_n (lv' := [(2, .ref a21), (1, .ref a0), (0, .ref b)]) hx hb dL_law_12 rfl hl (by decide) rfl (fun ls hl => ?_)
  refine lv_aload_n hx hb dL_law_13 rfl (lv_at hl 1 rfl) ?_
  refine lv_aload_n hx hb dL_law_14 rfl (lv_at hl 0 rfl) ?_
  refine lv_aload_n hx hb dL_law_15 rfl (lv_at hl 2 rfl) ?_
  refine lv_iconst (v := 0) hx hb dL_law_16 (by decide) ?_
  rw [lz_rg, lz_rz] at hP hD
  have hP : va_P D vwCl (lz_w cA (fun k => ([a0, a1, a2, a3, a4, a5, a6, a7, a8, a9, a10, a11, a12, a13, a14, a15, a16, a17, a18, a19, a20, a21] : List Nat).getD k 0) (fun _ => 0) lz_g0 (fun _ => 0) (fun _ => 0) (fun _ => 0) (ra_nf lz_g0) (ra_nf (fun _ => 0)) (ra_nf (fun _ => 0)) (ra_nf lz_g0) (ra_nf (fun _ => 0)) (ra_nf (fun _ => 0)) (ra_nf (fun _ => 0)) (ra_nf lz_g0) (ra_nf (fun _ => 0)) (ra_nf (fun _ => 0)) (ra_nf (fun _ => 0)) (ra_nf (fun _ => 0)) (ra_nf (fun _ => 0)) (ra_nf (fun _ => 0)) (ra_nf (fun _ => 0)) (ra_nf (fun _ => 0)) (ra_nf (fun _ => 0))) H := hP
  have hD : va_D (fun q : Nat => s.heap.size ≤ q) (lz_w cA (fun k => ([a0, a1, a2, a3, a4, a5, a6, a7, a8, a9, a10, a11, a12, a13, a14, a15, a16, a17, a18, a19, a20, a21] : List Nat).getD k 0) (fun _ => 0) lz_g0 (fun _ => 0) (fun _ => 0) (fun _ => 0) (ra_nf lz_g0) (ra_nf (fun _ => 0)) (ra_nf (fun _ => 0)) (ra_nf lz_g0) (ra_nf (fun _ => 0)) (ra_nf (fun _ => 0)) (ra_nf (fun _ => 0)) (ra_nf lz_g0) (ra_nf (fun _ => 0)) (ra_nf (fun _ => 0)) (ra_nf (fun _ => 0)) (ra_nf (fun _ => 0)) (ra_nf (fun _ => 0)) (ra_nf (fun _ => 0)) (ra_nf (fun _ => 0)) (ra_nf (fun _ => 0)) (ra_nf (fun _ => 0))) := hD
  refine rh_Si (q := (fun k => ([a0, a1, a2, a3, a4, a5, a6, a7, a8, a9, a10, a11, a12, a13, a14, a15, a16, a17, a18, a19, a20, a21] : List Nat).getD k 0)) (r0 := 1) (As := [.ref a0, .ref a21, .ref b, .int 0]) (rest := []) ⟨hx, hb, hml, hown, hts⟩ hK hP hD hS hA hE hT hZ hR (c_L_hand l D cA ad (fun k => ([a0, a1, a2, a3, a4, a5, a6, a7, a8, a9, a10, a11, a12, a13, a14, a15, a16, a17, a18, a19, a20, a21] : List Nat).getD k 0) b L xs aS aV H.size (fun _ => 0) lz_g0 (fun _ => 0) (fun _ => 0) (fun _ => 0) (fun _ => 0) (ra_nf lz_g0) (ra_nf (fun _ => 0)) (ra_nf (fun _ => 0)) (ra_nf lz_g0) (ra_nf (fun _ => 0)) (ra_nf (fun _ => 0)) (ra_nf (fun _ => 0)) (ra_nf lz_g0) (ra_nf (fun _ => 0)) (ra_nf (fun _ => 0)) (ra_nf (fun _ => 0)) (ra_nf (fun _ => 0)) (ra_nf (fun _ => 0)) (ra_nf (fun _ => 0)) (ra_nf (fun _ => 0)) (ra_nf (fun _ => 0)) hL rfl (fun _ => Nat.zero_le _) lz_ok0 rfl (by decide)) (va_cwS 4 hts gL_law_L_hand rfl rfl rfl wh_L_hand ⟨Nat.le_of_ble_eq_true rfl, Nat.le_of_ble_eq_true rfl⟩) [0, 1, 2, 3, 4, 5, 6, 7, 8, 9, 10, 11, 12, 13, 14, 15, 16, 17, 18, 19, 20, 21] rfl rfl rfl rfl hl.1 (Nat.le_of_ble_eq_true rfl) dL_law_17 ⟨Nat.le_of_ble_eq_true rfl, Nat.le_of_ble_eq_true rfl⟩ (fun H locs hJ hS => ?_)
  refine lv_if_ne (tgt := 25) hx hb dL_law_20 (by decide) (fun _ => ?_) (fun c9 => absurd c9 (by decide))
  refine lv_bipush (v := 8) hx hb dL_law_25 (by decide) ?_
  refine lv_istore_n (lv' := [(3, .int 8), (2, .ref a21), (1, .ref a0), (0, .ref b)]) hx hb dL_law_27 rfl hl (by decide) rfl (fun ls hl => ?_)
  exact lz_loop hC (q := (fun k => ([a0, a1, a2, a3, a4, a5, a6, a7, a8, a9, a10, a11, a12, a13, a14, a15, a16, a17, a18, a19, a20, a21] : List Nat).getD k 0)) 26 8 (by omega) (by omega) H locs hJ hS ls (lv_sub hl [3, 2, 1, 0] rfl)
