/-! the law from its entry to its end -/
set_option maxHeartbeats 8000000 in
set_option maxRecDepth 100000 in
/-- the law's loop, at its head -/
theorem lz_loop {p : Program} {l : Launch} {e : Env} {s : State} {m : MethodId} {below : List Frame} {meth : Method} {c : Code} {b L : Nat} {xs : Nat → Int32} {D : va_G} {cA : ClassId} {ad : Nat → Nat} {A : Nat → Prop} (hC : lz_C p s m meth c b L xs D cA ad A) : ∀ (n i : Nat), i ≤ L → L + 1 ≤ i + n → ∀ (q : Nat → Nat) (H : Heap) (locs : List Loc), lz_I D cA A s.heap q H locs → ∀ (ls : Array Slot), lv_has ls 4 [(0, .ref b), (1, .ref (q 0)), (2, .ref (q 21)), (3, .int (nI i))] → W p l e room_1 s m #[Value.ref b] below meth c H locs 31 19723 (lw_Z below #[Value.ref b] s) (F0 m 18 ls []) := by
  have hC0 := hC
  obtain ⟨⟨hx, hb0, hr, hml, hown0, htl, hX, hbl, hlocks, hgv⟩, hL, hK, hE, hA, hbA, hA9⟩ := hC0
  have hb : c.code = cL_law := hb0
  intro n
  induction n with
  | zero =>
    intro i h1 h2
    exact absurd h2 (by omega)
  | succ n ih =>
    intro i hi hin q H locs hI ls hl
    have hI0 := hI
    obtain ⟨G, M, γ, κ, τ, lt, ρ, φ, b1, b2, b3, t1, t2, t3, s1, s2, s3, s4, s5, s6, s7, th, im, rd, mi, nu, C, -, -, hS, -⟩ := hI0
    refine lv_iload_n hx hb dL_law_18 rfl (lv_at hl 3 rfl) ?_
    refine lv_aload_n hx hb dL_law_19 rfl (lv_at hl 0 rfl) ?_
    refine va_slen hx hb hX hbl hbA hS dL_law_20 ?_
    refine lv_bipush (v := 6) hx hb dL_law_21 (by decide) ?_
    refine lv_isub hx hb dL_law_23 ?_
    refine lv_icmp_gt (tgt := 907) hx hb dL_law_24 (by decide) (fun c_10 => ?_) (fun c_10 => ?_)
    · refine lv_iconst (v := 1) hx hb dL_law_907 (by decide) ?_
      refine va_forget (fun q hq => hA9 _ (hS.2.2 q hq)) ?_
      exact lw_ret hx hb0 hr hlocks dL_law_908
    have h6 : i + 6 ≤ L := lz_gt hL hi c_10
    have hi0 : vp_in (nI i) L := vp_in_nI (by omega) (by omega)
    have kk : ∀ (H : Heap) (locs : List Loc), lz_I D cA A s.heap q H locs → W p l e room_1 s m #[Value.ref b] below meth c H locs 31 19723 (lw_Z below #[Value.ref b] s) (F0 m 901 ls []) := by
      intro H locs hI
      refine lv_iinc (v := nI (i + 6)) (lv' := [(3, .int (nI (i + 6))), (0, .ref b), (1, .ref (q 0)), (2, .ref (q 21))]) hx hb dL_law_901 hl (k := 3) rfl (by rw [← nI_add] <;> rfl) (by decide) rfl (fun ls hl => ?_)
      refine lv_goto (tgt := 18) hx hb dL_law_904 (by decide) ?_
      exact ih (i + 6) (by omega) (by omega) _ _ _ hI ls (lv_sub hl [1, 2, 3, 0] rfl)
    refine lv_aload_n hx hb dL_law_27 rfl (lv_at hl 0 rfl) ?_
    refine lv_iload_n hx hb dL_law_28 rfl (lv_at hl 3 rfl) ?_
    refine va_sld hx hb hX hbl hbA hS hi0 dL_law_29 ?_
    refine lv_bipush (v := 31) hx hb dL_law_30 (by decide) ?_
    refine lv_iand hx hb dL_law_32 ?_
    generalize xs (nI i).toNatClampNeg &&& 31 = x
    by_cases c0 : x = 0
    · refine rf_tabC (off := 131) (tgt := 164) hx hb dL_law_33 c0 (by decide) (by decide) (by decide) (by decide) ?_
      exact lz_k0 hC h6 hI hl kk
    by_cases c1 : x = 1
    · refine rf_tabC (off := 154) (tgt := 187) hx hb dL_law_33 c1 (by decide) (by decide) (by decide) (by decide) ?_
      exact lz_k1 hC h6 hI hl kk
    by_cases c2 : x = 2
    · refine rf_tabC (off := 167) (tgt := 200) hx hb dL_law_33 c2 (by decide) (by decide) (by decide) (by decide) ?_
      exact lz_k2 hC h6 hI hl kk
    by_cases c3 : x = 3
    · refine rf_tabC (off := 200) (tgt := 233) hx hb dL_law_33 c3 (by decide) (by decide) (by decide) (by decide) ?_
      exact lz_k3 hC h6 hI hl kk
    by_cases c4 : x = 4
    · refine rf_tabC (off := 233) (tgt := 266) hx hb dL_law_33 c4 (by decide) (by decide) (by decide) (by decide) ?_
      exact lz_k4 hC h6 hI hl kk
    by_cases c5 : x = 5
    · refine rf_tabC (off := 246) (tgt := 279) hx hb dL_law_33 c5 (by decide) (by decide) (by decide) (by decide) ?_
      exact lz_k5 hC h6 hI hl kk
    by_cases c6 : x = 6
    · refine rf_tabC (off := 279) (tgt := 312) hx hb dL_law_33 c6 (by decide) (by decide) (by decide) (by decide) ?_
      exact lz_k6 hC h6 hI hl kk
    by_cases c7 : x = 7
    · refine rf_tabC (off := 302) (tgt := 335) hx hb dL_law_33 c7 (by decide) (by decide) (by decide) (by decide) ?_
      exact lz_k7 hC h6 hI hl kk
    by_cases c8 : x = 8
    · refine rf_tabC (off := 325) (tgt := 358) hx hb dL_law_33 c8 (by decide) (by decide) (by decide) (by decide) ?_
      exact lz_k8 hC h6 hI hl kk
    by_cases c9 : x = 9
    · refine rf_tabC (off := 348) (tgt := 381) hx hb dL_law_33 c9 (by decide) (by decide) (by decide) (by decide) ?_
      exact lz_k9 hC h6 hI hl kk
    by_cases c10 : x = 10
    · refine rf_tabC (off := 361) (tgt := 394) hx hb dL_law_33 c10 (by decide) (by decide) (by decide) (by decide) ?_
      exact lz_k10 hC h6 hI hl kk
    by_cases c11 : x = 11
    · refine rf_tabC (off := 384) (tgt := 417) hx hb dL_law_33 c11 (by decide) (by decide) (by decide) (by decide) ?_
      exact lz_k11 hC h6 hI hl kk
    by_cases c12 : x = 12
    · refine rf_tabC (off := 397) (tgt := 430) hx hb dL_law_33 c12 (by decide) (by decide) (by decide) (by decide) ?_
      exact lz_k12 hC h6 hI hl kk
    by_cases c13 : x = 13
    · refine rf_tabC (off := 420) (tgt := 453) hx hb dL_law_33 c13 (by decide) (by decide) (by decide) (by decide) ?_
      exact lz_k13 hC h6 hI hl kk
    by_cases c14 : x = 14
    · refine rf_tabC (off := 443) (tgt := 476) hx hb dL_law_33 c14 (by decide) (by decide) (by decide) (by decide) ?_
      exact lz_k14 hC h6 hI hl kk
    by_cases c15 : x = 15
    · refine rf_tabC (off := 466) (tgt := 499) hx hb dL_law_33 c15 (by decide) (by decide) (by decide) (by decide) ?_
      exact lz_k15 hC h6 hI hl kk
    by_cases c16 : x = 16
    · refine rf_tabC (off := 489) (tgt := 522) hx hb dL_law_33 c16 (by decide) (by decide) (by decide) (by decide) ?_
      exact lz_k16 hC h6 hI hl kk
    by_cases c17 : x = 17
    · refine rf_tabC (off := 512) (tgt := 545) hx hb dL_law_33 c17 (by decide) (by decide) (by decide) (by decide) ?_
      exact lz_k17 hC h6 hI hl kk
    by_cases c18 : x = 18
    · refine rf_tabC (off := 535) (tgt := 568) hx hb dL_law_33 c18 (by decide) (by decide) (by decide) (by decide) ?_
      exact lz_k18 hC h6 hI hl kk
    by_cases c19 : x = 19
    · refine rf_tabC (off := 578) (tgt := 611) hx hb dL_law_33 c19 (by decide) (by decide) (by decide) (by decide) ?_
      exact lz_k19 hC h6 hI hl kk
    by_cases c20 : x = 20
    · refine rf_tabC (off := 641) (tgt := 674) hx hb dL_law_33 c20 (by decide) (by decide) (by decide) (by decide) ?_
      exact lz_k20 hC h6 hI hl kk
    by_cases c21 : x = 21
    · refine rf_tabC (off := 694) (tgt := 727) hx hb dL_law_33 c21 (by decide) (by decide) (by decide) (by decide) ?_
      exact lz_k21 hC h6 hI hl kk
    by_cases c22 : x = 22
    · refine rf_tabC (off := 727) (tgt := 760) hx hb dL_law_33 c22 (by decide) (by decide) (by decide) (by decide) ?_
      exact lz_k22 hC h6 hI hl kk
    by_cases c23 : x = 23
    · refine rf_tabC (off := 750) (tgt := 783) hx hb dL_law_33 c23 (by decide) (by decide) (by decide) (by decide) ?_
      exact lz_k23 hC h6 hI hl kk
    by_cases c24 : x = 24
    · refine rf_tabC (off := 773) (tgt := 806) hx hb dL_law_33 c24 (by decide) (by decide) (by decide) (by decide) ?_
      exact lz_k24 hC h6 hI hl kk
    by_cases c25 : x = 25
    · refine rf_tabC (off := 786) (tgt := 819) hx hb dL_law_33 c25 (by decide) (by decide) (by decide) (by decide) ?_
      exact lz_k25 hC h6 hI hl kk
    by_cases c26 : x = 26
    · refine rf_tabC (off := 819) (tgt := 852) hx hb dL_law_33 c26 (by decide) (by decide) (by decide) (by decide) ?_
      exact lz_k26 hC h6 hI hl kk
    by_cases c27 : x = 27
    · refine rf_tabC (off := 832) (tgt := 865) hx hb dL_law_33 c27 (by decide) (by decide) (by decide) (by decide) ?_
      exact lz_k27 hC h6 hI hl kk
    by_cases c28 : x = 28
    · refine rf_tabC (off := 845) (tgt := 878) hx hb dL_law_33 c28 (by decide) (by decide) (by decide) (by decide) ?_
      exact lz_k28 hC h6 hI hl kk
    refine rf_tabD (tgt := 901) (ks := [0, 1, 2, 3, 4, 5, 6, 7, 8, 9, 10, 11, 12, 13, 14, 15, 16, 17, 18, 19, 20, 21, 22, 23, 24, 25, 26, 27, 28]) hx hb dL_law_33 ?_ (by decide +kernel) (by decide) (kk _ _ hI)
    simp only [List.forall_mem_cons]
    exact ⟨c0, c1, c2, c3, c4, c5, c6, c7, c8, c9, c10, c11, c12, c13, c14, c15, c16, c17, c18, c19, c20, c21, c22, c23, c24, c25, c26, c27, c28, fun _ h => absurd h List.not_mem_nil⟩
set_option maxHeartbeats 8000000 in
set_option maxRecDepth 100000 in
/-- the law, from its entry -/
theorem whole_start {p : Program} {e : Env} {s : State} {m : MethodId} {below : List Frame} {meth : Method} {c : Code} (l : Launch) (hflags : l.flags = flags0) {b L : Nat} {xs : Nat → Int32} (hL : L ≤ 3072) (C0 : lw_At p s m meth c b L xs) : W p l e room_1 s m #[Value.ref b] below meth c s.heap [] 0 0 (lw_Z below #[Value.ref b] s) (entryFrame m ([Value.ref b] : List Value).toArray 4) := by
  have hC0 := C0
  obtain ⟨hx, hb0, hr, hml, hown0, htl, hX, hbl, hlocks, hgv⟩ := hC0
  have hb : c.code = cL_law := hb0
  have hown : s.vm.findClass RL = some m.cls := hown0
  have hts : ∀ w ∈ wsL_law, w.before #[Value.ref b] s = true := fun w hw => htl w (wsL_law_in w hw)
  obtain ⟨ad, hE⟩ := lz_EV htl hgv
  obtain ⟨D, cA, hK⟩ := lz_K htl
  have hA : ∀ q : Nat, s.heap.size ≤ q → (fun q : Nat => s.heap.size ≤ q) q := fun _ h => h
  have hC : lz_C p s m meth c b L xs D cA ad (fun q : Nat => s.heap.size ≤ q) := ⟨C0, hL, hK, hE, hA, Nat.not_le.mpr hbl, fun _ h => h⟩
  have hS : va_S (fun q : Nat => s.heap.size ≤ q) s.heap s.heap [] := va_S.rf
  have hP : va_P D vwCl [] s.heap := fun k q h => by simp at h
  have hD : va_D (fun q : Nat => s.heap.size ≤ q) [] := ⟨fun i j p q h => by simp at h, fun k q h => by simp at h⟩
  have hl := lv_entry ([.ref b]) (n := 4) (Nat.le_of_ble_eq_true rfl)
  rw [lg_entry_eq]
  generalize (lg_sl ([.ref b]) ++ List.replicate (4 - (lg_sl ([.ref b])).length) Slot.unset).toArray = ls at hl ⊢
  have hl : lv_has ls 4 [(0, .ref b)] := hl
  refine va_new (ci := 2) (fs := [.null, .null, .null, .null, .null, .null, .null, .null, .int 0, .int 0, .int 0, .int 0]) (C := RX2) (T := TX2) (N := 12) hx hb hts inlX2 tyX2 tyX2_ok hown (hts (.classLink RL 7 RX2) (by decide +kernel)) (hts (.instantiable RX2 12) (by decide +kernel)) (hts (.initialized RX2) (by decide +kernel)) hK hP hD hS hA rfl (fun j hj => by rcases (show j = 0 ∨ j = 1 ∨ j = 2 ∨ j = 3 ∨ j = 4 ∨ j = 5 ∨ j = 6 ∨ j = 7 ∨ j = 8 ∨ j = 9 ∨ j = 10 ∨ j = 11 by omega) with rfl | rfl | rfl | rfl | rfl | rfl | rfl | rfl | rfl | rfl | rfl | rfl <;> rfl) (Nat.le_of_ble_eq_true rfl) (Nat.le_of_ble_eq_true rfl) dL_law_0 (fun a0 H hP hD hS => ?_)
  have hP : va_P D vwCl [(a0, .inr (2, [.null, .null, .null, .null, .null, .null, .null, .null, .int 0, .int 0, .int 0, .int 0]))] H := hP
  have hD : va_D (fun q : Nat => s.heap.size ≤ q) [(a0, .inr (2, [.null, .null, .null, .null, .null, .null, .null, .null, .int 0, .int 0, .int 0, .int 0]))] := hD
  refine W.widen (k := 1) (n := 12) (Nat.le_of_ble_eq_true rfl) (Nat.le_of_ble_eq_true rfl) ?_
  refine lv_dup hx hb dL_law_3 rfl ?_
  refine rf_I (As := []) (rest := [.ref a0]) (wr := []) ⟨hx, hb, hml, hown, hts⟩ hK hP hD hS hA hE (c_X2_init l D cA ad a0 H.size) (cwI 0 hts gL_law_X2_init rfl rfl rfl (hts (.initialized RX2) (by decide +kernel)) (hts (.methodLink RL 9 yX2_init) (by decide +kernel)) (hts (.instanceMethod yX2_init) (by decide +kernel)) rfl n0_X2_init ⟨Nat.le_of_ble_eq_true rfl, Nat.le_of_ble_eq_true rfl⟩) [0] [] rfl rfl rfl rfl (by decide) rfl rfl hl.1 (Nat.le_of_ble_eq_true rfl) dL_law_4 ⟨Nat.le_of_ble_eq_true rfl, Nat.le_of_ble_eq_true rfl⟩ (fun u2 H locs hP hD hS => ?_)
  obtain ⟨a1, a2, a3, a4, a5, a6, a7, a8, a9, a10, a11, a12, a13, a14, a15, a16, a17, a18, a19, a20⟩ := u2
  have hP : va_P D vwCl [(a0, .inr (2, rf_o2 a1 a4 a7 a10 a17 a18 a19 a20 rf_z)), (a1, .inr (0, rf_o0 a2 a3 rf_g0)), (a2, .inl (cA, 6, .inl rf_z)), (a3, .inl (cA, 6, .inl rf_z)), (a4, .inr (0, rf_o0 a5 a6 rf_g0)), (a5, .inl (cA, 6, .inl rf_z)), (a6, .inl (cA, 6, .inl rf_z)), (a7, .inr (0, rf_o0 a8 a9 rf_g0)), (a8, .inl (cA, 6, .inl rf_z)), (a9, .inl (cA, 6, .inl rf_z)), (a10, .inr (1, rf_o1 a11 a14 a15 a16 rf_z)), (a11, .inr (0, rf_o0 a12 a13 rf_g0)), (a12, .inl (cA, 6, .inl rf_z)), (a13, .inl (cA, 6, .inl rf_z)), (a14, .inl (cA, 5022, .inl rf_z)), (a15, .inl (cA, 9, .inl rf_z)), (a16, .inl (cA, 558, .inl rf_z)), (a17, .inl (cA, 96, .inl rf_z)), (a18, .inl (cA, 12, .inl rf_z)), (a19, .inl (cA, 12, .inl rf_z)), (a20, .inl (cA, 7, .inl rf_z))] H := hP
  have hD : va_D (fun q : Nat => s.heap.size ≤ q) [(a0, .inr (2, rf_o2 a1 a4 a7 a10 a17 a18 a19 a20 rf_z)), (a1, .inr (0, rf_o0 a2 a3 rf_g0)), (a2, .inl (cA, 6, .inl rf_z)), (a3, .inl (cA, 6, .inl rf_z)), (a4, .inr (0, rf_o0 a5 a6 rf_g0)), (a5, .inl (cA, 6, .inl rf_z)), (a6, .inl (cA, 6, .inl rf_z)), (a7, .inr (0, rf_o0 a8 a9 rf_g0)), (a8, .inl (cA, 6, .inl rf_z)), (a9, .inl (cA, 6, .inl rf_z)), (a10, .inr (1, rf_o1 a11 a14 a15 a16 rf_z)), (a11, .inr (0, rf_o0 a12 a13 rf_g0)), (a12, .inl (cA, 6, .inl rf_z)), (a13, .inl (cA, 6, .inl rf_z)), (a14, .inl (cA, 5022, .inl rf_z)), (a15, .inl (cA, 9, .inl rf_z)), (a16, .inl (cA, 558, .inl rf_z)), (a17, .inl (cA, 96, .inl rf_z)), (a18, .inl (cA, 12, .inl rf_z)), (a19, .inl (cA, 12, .inl rf_z)), (a20, .inl (cA, 7, .inl rf_z))] := hD
  refine W.widen (k := 21) (n := 5831) (Nat.le_of_ble_eq_true rfl) (Nat.le_of_ble_eq_true rfl) ?_
  refine lv_astore_n (lv' := [(1, .ref a0), (0, .ref b)]) hx hb dL_law_7 rfl hl (by decide) rfl (fun ls hl => ?_)
  refine va_new (ci := 3) (fs := [.null, .null, .null, .null, .int 0, .null, .null, .null, .int 0, .int 0, .int 0, .null, .null, .int 0, .int 0, .int 0]) (C := RX3) (T := TX3) (N := 16) hx hb hts inlX3 tyX3 tyX3_ok hown (hts (.classLink RL 10 RX3) (by decide +kernel)) (hts (.instantiable RX3 16) (by decide +kernel)) (hts (.initialized RX3) (by decide +kernel)) hK hP hD hS hA rfl (fun j hj => by rcases (show j = 0 ∨ j = 1 ∨ j = 2 ∨ j = 3 ∨ j = 4 ∨ j = 5 ∨ j = 6 ∨ j = 7 ∨ j = 8 ∨ j = 9 ∨ j = 10 ∨ j = 11 ∨ j = 12 ∨ j = 13 ∨ j = 14 ∨ j = 15 by omega) with rfl | rfl | rfl | rfl | rfl | rfl | rfl | rfl | rfl | rfl | rfl | rfl | rfl | rfl | rfl | rfl <;> rfl) (Nat.le_of_ble_eq_true rfl) (Nat.le_of_ble_eq_true rfl) dL_law_8 (fun a21 H hP hD hS => ?_)
  have hP : va_P D vwCl [(a0, .inr (2, rf_o2 a1 a4 a7 a10 a17 a18 a19 a20 rf_z)), (a1, .inr (0, rf_o0 a2 a3 rf_g0)), (a2, .inl (cA, 6, .inl rf_z)), (a3, .inl (cA, 6, .inl rf_z)), (a4, .inr (0, rf_o0 a5 a6 rf_g0)), (a5, .inl (cA, 6, .inl rf_z)), (a6, .inl (cA, 6, .inl rf_z)), (a7, .inr (0, rf_o0 a8 a9 rf_g0)), (a8, .inl (cA, 6, .inl rf_z)), (a9, .inl (cA, 6, .inl rf_z)), (a10, .inr (1, rf_o1 a11 a14 a15 a16 rf_z)), (a11, .inr (0, rf_o0 a12 a13 rf_g0)), (a12, .inl (cA, 6, .inl rf_z)), (a13, .inl (cA, 6, .inl rf_z)), (a14, .inl (cA, 5022, .inl rf_z)), (a15, .inl (cA, 9, .inl rf_z)), (a16, .inl (cA, 558, .inl rf_z)), (a17, .inl (cA, 96, .inl rf_z)), (a18, .inl (cA, 12, .inl rf_z)), (a19, .inl (cA, 12, .inl rf_z)), (a20, .inl (cA, 7, .inl rf_z)), (a21, .inr (3, [.null, .null, .null, .null, .int 0, .null, .null, .null, .int 0, .int 0, .int 0, .null, .null, .int 0, .int 0, .int 0]))] H := hP
  have hD : va_D (fun q : Nat => s.heap.size ≤ q) [(a0, .inr (2, rf_o2 a1 a4 a7 a10 a17 a18 a19 a20 rf_z)), (a1, .inr (0, rf_o0 a2 a3 rf_g0)), (a2, .inl (cA, 6, .inl rf_z)), (a3, .inl (cA, 6, .inl rf_z)), (a4, .inr (0, rf_o0 a5 a6 rf_g0)), (a5, .inl (cA, 6, .inl rf_z)), (a6, .inl (cA, 6, .inl rf_z)), (a7, .inr (0, rf_o0 a8 a9 rf_g0)), (a8, .inl (cA, 6, .inl rf_z)), (a9, .inl (cA, 6, .inl rf_z)), (a10, .inr (1, rf_o1 a11 a14 a15 a16 rf_z)), (a11, .inr (0, rf_o0 a12 a13 rf_g0)), (a12, .inl (cA, 6, .inl rf_z)), (a13, .inl (cA, 6, .inl rf_z)), (a14, .inl (cA, 5022, .inl rf_z)), (a15, .inl (cA, 9, .inl rf_z)), (a16, .inl (cA, 558, .inl rf_z)), (a17, .inl (cA, 96, .inl rf_z)), (a18, .inl (cA, 12, .inl rf_z)), (a19, .inl (cA, 12, .inl rf_z)), (a20, .inl (cA, 7, .inl rf_z)), (a21, .inr (3, [.null, .null, .null, .null, .int 0, .null, .null, .null, .int 0, .int 0, .int 0, .null, .null, .int 0, .int 0, .int 0]))] := hD
  refine W.widen (k := 22) (n := 5847) (Nat.le_of_ble_eq_true rfl) (Nat.le_of_ble_eq_true rfl) ?_
  refine lv_dup hx hb dL_law_11 rfl ?_
  refine rf_I (As := []) (rest := [.ref a21]) (wr := [(a0, .inr (2, rf_o2 a1 a4 a7 a10 a17 a18 a19 a20 rf_z)), (a1, .inr (0, rf_o0 a2 a3 rf_g0)), (a2, .inl (cA, 6, .inl rf_z)), (a3, .inl (cA, 6, .inl rf_z)), (a4, .inr (0, rf_o0 a5 a6 rf_g0)), (a5, .inl (cA, 6, .inl rf_z)), (a6, .inl (cA, 6, .inl rf_z)), (a7, .inr (0, rf_o0 a8 a9 rf_g0)), (a8, .inl (cA, 6, .inl rf_z)), (a9, .inl (cA, 6, .inl rf_z)), (a10, .inr (1, rf_o1 a11 a14 a15 a16 rf_z)), (a11, .inr (0, rf_o0 a12 a13 rf_g0)), (a12, .inl (cA, 6, .inl rf_z)), (a13, .inl (cA, 6, .inl rf_z)), (a14, .inl (cA, 5022, .inl rf_z)), (a15, .inl (cA, 9, .inl rf_z)), (a16, .inl (cA, 558, .inl rf_z)), (a17, .inl (cA, 96, .inl rf_z)), (a18, .inl (cA, 12, .inl rf_z)), (a19, .inl (cA, 12, .inl rf_z)), (a20, .inl (cA, 7, .inl rf_z))]) ⟨hx, hb, hml, hown, hts⟩ hK hP hD hS hA hE (c_X3_init l D cA ad a21 H.size) (cwI 0 hts gL_law_X3_init rfl rfl rfl (hts (.initialized RX3) (by decide +kernel)) (hts (.methodLink RL 12 yX3_init) (by decide +kernel)) (hts (.instanceMethod yX3_init) (by decide +kernel)) rfl n0_X3_init ⟨Nat.le_of_ble_eq_true rfl, Nat.le_of_ble_eq_true rfl⟩) [21] [0, 1, 2, 3, 4, 5, 6, 7, 8, 9, 10, 11, 12, 13, 14, 15, 16, 17, 18, 19, 20] rfl rfl rfl rfl (by decide) rfl rfl hl.1 (Nat.le_of_ble_eq_true rfl) dL_law_12 ⟨Nat.le_of_ble_eq_true rfl, Nat.le_of_ble_eq_true rfl⟩ (fun u3 H locs hP hD hS => ?_)
  obtain ⟨a22, a23, a24, a25, a26, a27, a28, a29, a30⟩ := u3
  have hP : va_P D vwCl [(a0, .inr (2, rf_o2 a1 a4 a7 a10 a17 a18 a19 a20 rf_z)), (a1, .inr (0, rf_o0 a2 a3 rf_g0)), (a2, .inl (cA, 6, .inl rf_z)), (a3, .inl (cA, 6, .inl rf_z)), (a4, .inr (0, rf_o0 a5 a6 rf_g0)), (a5, .inl (cA, 6, .inl rf_z)), (a6, .inl (cA, 6, .inl rf_z)), (a7, .inr (0, rf_o0 a8 a9 rf_g0)), (a8, .inl (cA, 6, .inl rf_z)), (a9, .inl (cA, 6, .inl rf_z)), (a10, .inr (1, rf_o1 a11 a14 a15 a16 rf_z)), (a11, .inr (0, rf_o0 a12 a13 rf_g0)), (a12, .inl (cA, 6, .inl rf_z)), (a13, .inl (cA, 6, .inl rf_z)), (a14, .inl (cA, 5022, .inl rf_z)), (a15, .inl (cA, 9, .inl rf_z)), (a16, .inl (cA, 558, .inl rf_z)), (a17, .inl (cA, 96, .inl rf_z)), (a18, .inl (cA, 12, .inl rf_z)), (a19, .inl (cA, 12, .inl rf_z)), (a20, .inl (cA, 7, .inl rf_z)), (a21, .inr (3, rf_o3 a22 a23 a24 a25 a26 a27 a28 a29 a30 rf_z)), (a22, .inl (cA, 22, .inl rf_g0)), (a23, .inl (cA, 22, .inl rf_z)), (a24, .inl (cA, 22, .inl rf_z)), (a25, .inl (cA, 22, .inl rf_z)), (a26, .inl (cA, 96, .inl rf_z)), (a27, .inl (cA, 12, .inl rf_z)), (a28, .inl (cA, 7, .inl rf_z)), (a29, .inl (cA, 2, .inl rf_z)), (a30, .inl (cA, 13671, .inl rf_z))] H := hP
  have hD : va_D (fun q : Nat => s.heap.size ≤ q) [(a0, .inr (2, rf_o2 a1 a4 a7 a10 a17 a18 a19 a20 rf_z)), (a1, .inr (0, rf_o0 a2 a3 rf_g0)), (a2, .inl (cA, 6, .inl rf_z)), (a3, .inl (cA, 6, .inl rf_z)), (a4, .inr (0, rf_o0 a5 a6 rf_g0)), (a5, .inl (cA, 6, .inl rf_z)), (a6, .inl (cA, 6, .inl rf_z)), (a7, .inr (0, rf_o0 a8 a9 rf_g0)), (a8, .inl (cA, 6, .inl rf_z)), (a9, .inl (cA, 6, .inl rf_z)), (a10, .inr (1, rf_o1 a11 a14 a15 a16 rf_z)), (a11, .inr (0, rf_o0 a12 a13 rf_g0)), (a12, .inl (cA, 6, .inl rf_z)), (a13, .inl (cA, 6, .inl rf_z)), (a14, .inl (cA, 5022, .inl rf_z)), (a15, .inl (cA, 9, .inl rf_z)), (a16, .inl (cA, 558, .inl rf_z)), (a17, .inl (cA, 96, .inl rf_z)), (a18, .inl (cA, 12, .inl rf_z)), (a19, .inl (cA, 12, .inl rf_z)), (a20, .inl (cA, 7, .inl rf_z)), (a21, .inr (3, rf_o3 a22 a23 a24 a25 a26 a27 a28 a29 a30 rf_z)), (a22, .inl (cA, 22, .inl rf_g0)), (a23, .inl (cA, 22, .inl rf_z)), (a24, .inl (cA, 22, .inl rf_z)), (a25, .inl (cA, 22, .inl rf_z)), (a26, .inl (cA, 96, .inl rf_z)), (a27, .inl (cA, 12, .inl rf_z)), (a28, .inl (cA, 7, .inl rf_z)), (a29, .inl (cA, 2, .inl rf_z)), (a30, .inl (cA, 13671, .inl rf_z))] := hD
  refine W.widen (k := 31) (n := 19723) (Nat.le_of_ble_eq_true rfl) (Nat.le_of_ble_eq_true rfl) ?_
  refine lv_astore_n (lv' := [(2, .ref a21), (1, .ref a0), (0, .ref b)]) hx hb dL_law_15 rfl hl (by decide) rfl (fun ls hl => ?_)
  refine lv_iconst (v := 0) hx hb dL_law_16 (by decide) ?_
  refine lv_istore_n (lv' := [(3, .int 0), (2, .ref a21), (1, .ref a0), (0, .ref b)]) hx hb dL_law_17 rfl hl (by decide) rfl (fun ls hl => ?_)
  rw [lz_rg, lz_rz] at hP hD
  obtain ⟨hP, hD⟩ := rf_arrx hP hD 22 rfl (ra_st lz_g0 (fun _ => 0) (fun _ => 0)) lz_rs
  have hP : va_P D vwCl [(a0, .inr (2, rf_o2 a1 a4 a7 a10 a17 a18 a19 a20 (ra_nf (fun _ => 0)))), (a1, .inr (0, rf_o0 a2 a3 (ra_nf lz_g0))), (a2, .inl (cA, 6, .inl (ra_nf (fun _ => 0)))), (a3, .inl (cA, 6, .inl (ra_nf (fun _ => 0)))), (a4, .inr (0, rf_o0 a5 a6 (ra_nf lz_g0))), (a5, .inl (cA, 6, .inl (ra_nf (fun _ => 0)))), (a6, .inl (cA, 6, .inl (ra_nf (fun _ => 0)))), (a7, .inr (0, rf_o0 a8 a9 (ra_nf lz_g0))), (a8, .inl (cA, 6, .inl (ra_nf (fun _ => 0)))), (a9, .inl (cA, 6, .inl (ra_nf (fun _ => 0)))), (a10, .inr (1, rf_o1 a11 a14 a15 a16 (ra_nf (fun _ => 0)))), (a11, .inr (0, rf_o0 a12 a13 (ra_nf lz_g0))), (a12, .inl (cA, 6, .inl (ra_nf (fun _ => 0)))), (a13, .inl (cA, 6, .inl (ra_nf (fun _ => 0)))), (a14, .inl (cA, 5022, .inl (ra_nf (fun _ => 0)))), (a15, .inl (cA, 9, .inl (ra_nf (fun _ => 0)))), (a16, .inl (cA, 558, .inl (ra_nf (fun _ => 0)))), (a17, .inl (cA, 96, .inl (ra_nf (fun _ => 0)))), (a18, .inl (cA, 12, .inl (ra_nf (fun _ => 0)))), (a19, .inl (cA, 12, .inl (ra_nf (fun _ => 0)))), (a20, .inl (cA, 7, .inl (ra_nf (fun _ => 0)))), (a21, .inr (3, rf_o3 a22 a23 a24 a25 a26 a27 a28 a29 a30 (ra_nf (fun _ => 0)))), (a22, .inl (cA, 22, .inl (ra_st lz_g0 (fun _ => 0) (fun _ => 0)))), (a23, .inl (cA, 22, .inl (ra_nf (fun _ => 0)))), (a24, .inl (cA, 22, .inl (ra_nf (fun _ => 0)))), (a25, .inl (cA, 22, .inl (ra_nf (fun _ => 0)))), (a26, .inl (cA, 96, .inl (ra_nf (fun _ => 0)))), (a27, .inl (cA, 12, .inl (ra_nf (fun _ => 0)))), (a28, .inl (cA, 7, .inl (ra_nf (fun _ => 0)))), (a29, .inl (cA, 2, .inl (ra_nf (fun _ => 0)))), (a30, .inl (cA, 13671, .inl (ra_nf (fun _ => 0))))] H := hP
  have hD : va_D (fun q : Nat => s.heap.size ≤ q) [(a0, .inr (2, rf_o2 a1 a4 a7 a10 a17 a18 a19 a20 (ra_nf (fun _ => 0)))), (a1, .inr (0, rf_o0 a2 a3 (ra_nf lz_g0))), (a2, .inl (cA, 6, .inl (ra_nf (fun _ => 0)))), (a3, .inl (cA, 6, .inl (ra_nf (fun _ => 0)))), (a4, .inr (0, rf_o0 a5 a6 (ra_nf lz_g0))), (a5, .inl (cA, 6, .inl (ra_nf (fun _ => 0)))), (a6, .inl (cA, 6, .inl (ra_nf (fun _ => 0)))), (a7, .inr (0, rf_o0 a8 a9 (ra_nf lz_g0))), (a8, .inl (cA, 6, .inl (ra_nf (fun _ => 0)))), (a9, .inl (cA, 6, .inl (ra_nf (fun _ => 0)))), (a10, .inr (1, rf_o1 a11 a14 a15 a16 (ra_nf (fun _ => 0)))), (a11, .inr (0, rf_o0 a12 a13 (ra_nf lz_g0))), (a12, .inl (cA, 6, .inl (ra_nf (fun _ => 0)))), (a13, .inl (cA, 6, .inl (ra_nf (fun _ => 0)))), (a14, .inl (cA, 5022, .inl (ra_nf (fun _ => 0)))), (a15, .inl (cA, 9, .inl (ra_nf (fun _ => 0)))), (a16, .inl (cA, 558, .inl (ra_nf (fun _ => 0)))), (a17, .inl (cA, 96, .inl (ra_nf (fun _ => 0)))), (a18, .inl (cA, 12, .inl (ra_nf (fun _ => 0)))), (a19, .inl (cA, 12, .inl (ra_nf (fun _ => 0)))), (a20, .inl (cA, 7, .inl (ra_nf (fun _ => 0)))), (a21, .inr (3, rf_o3 a22 a23 a24 a25 a26 a27 a28 a29 a30 (ra_nf (fun _ => 0)))), (a22, .inl (cA, 22, .inl (ra_st lz_g0 (fun _ => 0) (fun _ => 0)))), (a23, .inl (cA, 22, .inl (ra_nf (fun _ => 0)))), (a24, .inl (cA, 22, .inl (ra_nf (fun _ => 0)))), (a25, .inl (cA, 22, .inl (ra_nf (fun _ => 0)))), (a26, .inl (cA, 96, .inl (ra_nf (fun _ => 0)))), (a27, .inl (cA, 12, .inl (ra_nf (fun _ => 0)))), (a28, .inl (cA, 7, .inl (ra_nf (fun _ => 0)))), (a29, .inl (cA, 2, .inl (ra_nf (fun _ => 0)))), (a30, .inl (cA, 13671, .inl (ra_nf (fun _ => 0))))] := hD
  exact lz_loop hC (L + 1) 0 (Nat.zero_le L) (by omega) (fun k => ([a0, a1, a2, a3, a4, a5, a6, a7, a8, a9, a10, a11, a12, a13, a14, a15, a16, a17, a18, a19, a20, a21, a22, a23, a24, a25, a26, a27, a28, a29, a30] : List Nat).getD k 0) _ _ ⟨(fun _ => 0), (fun _ => 0), lz_g0, (fun _ => 0), (fun _ => 0), (fun _ => 0), (fun _ => 0), (fun _ => 0), (ra_nf lz_g0), (ra_nf (fun _ => 0)), (ra_nf (fun _ => 0)), (ra_nf lz_g0), (ra_nf (fun _ => 0)), (ra_nf (fun _ => 0)), (ra_nf (fun _ => 0)), (ra_nf lz_g0), (ra_nf (fun _ => 0)), (ra_nf (fun _ => 0)), (ra_nf (fun _ => 0)), (ra_nf (fun _ => 0)), (ra_nf (fun _ => 0)), (ra_nf (fun _ => 0)), (ra_nf (fun _ => 0)), (ra_nf (fun _ => 0)), (ra_nf (fun _ => 0)), (ra_nf (fun _ => 0)), (ra_nf (fun _ => 0)), hP, hD, hS, lz_F0 _ _ _ _⟩ ls (lv_sub hl [3, 2, 1, 0] rfl)
set_option maxHeartbeats 4000000 in
theorem lw_walk (l : Launch) (hflags : l.flags = flags0) (b : Addr) (xs : List Int32) : MetFree l x (headSpec (Jvm.Cond.code x code maxLocals ret :: tables_1) room_1) (lw_P b xs) (fun _ _ _ _ _ => True) lw_Q := by
  refine MetFree.of_bodyS (code := code) (maxLocals := maxLocals) (ret := ret) (by decide) ?_ ?_
  · intro args s m h hn
    obtain ⟨meth, c, h1, h2, h3, h4, h5, h6, -, -⟩ := Cond.code_spec hn (atoms_spec (ws := Jvm.Cond.code x code maxLocals ret :: tables_1) h _ List.mem_cons_self)
    exact ⟨meth, c, h1, h2, h3, h4, h5, h6⟩
  · intro p e s m args below meth c s₁ B hml0 hP _
    obtain ⟨rfl, hx, hbd, hgv⟩ := hP
    obtain ⟨scr, harrAt, hlist, hof, hsmall⟩ := hx
    obtain ⟨hcb, hkn, -, -⟩ := State.arrayAt?_spec harrAt
    have hown : s.vm.findClass R_law = some m.cls := findClass_of_methodNamed B.named
    have hts0 : ∀ c ∈ (Jvm.Cond.code x code maxLocals ret :: tables_1), c.before #[Value.ref b] s = true := atoms_spec (ws := Jvm.Cond.code x code maxLocals ret :: tables_1) B.pre
    have hts : ∀ w ∈ lw_tbl, w.before #[Value.ref b] s = true := k2_hts_sels lw_privs (fun w hw => hts0 w (List.mem_cons_of_mem _ hw)) lw_privs_ok
    have hml : c.maxLocals = 4 := B.maxLocals_eq (hts0 _ List.mem_cons_self)
    have X₀ : Stand p l e room_1 s m #[Value.ref b] below meth c s₁ [] 0 0 := Stand.of_body B
    have hh0 : s₁.heap = s.heap := by rw [B.state]; rfl
    have hsz : scr.slots.size = xs.length := by rw [← Array.length_toList, hlist, List.length_map]
    have hval : ∀ j : Nat, j < xs.length → scr.slots[j]? = some (.int (xs.getD j 0)) := fun j hj => by
      rw [← Array.getElem?_toList, hlist]
      simp [hj]
    have hbl : b < s.heap.size := (Array.getElem?_eq_some_iff.mp hcb).1
    have hX : va_X b xs.length (fun j => xs.getD j 0) s s.heap := ⟨scr, hcb, hof, hkn, hsz, hval⟩
    have K : W p l e room_1 s m #[Value.ref b] below meth c s₁.heap [] 0 0 (lw_Z below #[Value.ref b] s) (entryFrame m ([Value.ref b] : List Value).toArray 4) := by
      rw [hh0]
      exact whole_start l hflags hbd ⟨B.exec, B.bytes, B.returns, hml, hown, hts, hX, hbl, B.notSynchronized, hgv⟩
    obtain ⟨t, a1, o, b1, b2, b3⟩ := K s₁ rfl X₀
    exact ⟨t, o, a1, b1, b2, b3⟩
theorem lw_pre_spec {args : Array Value} {s : State} (h : (Jvm.Cond.and given_1 narrow_1).before args s = true) (hr : rest_1_c.before args s = true) : ∃ (b : Addr) (xs : List Int32), lw_P b xs args s := by
  have hs := flat_of_before _ h
  have hq := flat_of_before _ hr
  have hc : (Cond.count 1).before args s = true := hs _ (by decide +kernel)
  have harr : (Cond.arrayOf (.arg 0) .int).before args s = true := hs _ (by decide +kernel)
  have hle : (Cond.le (.length (.arg 0)) (.int 3072)).before args s = true := hs _ (by decide +kernel)
  have hlen : (Cond.isInt (.length (.arg 0))).before args s = true := hq _ (by decide +kernel)
  have hall : (Cond.all (.arg 0) (.isInt (.elem (.arg 0) (.index 0)))).before args s = true := hq _ (by decide +kernel)
  obtain ⟨b, xs, hb, hx⟩ := State.ints_of_pre rfl harr hlen hall
  have hsm : xs.length < 2 ^ 31 := hx.choose_spec.2.2.2
  have hev : (Term.length (.arg 0)).eval args s none [] s = some (.int xs.length.toInt32) := hx.length_eval hb
  have hv := Cond.le_ints hev (show (Term.int 3072).eval args s none [] s = some (.int 3072) from rfl)
  have hd : xs.length.toInt32 ≤ 3072 := by
    simpa [Cond.before, Cond.holds, hv] using hle
  have hN : xs.length ≤ 3072 := (Int32.ofNat_le_ofNat hsm (by decide)).mp (show Int32.ofNat xs.length ≤ Int32.ofNat 3072 from hd)
  exact ⟨b, xs, Cond.one_arg hc (show args[0]? = some (.ref b) from hb), hx, hN, h⟩
theorem lw_comes (l : Launch) (hflags : l.flags = flags0) : Comes l x (Jvm.Cond.code x code maxLocals ret :: tables_1) room_1 (fun tb e args s => Calls_1 tb e args s ∧ rest_1 tb e args s ∧ Pre_1 tb e args s)
    (fun _ _ args s o t => lw_Q args s o t) := by
  intro p e ha hc hk s m args below hf hfit hheap happ hpre
  obtain ⟨b, xs, hP⟩ := lw_pre_spec hpre.2.2 hpre.2.1
  obtain ⟨k, o, h1, h2, h3, hQ⟩ := lw_walk l hflags b xs p e ha hc hk s m args below hf ((Spec.applies_iff_loose hf).mp happ).1 hP trivial
  exact ⟨k, o, h1, h2, h3, hQ⟩
theorem lw_frame {s t : State} {o : Outcome} {args : Array Value} (h : Framed s o t [] 31 19723) :
    Framed s o t (fieldLocs frame_1_writes args s ++ arrayLocs frame_1_arrays args s ++ staticLocs frame_1_statics s) 31 19723 := h
theorem lw_limb (L : Cond) (hL : ∀ (args : Array Value) (s t : State), L.after args s (.returned (some (.int 1))) t = true) :
    ArmFor flags0 classFile x code maxLocals ret World_1 tables_1 room_1 Calls_1 rest_1 Pre_1
      (fun tb e a s o t => postC L tb e a s o t ∧ Framed s o t (fieldLocs frame_1_writes a s ++ arrayLocs frame_1_arrays a s ++ staticLocs frame_1_statics s) 31 19723) := by
  intro l hflags _ _ p e ha hc hk s m args below hf hfit hheap happ hpre
  obtain ⟨k, o, h1, h2, h3, rfl, hF⟩ := lw_comes l hflags p e ha hc hk s m args below hf hfit hheap happ hpre
  exact ⟨k, _, h1, h2, h3, hL args s _, lw_frame hF⟩
theorem i_vc : Claimed_1_1 ∧ Claimed_1_2 := ⟨lw_limb limb_1_1 (fun args s t => by simp [limb_1_1, Cond.after, Cond.holds, Cond.value]), lw_limb limb_1_2 (fun args s t => Cond.after_iff.mpr (by
  first | (rw [show limb_1_2 = Cond.eq .result (.int 1) from rfl, Cond.eq_ints (x := 1) (y := 1) rfl rfl]; simp; done) | (simp [limb_1_2, Cond.value, Term.eval]; done)))⟩
