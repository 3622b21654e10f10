section LZEntry
theorem lz_cA {args : Array Value} {s : State} (h : (Cond.arrayClass .int).before args s = true) : ∃ cA : ClassId, ArrOfT s cA .int ∧ va_RA s cA .int := by
  obtain ⟨cA, kA, comp, h1, h2, h3⟩ := Cond.arrayClass_spec h
  exact ⟨cA, fun n z => ⟨fun k h => (by cases h), kA, h2, comp, h3⟩, h1⟩
theorem lz_nm_in : ∀ q ∈ rf_nm, (Cond.methodLinkNest q.1 q.2.1 q.2.2 "RingAndFinger") ∈ lw_tbl := by decide +kernel
theorem lz_nf_in : ∀ q ∈ rf_nf, (Cond.fieldLinkNest q.1 q.2.1 "RingAndFinger" q.2.2 "[I" "RingAndFinger") ∈ lw_tbl := by decide +kernel
theorem lz_sa_in : ∀ q ∈ rf_sa, (Cond.laysStatic "RingAndFinger" q.1 "[I") ∈ lw_tbl := by decide +kernel
theorem lz_ini_in : (Cond.initialized "RingAndFinger") ∈ lw_tbl := by decide +kernel
theorem lz_arr_in : (Cond.arrayClass .int) ∈ lw_tbl := by decide +kernel
theorem lz_sa_arr : ∀ q ∈ rf_sa, (Cond.arrayOf (.static "RingAndFinger" q.1 "[I") .int) ∈ flatC (Jvm.Cond.and given_1 narrow_1) := by decide +kernel
theorem lz_sa_len : ∀ q ∈ rf_sa, (Cond.eq (.length (.static "RingAndFinger" q.1 "[I")) (.int (Int32.ofNat q.2.1))) ∈ flatC (Jvm.Cond.and given_1 narrow_1) := by decide +kernel
theorem lz_sa_el : ∀ q ∈ rf_sa, ∀ j, j < q.2.1 → (Cond.eq (.elem (.static "RingAndFinger" q.1 "[I") (.int (Int32.ofNat j))) (.int (q.2.2 j))) ∈ flatC (Jvm.Cond.and given_1 narrow_1) := by decide +kernel
theorem lz_sa_sz : ∀ q ∈ rf_sa, q.2.1 < 2 ^ 31 := by decide +kernel
theorem lz_EV {b : Nat} {s : State} (htl : ∀ w ∈ lw_tbl, w.before #[Value.ref b] s = true) (hgv : (Jvm.Cond.and given_1 narrow_1).before #[Value.ref b] s = true) : ∃ ad : Nat → Nat, rf_EV ad (fun q : Nat => s.heap.size ≤ q) s := by
  have hs := flat_of_before _ hgv
  have hA : ∀ a : Nat, a < s.heap.size → ¬ (fun q : Nat => s.heap.size ≤ q) a := fun a h => Nat.not_le.mpr h
  have h0 : ∀ k : Nat, ∃ t : Nat, ∀ q : String × Nat × (Nat → Int32), rf_sa[k]? = some q → va_Z "RingAndFinger" q.1 "[I" (.ref t) (fun q : Nat => s.heap.size ≤ q) s s.heap ∧ va_T .int t q.2.1 (fun j => .int (q.2.2 j)) (fun q : Nat => s.heap.size ≤ q) s s.heap := by
    intro k
    cases hk : rf_sa[k]? with
    | none => exact ⟨0, fun q h => by cases h⟩
    | some q =>
      have hq := List.mem_of_getElem? hk
      obtain ⟨t, ht, hT⟩ := va_Tof (ty := .int) (f := fun j => .int (q.2.2 j)) (lz_sa_sz q hq) (hs _ (lz_sa_arr q hq)) (va_eqt (hs _ (lz_sa_len q hq))) (fun j hj => va_eqt (hs _ (lz_sa_el q hq j hj))) hA
      refine ⟨t, fun q' h => ?_⟩
      cases h
      exact ⟨va_Zref (htl _ (lz_sa_in q hq)) (htl _ lz_ini_in) ht hA, hT⟩
  obtain ⟨ad, had⟩ := Classical.axiomOfChoice h0
  exact ⟨ad, fun k q hq => va_Nw.of rfl (htl _ (lz_nm_in q (List.mem_of_getElem? hq))), fun k q hq => va_Nw.of rfl (htl _ (lz_nf_in q (List.mem_of_getElem? hq))), fun k q hq => had k q hq⟩
theorem lz_K {b : Nat} {s : State} (htl : ∀ w ∈ lw_tbl, w.before #[Value.ref b] s = true) : ∃ (D : va_G) (cA : ClassId), va_K D vwCl [(cA, .int)] s := by
  obtain ⟨c0, i0, h0⟩ := u_known (C := RX0) (T := TX0) (N := 12) (n := 12) htl inX0 (htl (.instantiable RX0 12) (by decide +kernel))
  obtain ⟨c1, i1, h1⟩ := u_known (C := RX1) (T := TX1) (N := 7) (n := 7) htl inX1 (htl (.instantiable RX1 7) (by decide +kernel))
  obtain ⟨c2, i2, h2⟩ := u_known (C := RX2) (T := TX2) (N := 12) (n := 12) htl inX2 (htl (.instantiable RX2 12) (by decide +kernel))
  obtain ⟨c3, i3, h3⟩ := u_known (C := RX3) (T := TX3) (N := 16) (n := 16) htl inX3 (htl (.instantiable RX3 16) (by decide +kernel))
  obtain ⟨cA, hA1, hA2⟩ := lz_cA (htl _ lz_arr_in)
  refine ⟨(fun k => if k = 0 then c0 else if k = 1 then c1 else if k = 2 then c2 else c3, fun k => if k = 0 then i0 else if k = 1 then i1 else if k = 2 then i2 else i3), cA, ?_, ?_⟩
  · intro k q hq
    match k, hq with
    | 0, hq => cases hq; exact h0
    | 1, hq => cases hq; exact h1
    | 2, hq => cases hq; exact h2
    | 3, hq => cases hq; exact h3
    | k + 4, hq => simp [vwCl] at hq
  · intro k q hq
    match k, hq with
    | 0, hq => cases hq; exact ⟨hA1, hA2⟩
    | k + 1, hq => simp at hq
theorem lz_rz : rf_z = ra_nf (fun _ => 0) := funext fun _ => rfl
theorem lz_rg : rf_g0 = ra_nf lz_g0 := by
  unfold rf_g0 lz_g0
  rw [lz_rz]
  show upd (upd (upd (ra_nf (fun _ => 0)) 1 (nI 180)) 2 (nI 4)) 7 (nI 3) = _
  rw [ra_upd, ra_upd, ra_upd]
theorem lz_rs : ∀ j, j < 22 → ra_nf lz_g0 j = ra_st lz_g0 (fun _ => 0) (fun _ => 0) j := by decide +kernel
theorem lz_ok0 : ra_ok lz_g0 (fun _ => 0) (fun _ => 0) := ⟨by decide, by decide, by decide, by decide, by decide, by decide, by decide, by decide, by decide, by decide, fun _ => Nat.zero_le _, fun _ => Nat.zero_le _⟩
theorem lz_F0 (b1 b2 b3 im : Nat → Int32) : lz_F (fun _ => 0) (fun _ => 0) lz_g0 (fun _ => 0) (fun _ => 0) (fun _ => 0) (fun _ => 0) b1 b2 b3 im :=
  ⟨lz_ok0, by decide, rfl, Nat.zero_le _, fun _ => Nat.zero_le _, rfl, Nat.zero_le _, fun _ => Nat.zero_le _, rfl, Nat.zero_le _, fun h => absurd h (by decide)⟩
end LZEntry
