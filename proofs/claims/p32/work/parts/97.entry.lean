/-! what the law's entry gives; the call of hand -/
section LZEntry
theorem lz_cA {args : Array Value} {s : State} (h : (Cond.arrayClass .int).before args s = true) : ∃ cA : ClassId, ArrOfT s cA .int ∧ va_RA s cA .int := by
  obtain ⟨cA, kA, comp, h1, h2, h3⟩ := Cond.arrayClass_spec h
  exact ⟨cA, fun n z => ⟨fun k h => (by cases h), kA, h2, comp, h3⟩, h1⟩
theorem lz_nm_in : ∀ q ∈ rf_nm, (Cond.methodLinkNest q.1 q.2.1 q.2.2 "RingAndFinger") ∈ lw_tbl := by decide +kernel
theorem lz_nf_in : ∀ q ∈ rf_nf, (Cond.fieldLinkNest q.1 q.2.1 "RingAndFinger" q.2.2 "[I" "RingAndFinger") ∈ lw_tbl := by decide +kernel
theorem lz_sa_in : ∀ q ∈ rf_sa, (Cond.laysStatic "RingAndFinger" q.1 "[I") ∈ lw_tbl := by decide +kernel
theorem lz_ini_in : (Cond.initialized "RingAndFinger") ∈ lw_tbl := by decide +kernel
theorem lz_arr_in : (Cond.arrayClass .int) ∈ lw_tbl := by decide +kernel
theorem lz_sa_arr : ∀ q ∈ rf_sa, (Cond.arrayOf (.static "RingAndFinger" q.1 "[I") .int) ∈ flatC (Jvm.Cond.and given_1 narrow_1) := by decide +kernel
theorem lz_sa_len : ∀ q ∈ rf_sa, (Cond.eq (.length (.static "RingAndFinger" q.1 "[I")) (.int (Int32.ofNat q.2.1))) ∈ flatC (Jvm.Cond.and given_1 narrow_1) := by decide +kernel
theorem lz_sa_el : ∀ q ∈ rf_sa, ∀ j, j < q.2.1 → (Cond.eq (.elem (.static "RingAndFinger" q.1 "[I") (.int (Int32.ofNat j))) (.int (q.2.2 j))) ∈ flatC (Jvm.Cond.and given_1 narrow_1) := by decide +kernel
theorem lz_sa_sz : ∀ q ∈ rf_sa, q.2.1 < 2 ^ 31 := by decide +kernel
theorem lz_EV {b : Nat} {s : State} (htl : ∀ w ∈ lw_tbl, w.before #[Value.ref b] s = true) (hgv : (Jvm.Cond.and given_1 narrow_1).before #[Value.ref b] s = true) : ∃ ad : Nat → Nat, rf_EV ad (fun q : Nat => s.heap.size ≤ q) s := by
  have hs := flat_of_before _ hgv
  have hA : ∀ a : Nat, a < s.heap.size → ¬ (fun q : Nat => s.heap.size ≤ q) a := fun a h => Nat.not_le.mpr h
  have h0 : ∀ k : Nat, ∃ t : Nat, ∀ q : String × Nat × (Nat → Int32), rf_sa[k]? = some q → va_Z "RingAndFinger" q.1 "[I" (.ref t) (fun q : Nat => s.heap.size ≤ q) s s.heap ∧ va_T .int t q.2.1 (fun j => .int (q.2.2 j)) (fun q : Nat => s.heap.size ≤ q) s s.heap := by
    intro k
    cases hk : rf_sa[k]? with
    | none => exact ⟨0, fun q h => by cases h⟩
    | some q =>
      have hq := List.mem_of_getElem? hk
      obtain ⟨t, ht, hT⟩ := va_Tof (ty := .int) (f := fun j => .int (q.2.2 j)) (lz_sa_sz q hq) (hs _ (lz_sa_arr q hq)) (va_eqt (hs _ (lz_sa_len q hq))) (fun j hj => va_eqt (hs _ (lz_sa_el q hq j hj))) hA
      refine ⟨t, fun q' h => ?_⟩
      cases h
      exact ⟨va_Zref (htl _ (lz_sa_in q hq)) (htl _ lz_ini_in) ht hA, hT⟩
  obtain ⟨ad, had⟩ := Classical.axiomOfChoice h0
  exact ⟨ad, fun k q hq => va_Nw.of rfl (htl _ (lz_nm_in q (List.mem_of_getElem? hq))), fun k q hq => va_Nw.of rfl (htl _ (lz_nf_in q (List.mem_of_getElem? hq))), fun k q hq => had k q hq⟩
theorem lz_K {b : Nat} {s : State} (htl : ∀ w ∈ lw_tbl, w.before #[Value.ref b] s = true) : ∃ (D : va_G) (cA : ClassId), va_K D vwCl [(cA, .int)] s := by
  obtain ⟨c0, i0, h0⟩ := u_known (C := RX0) (T := TX0) (N := 12) (n := 12) htl inX0 (htl (.instantiable RX0 12) (by decide +kernel))
  obtain ⟨c1, i1, h1⟩ := u_known (C := RX1) (T := TX1) (N := 7) (n := 7) htl inX1 (htl (.instantiable RX1 7) (by decide +kernel))
  obtain ⟨c2, i2, h2⟩ := u_known (C := RX2) (T := TX2) (N := 12) (n := 12) htl inX2 (htl (.instantiable RX2 12) (by decide +kernel))
  obtain ⟨cA, hA1, hA2⟩ := lz_cA (htl _ lz_arr_in)
  refine ⟨(fun k => if k = 0 then c0 else if k = 1 then c1 else c2, fun k => if k = 0 then i0 else if k = 1 then i1 else i2), cA, ?_, ?_⟩
  · intro k q hq
    match k, hq with
    | 0, hq => cases hq; exact h0
    | 1, hq => cases hq; exact h1
    | 2, hq => cases hq; exact h2
    | k + 3, hq => simp [vwCl] at hq
  · intro k q hq
    match k, hq with
    | 0, hq => cases hq; exact ⟨hA1, hA2⟩
    | k + 1, hq => simp at hq
def lz_tm : Term := .string "RingAndFingerLaw" 25
theorem lz_s_ex : (Cond.exactly lz_tm "java/lang/String") ∈ flatC (Jvm.Cond.and given_1 narrow_1) := by decide +kernel
theorem lz_s_co : (Cond.eq (.field lz_tm "java/lang/String" "coder" "B") (.int 0)) ∈ flatC (Jvm.Cond.and given_1 narrow_1) := by decide +kernel
theorem lz_s_ar : (Cond.arrayOf (.field lz_tm "java/lang/String" "value" "[B") .byte) ∈ flatC (Jvm.Cond.and given_1 narrow_1) := by decide +kernel
theorem lz_s_le : (Cond.eq (.length (.field lz_tm "java/lang/String" "value" "[B")) (.int (Int32.ofNat 6))) ∈ flatC (Jvm.Cond.and given_1 narrow_1) := by decide +kernel
theorem lz_s_el : ∀ j, j < 6 → (Cond.eq (.elem (.field lz_tm "java/lang/String" "value" "[B") (.int (Int32.ofNat j))) (.int (([112, 107, 115, 114, 106, 116] : List Int32).getD j 0))) ∈ flatC (Jvm.Cond.and given_1 narrow_1) := by decide +kernel
theorem lz_s_rf : (Cond.stringRef RL 25 "pksrjt") ∈ lw_tbl := by decide +kernel
theorem lz_z_in : (Cond.laysStatic "java/lang/String" "COMPACT_STRINGS" "Z") ∈ lw_tbl ∧ (Cond.initialized "java/lang/String") ∈ lw_tbl ∧ (Cond.laysStatic "jdk/internal/util/Preconditions" "SIOOBE_FORMATTER" "Ljava/util/function/BiFunction;") ∈ lw_tbl ∧ (Cond.initialized "jdk/internal/util/Preconditions") ∈ lw_tbl := by decide +kernel
theorem lz_z_fl : (Cond.eq (.static "java/lang/String" "COMPACT_STRINGS" "Z") (.int 1)) ∈ flatC (Jvm.Cond.and given_1 narrow_1) ∧ (Cond.isRef (.static "jdk/internal/util/Preconditions" "SIOOBE_FORMATTER" "Ljava/util/function/BiFunction;")) ∈ flatC (Jvm.Cond.and given_1 narrow_1) := by decide +kernel
theorem lz_St {b : Nat} {s : State} (htl : ∀ w ∈ lw_tbl, w.before #[Value.ref b] s = true) (hgv : (Jvm.Cond.and given_1 narrow_1).before #[Value.ref b] s = true) : ∃ aS aV : Nat, rg_St aS aV (fun q : Nat => s.heap.size ≤ q) s s.heap ∧ vk_R RL 25 "pksrjt" aS s := by
  have hs := flat_of_before _ hgv
  have hA : ∀ a : Nat, a < s.heap.size → ¬ (fun q : Nat => s.heap.size ≤ q) a := fun a h => Nat.not_le.mpr h
  obtain ⟨adK, adV, hS, hT⟩ := vk_Sof (args := #[Value.ref b]) (s := s) (N := 1) (tm := fun _ => lz_tm) (len := [6]) (byt := [[112, 107, 115, 114, 106, 116]]) (A := fun q : Nat => s.heap.size ≤ q)
    (fun i hi => by obtain rfl : i = 0 := by omega
                    decide)
    (fun i hi => hs _ lz_s_ex) (fun i hi => hs _ lz_s_co) (fun i hi => hs _ lz_s_ar)
    (fun i hi => by obtain rfl : i = 0 := by omega
                    exact hs _ lz_s_le)
    (fun i hi j hj => by obtain rfl : i = 0 := by omega
                         exact hs _ (lz_s_el j hj))
    (fun i j hi hj h => absurd (show i = j by omega) h) hA
  refine ⟨adK 0, adV 0, ⟨⟨fun i hi => ?_, fun i j hi hj _ => by omega⟩, va_Zof (htl _ lz_z_in.1) (htl _ lz_z_in.2.1) (va_eqt (hs _ lz_z_fl.1)) hA, va_Zqof (htl _ lz_z_in.2.2.1) (htl _ lz_z_in.2.2.2) (hs _ lz_z_fl.2) hA⟩, vk_R.of (htl _ lz_s_rf) (hT 0 (by decide))⟩
  obtain rfl : i = 0 := by omega
  exact hS.1 0 hi
theorem lz_T {b L : Nat} {xs : Nat → Int32} {s : State} (hX : va_X b L xs s s.heap) (hbl : b < s.heap.size) : va_T .int b L (fun j => .int (xs j)) (fun q : Nat => s.heap.size ≤ q) s s.heap := by
  obtain ⟨scr, h1, h2, h3, h4, h5⟩ := hX
  exact ⟨scr, h1, h2, h3, by omega, by rw [h4], h5, Nat.not_le.mpr hbl⟩
def lz_g0 : Nat → Nat := ra_un (ra_un (ra_un (fun _ => 0) 1 180) 2 4) 7 3
theorem lz_rz : rf_z = ra_nf (fun _ => 0) := funext fun _ => rfl
theorem lz_rg : rf_g0 = ra_nf lz_g0 := by
  unfold rf_g0 lz_g0
  rw [lz_rz]
  show upd (upd (upd (ra_nf (fun _ => 0)) 1 (nI 180)) 2 (nI 4)) 7 (nI 3) = _
  rw [ra_upd, ra_upd, ra_upd]
theorem lz_ok0 : ra_ok lz_g0 (fun _ => 0) (fun _ => 0) := ⟨by decide, by decide, by decide, by decide, by decide, by decide, by decide, by decide, by decide, by decide, fun _ => Nat.zero_le _, fun _ => Nat.zero_le _⟩
variable {p : Program} {l : Launch} {e : Env} {R : Room} {s : State} {m : MethodId} {args : Array Value} {below : List Frame} {meth : Method} {c : Code} {H : Heap} {locs : List Loc} {cells slots : Nat} {Q : State → Prop}
variable {cc bytes : ByteArray} {nL maxL n index pc : Nat} {Ts wsy : List Cond} {own : String} {y : MethodName} {ret : Option FieldType} {rm : Room} {D : va_G} {cA : ClassId} {ad : Nat → Nat} {ws : va_W} {A : Nat → Prop} {r0 : Int32} {As rest st0 : List Value} {ls : Array Slot} {tb tn aS aV : Nat} {tf : Nat → Int32} {q : Nat → Nat}
theorem rh_Si (S : CallFix p m c cc nL s args Ts own) (hK : va_K D vwCl [(cA, .int)] s) (hP : va_P D vwCl ws H) (hD : va_D A ws) (hS : va_S A s.heap H locs) (hA : ∀ q, s.heap.size ≤ q → A q) (hE : rf_EV ad A s) (hT : va_T .int tb tn (fun j => .int (tf j)) A s s.heap) (hZ : rg_St aS aV A s s.heap) (hR : vk_R RL 25 "pksrjt" aS s)
    (hM : Met l y wsy rm (va_Pc As (rh_Pre D cA ad ws tb tn tf aS aV H.size)) (va_Qi (fun (r : Int32) (_ : Unit) => r = r0) (fun _ t => lz_J D cA (va_A ws H.size) q t.heap) (va_A ws H.size)) 0 0 (va_A ws H.size))
    (cw : CallB R s args own index y bytes maxL ret wsy rm 0 0 n ∧ (Cond.static y).before args s = true)
    (isC : List Nat) (hC : isC.map (fun i => ws[i]?) = ws.map some) (hnC : va_nd isC = true)
    (hlen : As.length = n) (hst : st0 = As.reverse ++ rest) (hsize : ls.size = nL) (hW : 2 * 0 + (rest.map fun v => v.category).sum ≤ 8) (hdg : decode cc pc = .ok (.invokestatic index, 3)) (hf : cells + 0 ≤ R.cells ∧ slots + 0 ≤ R.slots)
    (kk : ∀ (H1 : Heap) (locs1 : List Loc), lz_J D cA A q H1 → va_S A s.heap H1 locs1 → W p l e R s m args below meth c H1 locs1 cells slots Q (F0 m (pc + 3) ls (.int r0 :: rest))) : W p l e R s m args below meth c H locs cells slots Q (F0 m pc ls st0) := by
  have hF := va_free hD hS hA isC hC
  refine va_calli (va_runS (As := As) (rest := rest) S hM cw ⟨rh_blind, fun U hU hW => ⟨rfl, rf_pre hK hP hD hS hA hE isC hC hnC U hU hW, ?_, ?_, hR.warm hW⟩⟩ rfl hlen hsize hst hW hdg hf) hS (fun q _ h => hF q h) hF (fun r u t H1 locs1 ht hvm hw hB hz hk hS1 => ?_)
  · rw [hU]
    exact va_T.moved hW.alike ((hT.kept hS.2.1).narrow hF)
  · rw [hU]
    exact (rg_StC aS aV).2.2 _ _ _ _ hF ((rg_StC aS aV).1 _ s U _ hW.alike ((rg_StC aS aV).2.1 _ _ _ _ hS.2.1 hZ))
  · subst hw
    obtain ⟨G, γ, κ, τ, φ, b1, b2, b3, t1, t2, t3, s1, s2, s3, s4, s5, s6, s7, lt, ρ, th, vv, hP1, hD1, h1, h2⟩ := hB
    rw [ht] at hP1
    exact kk H1 locs1 ⟨G, γ, κ, τ, φ, b1, b2, b3, t1, t2, t3, s1, s2, s3, s4, s5, s6, s7, lt, ρ, th, vv, hP1, ⟨hD1.1, fun k z h => hF _ (hD1.2 k z h)⟩, h1, h2⟩ hS1
end LZEntry
