/-! THE CLAIM OUT OF ONE WALK OF THE LAW'S BODY. Your part is whole_start (and what it stands on); all else here is the same for every law, but numbers. -/
def R_law : String := "RingAndFingerLaw"
def lw_P (b : Addr) (xs : List Int32) (args : Array Value) (s : State) : Prop := args = #[.ref b] ∧ s.IntsAt b xs ∧ xs.length ≤ 3072 ∧ (Jvm.Cond.and given_1 narrow_1).before args s = true
def lw_Q (_ : Array Value) (s : State) (o : Outcome) (t : State) : Prop := o = .returned (some (.int 1)) ∧ Framed s o t [] 31 19723
def lw_Z (below : List Frame) (a : Array Value) (s : State) : State → Prop := fun t => ∃ o, t.status = .running ∧ Ended t below o ∧ lw_Q a s o t
/-- the law's own end, with 1 on the stack, nothing written that was there before, its room as the claim has it -/
theorem lw_ret {p : Program} {l : Launch} {e : Env} {s : State} {m : MethodId} {below : List Frame} {meth : Method} {c : Code} {b : Nat} (hx : p.tables.exec = Jvm.exec) (hb : c.code = code) (hr : meth.sig.returnType = ret) (hlocks : meth.locks = false) {pc : Nat} {H : Heap} {ls : Array Slot} (hdg : decode code pc = .ok (.ireturn, 1)) : W p l e room_1 s m #[Value.ref b] below meth c H [] 31 19723 (lw_Z below #[Value.ref b] s) (F0 m pc ls [.int 1]) := by
  intro T hT X
  obtain ⟨fs, hret, hrun, hended, hW, hframe⟩ := X.leave (v := some (.int 1)) (hlocks := hlocks) (fun h => by rw [hr] at h; cases h)
  have hmeth' : T.vm.method? m = some meth := X.method'
  refine ⟨T.setFrames fs, ?_, .returned (some (.int 1)), hrun, hended, rfl, ⟨_, rfl⟩, hW, hframe⟩
  jvm_step X.here [X.here.top, hx, hb, hdg, hmeth', hr, ret, narrow_b1]
  (try refine ⟨rfl, ?_⟩); (try refine ⟨rfl, ?_⟩)
  first | (intro acts; rw [hret _ acts rfl rfl rfl]) | rw [hret _ _ rfl rfl rfl]
  exact Steps.refl _
/-- what holds at the law's entry: the machine, the code, the tables' words (any of lw_tbl by 'hts w (by decide +kernel)'), the script of L ints xs at the cell b, what the Statement gives of the start (any of its parts by flat_of_before) -/
def lw_At (p : Program) (s : State) (m : MethodId) (meth : Method) (c : Code) (b L : Nat) (xs : Nat → Int32) : Prop :=
  p.tables.exec = Jvm.exec ∧ c.code = code ∧ meth.sig.returnType = ret ∧ c.maxLocals = 4 ∧ s.vm.findClass R_law = some m.cls ∧ (∀ w ∈ lw_tbl, w.before #[Value.ref b] s = true) ∧ va_X b L xs s s.heap ∧ b < s.heap.size ∧ meth.locks = false ∧ (Jvm.Cond.and given_1 narrow_1).before #[Value.ref b] s = true
section LZLaw
theorem lz_in {i k L : Nat} (h : i + k < L) (hL : L ≤ 3072) : vp_in (nI i + nI k) L := by
  rw [nI_add]
  exact vp_in_nI h (by omega)
theorem lz_gt {i L : Nat} (hL : L ≤ 3072) (hi : i ≤ L) (h : ¬ (Int32.ofNat L - 6 < nI i)) : i + 6 ≤ L := by
  have h1 : ¬ (nI L - nI 6 < nI i) := h
  by_cases h6 : 6 ≤ L
  · rw [pk_sub h6] at h1
    have h2 : ¬ (L - 6 < i) := fun z => h1 ((nI_ltI (by omega) (by omega)).mpr z)
    omega
  · have h3 : nI L - nI 6 < 0 := pk_sneg (by decide) (by omega)
    have h4 := Int32.lt_iff_toInt_lt.mp h3
    have h5 : ¬ (nI i < 0) := nI_pos (by omega)
    have h7 : ¬ ((nI i).toInt < (0 : Int32).toInt) := fun z => h5 (Int32.lt_iff_toInt_lt.mpr z)
    exact absurd (Int32.lt_iff_toInt_lt.mpr (by omega)) h1
/-- the law's world: the class's cells, then the reference's -/
abbrev lz_w (cA : ClassId) (q : Nat → Nat) (G M γ κ τ lt ρ φ : Nat → Nat) (b1 b2 b3 t1 t2 t3 s1 s2 s3 s4 s5 s6 s7 th im rd mi nu C : Nat → Int32) : va_W := [(q 0, .inr (2, rf_o2 (q 1) (q 4) (q 7) (q 10) (q 17) (q 18) (q 19) (q 20) (ra_nf G))), (q 1, .inr (0, rf_o0 (q 2) (q 3) (ra_nf γ))), (q 2, .inl (cA, 6, .inl (ra_nf κ))), (q 3, .inl (cA, 6, .inl (ra_nf τ))), (q 4, .inr (0, rf_o0 (q 5) (q 6) b1)), (q 5, .inl (cA, 6, .inl b2)), (q 6, .inl (cA, 6, .inl b3)), (q 7, .inr (0, rf_o0 (q 8) (q 9) t1)), (q 8, .inl (cA, 6, .inl t2)), (q 9, .inl (cA, 6, .inl t3)), (q 10, .inr (1, rf_o1 (q 11) (q 14) (q 15) (q 16) s1)), (q 11, .inr (0, rf_o0 (q 12) (q 13) s2)), (q 12, .inl (cA, 6, .inl s3)), (q 13, .inl (cA, 6, .inl s4)), (q 14, .inl (cA, 5022, .inl s5)), (q 15, .inl (cA, 9, .inl s6)), (q 16, .inl (cA, 558, .inl s7)), (q 17, .inl (cA, 96, .inl (ra_nf lt))), (q 18, .inl (cA, 12, .inl (ra_nf ρ))), (q 19, .inl (cA, 12, .inl th)), (q 20, .inl (cA, 7, .inl (ra_nf φ))), (q 21, .inr (3, rf_o3 (q 22) (q 23) (q 24) (q 25) (q 26) (q 27) (q 28) (q 29) (q 30) (ra_nf M))), (q 22, .inl (cA, 22, .inl (ra_st γ κ τ))), (q 23, .inl (cA, 22, .inl im)), (q 24, .inl (cA, 22, .inl rd)), (q 25, .inl (cA, 22, .inl mi)), (q 26, .inl (cA, 96, .inl (ra_nf lt))), (q 27, .inl (cA, 12, .inl (ra_nf ρ))), (q 28, .inl (cA, 7, .inl (ra_nf φ))), (q 29, .inl (cA, 2, .inl nu)), (q 30, .inl (cA, 13671, .inl C))]
/-- between two calls -/
def lz_I (D : va_G) (cA : ClassId) (A : Nat → Prop) (H0 : Heap) (q : Nat → Nat) (H : Heap) (locs : List Loc) : Prop := ∃ (G M γ κ τ lt ρ φ : Nat → Nat) (b1 b2 b3 t1 t2 t3 s1 s2 s3 s4 s5 s6 s7 th im rd mi nu C : Nat → Int32), va_P D vwCl (lz_w cA q G M γ κ τ lt ρ φ b1 b2 b3 t1 t2 t3 s1 s2 s3 s4 s5 s6 s7 th im rd mi nu C) H ∧ va_D A (lz_w cA q G M γ κ τ lt ρ φ b1 b2 b3 t1 t2 t3 s1 s2 s3 s4 s5 s6 s7 th im rd mi nu C) ∧ va_S A H0 H locs ∧ lz_F G M γ κ τ lt ρ b1 b2 b3 im
/-- what holds all along -/
def lz_C (p : Program) (s : State) (m : MethodId) (meth : Method) (c : Code) (b L : Nat) (xs : Nat → Int32) (D : va_G) (cA : ClassId) (ad : Nat → Nat) (A : Nat → Prop) : Prop :=
  lw_At p s m meth c b L xs ∧ L ≤ 3072 ∧ va_K D vwCl [(cA, .int)] s ∧ rf_EV ad A s ∧ (∀ q, s.heap.size ≤ q → A q) ∧ ¬ A b ∧ ∀ q, A q → s.heap.size ≤ q
end LZLaw
