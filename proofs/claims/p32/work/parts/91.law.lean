/-! THE CLAIM OUT OF ONE WALK OF THE LAW'S BODY. Your part is whole_start (and what it stands on); all else here is the same for every law, but numbers. -/
def R_law : String := "RingAndFingerLaw"
def lw_P (b : Addr) (xs : List Int32) (args : Array Value) (s : State) : Prop := args = #[.ref b] ∧ s.IntsAt b xs ∧ xs.length ≤ 260 ∧ (Jvm.Cond.and given_1 narrow_1).before args s = true
def lw_Q (_ : Array Value) (s : State) (o : Outcome) (t : State) : Prop := o = .returned (some (.int 1)) ∧ Framed s o t [] 22 5871
def lw_Z (below : List Frame) (a : Array Value) (s : State) : State → Prop := fun t => ∃ o, t.status = .running ∧ Ended t below o ∧ lw_Q a s o t
/-- the law's own end, with 1 on the stack, nothing written that was there before, its room as the claim has it -/
theorem lw_ret {p : Program} {l : Launch} {e : Env} {s : State} {m : MethodId} {below : List Frame} {meth : Method} {c : Code} {b : Nat} (hx : p.tables.exec = Jvm.exec) (hb : c.code = code) (hr : meth.sig.returnType = ret) (hlocks : meth.locks = false) {pc : Nat} {H : Heap} {ls : Array Slot} (hdg : decode code pc = .ok (.ireturn, 1)) : W p l e room_1 s m #[Value.ref b] below meth c H [] 22 5871 (lw_Z below #[Value.ref b] s) (F0 m pc ls [.int 1]) := by
  intro T hT X
  obtain ⟨fs, hret, hrun, hended, hW, hframe⟩ := X.leave (v := some (.int 1)) (hlocks := hlocks) (fun h => by rw [hr] at h; cases h)
  have hmeth' : T.vm.method? m = some meth := X.method'
  refine ⟨T.setFrames fs, ?_, .returned (some (.int 1)), hrun, hended, rfl, ⟨_, rfl⟩, hW, hframe⟩
  jvm_step X.here [X.here.top, hx, hb, hdg, hmeth', hr, ret, narrow_b1]
  (try refine ⟨rfl, ?_⟩); (try refine ⟨rfl, ?_⟩)
  first | (intro acts; rw [hret _ acts rfl rfl rfl]) | rw [hret _ _ rfl rfl rfl]
  exact Steps.refl _
/-- what holds at the law's entry: the machine, the code, the tables' words (any of lw_tbl by 'hts w (by decide +kernel)'), the script of L ints xs at the cell b, what the Statement gives of the start (any of its parts by flat_of_before) -/
def lw_At (p : Program) (s : State) (m : MethodId) (meth : Method) (c : Code) (b L : Nat) (xs : Nat → Int32) : Prop :=
  p.tables.exec = Jvm.exec ∧ c.code = code ∧ meth.sig.returnType = ret ∧ c.maxLocals = 18 ∧ s.vm.findClass R_law = some m.cls ∧ (∀ w ∈ lw_tbl, w.before #[Value.ref b] s = true) ∧ va_X b L xs s s.heap ∧ b < s.heap.size ∧ meth.locks = false ∧ (Jvm.Cond.and given_1 narrow_1).before #[Value.ref b] s = true
section LZLaw
/-- the law's world: the class's cells, then the law's own row -/
abbrev lz_w (cA : ClassId) (q : Nat → Nat) (G γ κ τ φ : Nat → Nat) (b1 b2 b3 t1 t2 t3 s1 s2 s3 s4 s5 s6 s7 lt ρ th vv : Nat → Int32) : va_W := [((q 0), .inr (2, rf_o2 (q 1) (q 4) (q 7) (q 10) (q 17) (q 18) (q 19) (q 20) (ra_nf G))), ((q 1), .inr (0, rf_o0 (q 2) (q 3) (ra_nf γ))), ((q 2), .inl (cA, 6, .inl (ra_nf κ))), ((q 3), .inl (cA, 6, .inl (ra_nf τ))), ((q 4), .inr (0, rf_o0 (q 5) (q 6) b1)), ((q 5), .inl (cA, 6, .inl b2)), ((q 6), .inl (cA, 6, .inl b3)), ((q 7), .inr (0, rf_o0 (q 8) (q 9) t1)), ((q 8), .inl (cA, 6, .inl t2)), ((q 9), .inl (cA, 6, .inl t3)), ((q 10), .inr (1, rf_o1 (q 11) (q 14) (q 15) (q 16) s1)), ((q 11), .inr (0, rf_o0 (q 12) (q 13) s2)), ((q 12), .inl (cA, 6, .inl s3)), ((q 13), .inl (cA, 6, .inl s4)), ((q 14), .inl (cA, 5022, .inl s5)), ((q 15), .inl (cA, 9, .inl s6)), ((q 16), .inl (cA, 558, .inl s7)), ((q 17), .inl (cA, 96, .inl lt)), ((q 18), .inl (cA, 12, .inl ρ)), ((q 19), .inl (cA, 12, .inl th)), ((q 20), .inl (cA, 7, .inl (ra_nf φ))), ((q 21), .inl (cA, 40, .inl vv))]
/-- between two rounds: a finger as it can be, whatever else there is -/
def lz_J (D : va_G) (cA : ClassId) (A : Nat → Prop) (q : Nat → Nat) (H : Heap) : Prop := ∃ (G γ κ τ φ : Nat → Nat) (b1 b2 b3 t1 t2 t3 s1 s2 s3 s4 s5 s6 s7 lt ρ th vv : Nat → Int32), va_P D vwCl (lz_w cA q G γ κ τ φ b1 b2 b3 t1 t2 t3 s1 s2 s3 s4 s5 s6 s7 lt ρ th vv) H ∧ va_D A (lz_w cA q G γ κ τ φ b1 b2 b3 t1 t2 t3 s1 s2 s3 s4 s5 s6 s7 lt ρ th vv) ∧ ra_ok γ κ τ ∧ γ 8 ≤ 999
/-- what holds at the law's helper 'hand': the class's cells and the law's row, the script, the constant of the kinds' letters -/
def rh_Pre (D : va_G) (cA : ClassId) (ad : Nat → Nat) (ws : va_W) (tb tn : Nat) (tf : Nat → Int32) (aS aV : Nat) (sz : Nat) (U : State) : Prop := rf_Pre D cA ad ws sz U ∧ va_T .int tb tn (fun j => .int (tf j)) (va_A ws sz) U U.heap ∧ rg_St aS aV (va_A ws sz) U U.heap ∧ vk_R RL 25 "pksrjt" aS U
theorem rh_blind {av : List Value} {D : va_G} {cA : ClassId} {ad : Nat → Nat} {ws : va_W} {tb tn : Nat} {tf : Nat → Int32} {aS aV sz : Nat} : FrameBlind (va_Pc av (rh_Pre D cA ad ws tb tn tf aS aV sz)) := by
  intro a U g mk h
  obtain ⟨h0, h1, h2, h3, h4⟩ := h
  have h5 := rf_blind (av := av) (D := D) (cA := cA) (ad := ad) (ws := ws) (sz := sz) a U g mk ⟨h0, h1⟩
  exact ⟨h0, h5.2, va_T.moved (u := U) (U := U.calling g mk a) (Vm.Alike.refl U.vm) h2, (rg_StC aS aV).1 _ U (U.calling g mk a) _ (Vm.Alike.refl U.vm) h3, vk_R.same (u := U) (U := U.calling g mk a) rfl h4⟩
/-- what holds all along -/
def lz_C (p : Program) (s : State) (m : MethodId) (meth : Method) (c : Code) (b L : Nat) (xs : Nat → Int32) (D : va_G) (cA : ClassId) (ad : Nat → Nat) (A : Nat → Prop) : Prop :=
  lw_At p s m meth c b L xs ∧ L ≤ 260 ∧ va_K D vwCl [(cA, .int)] s ∧ rf_EV ad A s ∧ (∀ q, s.heap.size ≤ q → A q) ∧ va_T .int b L (fun j => .int (xs j)) A s s.heap ∧ ∀ q, A q → s.heap.size ≤ q
end LZLaw
