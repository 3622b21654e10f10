/-! the base: what a run of a function in Option says step by step; the class's nest links and static rows; a method's world; a call with its frame in one row -/
section RFBase
theorem rf_bindv {α β : Type} {x y : α} {k : α → Option β} {r : Option β} (h : (some x).bind k = r) (e : y = x) : k y = r := by
  subst e
  exact h
theorem rf_bindq {α β : Type} {x : Option α} {k : α → Option β} {r : β} (h : x.bind k = some r) : ∃ q, x = some q ∧ k q = some r := by
  cases x with
  | none => cases h
  | some q => exact ⟨q, rfl, h⟩
theorem rf_ifp {α : Type} {c : Prop} [Decidable c] {a b r : α} (h : (if c then a else b) = r) (hc : c) : a = r := by
  rw [if_pos hc] at h
  exact h
theorem rf_ifn {α : Type} {c : Prop} [Decidable c] {a b r : α} (h : (if c then a else b) = r) (hc : ¬ c) : b = r := by
  rw [if_neg hc] at h
  exact h
theorem rf_chk {α : Type} {c : Prop} [Decidable c] {a : Option α} {r : α} (h : (if c then a else none) = some r) : c ∧ a = some r := by
  by_cases hc : c
  · rw [if_pos hc] at h
    exact ⟨hc, h⟩
  · rw [if_neg hc] at h
    cases h
end RFBase
/-- the fields of an object, its whole numbers as one function -/
abbrev rf_o0 (kinds thicks : Nat) (g : Nat → Int32) : List Value := [.ref kinds, .ref thicks, .int (g 0), .int (g 1), .int (g 2), .int (g 3), .int (g 4), .int (g 5), .int (g 6), .int (g 7), .int (g 8), .int (g 9)]
abbrev rf_o1 (finger waiting held seen : Nat) (g : Nat → Int32) : List Value := [.ref finger, .ref waiting, .ref held, .ref seen, .int (g 0), .int (g 1), .int (g 2)]
abbrev rf_o2 (now thn trial search letters numbers thickest refusals : Nat) (g : Nat → Int32) : List Value := [.ref now, .ref thn, .ref trial, .ref search, .ref letters, .ref numbers, .ref thickest, .ref refusals, .int (g 0), .int (g 1), .int (g 2), .int (g 3)]
abbrev rf_max (x y : Int32) : Int32 := if x < y then y else x
abbrev rf_min (x y : Int32) : Int32 := if y < x then y else x
abbrev rf_rem (x y : Int32) : Int32 := x - x / y * y
abbrev rf_ushr (x y : Int32) : Int32 := (x.toUInt32 >>> (y.toUInt32 &&& Int32.toUInt32 31)).toInt32
def rf_fu : Nat := 20000
def rf_sum {α β γ : Type} (s : α ⊕ β) (f : α → γ) (g : β → γ) : γ := match s with
  | .inl a => f a
  | .inr b => g b
theorem rf_sumr {α β γ : Type} {b : β} {f : α → γ} {g : β → γ} {r : γ} (h : rf_sum (Sum.inr b) f g = r) : g b = r := h
theorem rf_nb {v : Int32} (h : v &&& 1 = v) : narrow .boolean (.int v) = .int v := by
  show Value.int (v &&& 1) = .int v
  rw [h]
/-- the static rows, as the class file's own code makes them -/
def rf_a0 : Nat → Int32 := fun j => ([100, 1, 0, 0, 0] : List Int32).getD j 0
def rf_a1 : Nat → Int32 := fun j => ([250, 9, 30, 20, 9] : List Int32).getD j 0
def rf_a2 : Nat → Int32 := fun j => ([1, 2, 3, 4, 1, 6, 8, 5] : List Int32).getD j 0
def rf_a3 : Nat → Int32 := fun j => ([2, 2, 3, 1, 5, 1, 2, 0] : List Int32).getD j 0
def rf_a4 : Nat → Int32 := fun j => ([1, 1, 1, 1, 3, 2, 1, 0] : List Int32).getD j 0
def rf_sa : List (String × Nat × (Nat → Int32)) := [("LEAST_SET", 5, rf_a0), ("MOST_SET", 5, rf_a1), ("MOVE_MINUTES", 8, rf_a2), ("MOVE_SWELL", 8, rf_a3), ("MOVE_HARM", 8, rf_a4)]
/-- the links between nest mates -/
def rf_nm : List (String × Nat × MethodName) := [(RX0, 55, yX2_at), (RX0, 59, yX2_thickness), (RX0, 83, yX2_allowance), (RX0, 86, yX2_put), (RX0, 107, yX2_isTry), (RX1, 13, yX0_init), (RX2, 9, yX0_init), (RX2, 24, yX1_init)]
def rf_nf : List (String × Nat × String) := [(RX0, 94, "MOVE_SWELL"), (RX0, 97, "MOVE_HARM"), (RX0, 100, "MOVE_MINUTES"), (RX0, 116, "LEAST_SET"), (RX0, 119, "MOST_SET")]
def rf_EV (ad : Nat → Nat) (A : Nat → Prop) (U : State) : Prop :=
  (∀ (k : Nat) (q : String × Nat × MethodName), rf_nm[k]? = some q → va_Nw (.methodLinkNest q.1 q.2.1 q.2.2 "RingAndFinger") U) ∧
  (∀ (k : Nat) (q : String × Nat × String), rf_nf[k]? = some q → va_Nw (.fieldLinkNest q.1 q.2.1 "RingAndFinger" q.2.2 "[I" "RingAndFinger") U) ∧
  ∀ (k : Nat) (q : String × Nat × (Nat → Int32)), rf_sa[k]? = some q → va_Z "RingAndFinger" q.1 "[I" (.ref (ad k)) A U U.heap ∧ va_T .int (ad k) q.2.1 (fun j => .int (q.2.2 j)) A U U.heap
theorem rf_EV.to {ad : Nat → Nat} {A B : Nat → Prop} {s U : State} {H : Heap} {locs : List Loc} (h : rf_EV ad A s) (hS : va_S A s.heap H locs) (hB : ∀ q, B q → A q) (hU : U.heap = H) (hW : s.WarmedH U.vm) : rf_EV ad B U := by
  obtain ⟨h1, h2, h3⟩ := h
  refine ⟨fun k q hq => va_Nw.warmM hW (h1 k q hq), fun k q hq => va_Nw.warmF hW (h2 k q hq), fun k q hq => ?_⟩
  obtain ⟨z, t⟩ := h3 k q hq
  rw [hU]
  exact ⟨va_Z.moved hW.alike ((z.kept hS.2.1).narrow hB), va_T.moved hW.alike ((t.kept hS.2.1).narrow hB)⟩
theorem rf_EV.calling {ad : Nat → Nat} {B : Nat → Prop} {U : State} {g : JFrame} {mk : MethodId} {a : Array Value} (h : rf_EV ad B U) : rf_EV ad B (U.calling g mk a) := by
  obtain ⟨h1, h2, h3⟩ := h
  exact ⟨fun k q hq => va_Nw.same rfl rfl (h1 k q hq), fun k q hq => va_Nw.same rfl rfl (h2 k q hq), fun k q hq => ⟨va_Z.moved (Vm.Alike.refl U.vm) (h3 k q hq).1, va_T.moved (Vm.Alike.refl U.vm) (h3 k q hq).2⟩⟩
/-- a method's start: its world's cells, the classes, the nest links and static rows -/
def rf_Pre (D : va_G) (cA : ClassId) (ad : Nat → Nat) (ws : va_W) (sz : Nat) (U : State) : Prop :=
  U.heap.size = sz ∧ va_P D vwCl ws U.heap ∧ va_K D vwCl [(cA, .int)] U ∧ va_D (fun _ => True) ws ∧ rf_EV ad (va_A ws sz) U
/-- its end -/
def rf_Post (D : va_G) (B : Nat → Prop) (ws : va_W) (t : State) : Prop := va_P D vwCl ws t.heap ∧ va_D B ws
theorem rf_blind {av : List Value} {D : va_G} {cA : ClassId} {ad : Nat → Nat} {ws : va_W} {sz : Nat} : FrameBlind (va_Pc av (rf_Pre D cA ad ws sz)) := by
  intro a U g mk h
  obtain ⟨h0, h1, h2, h3, h4, h5⟩ := h
  exact ⟨h0, h1, h2, va_K.moved (u := U) (U := U.calling g mk a) (Vm.Alike.refl U.vm) h3, h4, h5.calling⟩
theorem rf_mk {D : va_G} {B : Nat → Prop} {ws : va_W} {t : State} {H : Heap} (ht : t.heap = H) (hP : va_P D vwCl ws H) (hD : va_D B ws) : rf_Post D B ws t := ⟨by rw [ht]; exact hP, hD⟩
section RFCall
variable {p : Program} {l : Launch} {e : Env} {R : Room} {s : State} {m : MethodId} {args : Array Value} {below : List Frame} {meth : Method} {c : Code} {H : Heap} {locs : List Loc} {cells slots : Nat} {Q : State → Prop}
variable {cc bytes : ByteArray} {nL maxL n index pc : Nat} {Ts wsy : List Cond} {own C : String} {y : MethodName} {ret : Option FieldType} {rm : Room} {D : va_G} {cA : ClassId} {ad : Nat → Nat} {ws wc wr w1 wn : va_W} {A : Nat → Prop} {r0 : Int32} {b : Addr} {As rest st0 : List Value} {ls : Array Slot}
theorem rf_pre (hK : va_K D vwCl [(cA, .int)] s) (hP : va_P D vwCl ws H) (hD : va_D A ws) (hS : va_S A s.heap H locs) (hA : ∀ q, s.heap.size ≤ q → A q) (hE : rf_EV ad A s) (isC : List Nat) (hC : isC.map (fun i => ws[i]?) = wc.map some) (hn : va_nd isC = true) : ∀ U : State, U.heap = H → s.WarmedH U.vm → rf_Pre D cA ad wc H.size U := by
  intro U hU hW
  have hC' : isC.filterMap (fun i => ws[i]?) = wc := by
    have h1 := congrArg (fun l => l.filterMap id) hC
    simpa [List.filterMap_map, Function.comp_def] using h1
  exact ⟨by rw [hU], by rw [hU]; exact hP.sub isC hC', va_K.moved hW.alike hK, (hD.sub isC hn hC).weaken (fun _ _ _ _ => trivial), hE.to hS (va_free hD hS hA isC hC) hU hW⟩
theorem rf_back (hP : va_P D vwCl ws H) (hD : va_D A ws) (hS : va_S A s.heap H locs) (hA : ∀ q, s.heap.size ≤ q → A q) (isC isR isN : List Nat) (hC : isC.map (fun i => ws[i]?) = wc.map some) (hR : isR.map (fun i => ws[i]?) = wr.map some) (hnR : va_nd isR = true) (hdis : ∀ i ∈ isR, i ∉ isC) (hN : isN.map (fun i => (wr ++ w1)[i]?) = wn.map some) (hnN : va_nd isN = true) {t : State} {H1 : Heap} (ht : t.heap = H1) (hk : ∀ q : Nat, q < H.size → ¬ va_A wc H.size q → H1[q]? = H[q]?) (hB : rf_Post D (va_A wc H.size) w1 t) : va_P D vwCl wn H1 ∧ va_D A wn := by
  obtain ⟨hP1, hD1⟩ := hB
  rw [ht] at hP1
  obtain ⟨hP2, hD2⟩ := va_join hP hD isC isR hC hR hnR hdis hk (va_free hD hS hA isC hC) hP1 hD1
  have hN' : isN.filterMap (fun i => (wr ++ w1)[i]?) = wn := by
    have h1 := congrArg (fun l => l.filterMap id) hN
    simpa [List.filterMap_map, Function.comp_def] using h1
  exact ⟨hP2.sub isN hN', hD2.sub isN hnN hN⟩
theorem rf_Vi (S : CallFix p m c cc nL s args Ts own) (hK : va_K D vwCl [(cA, .int)] s) (hP : va_P D vwCl ws H) (hD : va_D A ws) (hS : va_S A s.heap H locs) (hA : ∀ q, s.heap.size ≤ q → A q) (hE : rf_EV ad A s)
    (hM : Met l y wsy rm (va_Pc (.ref b :: As) (rf_Pre D cA ad wc H.size)) (va_Qi (fun (r : Int32) (_ : Unit) => r = r0) (fun _ t => rf_Post D (va_A wc H.size) w1 t) (va_A wc H.size)) 0 0 (va_A wc H.size))
    (cw : CallW R s args own C index y bytes maxL ret wsy rm 0 0 n)
    (isC isR isN : List Nat) (hC : isC.map (fun i => ws[i]?) = wc.map some) (hnC : va_nd isC = true) (hR : isR.map (fun i => ws[i]?) = wr.map some) (hnR : va_nd isR = true) (hdis : ∀ i ∈ isR, i ∉ isC) (hN : isN.map (fun i => (wr ++ w1)[i]?) = wn.map some) (hnN : va_nd isN = true)
    (ci q0 : Nat) {fs : List Value} (h1 : ws[q0]? = some (b, .inr (ci, fs))) {q : vw_C} (h2 : vwCl[ci]? = some q) (h3 : q.1 = C)
    (hlen : As.length = n) (hst : st0 = As.reverse ++ .ref b :: rest) (hsize : ls.size = nL) (hW : 2 * 0 + (rest.map fun v => v.category).sum ≤ 8) (hdg : decode cc pc = .ok (.invokevirtual index, 3)) (hf : cells + 0 ≤ R.cells ∧ slots + 0 ≤ R.slots)
    (kk : ∀ (H1 : Heap) (locs1 : List Loc), va_P D vwCl wn H1 → va_D A wn → va_S A s.heap H1 locs1 → W p l e R s m args below meth c H1 locs1 cells slots Q (F0 m (pc + 3) ls (.int r0 :: rest))) : W p l e R s m args below meth c H locs cells slots Q (F0 m pc ls st0) := by
  subst h3
  have hF := va_free hD hS hA isC hC
  refine va_calli (va_runV (As := As) (rest := rest) S hM cw ⟨rf_blind, va_recv hK hP h2 h1, fun U hU hW => ⟨rfl, rf_pre hK hP hD hS hA hE isC hC hnC U hU hW⟩⟩ rfl hlen hsize hst hW hdg hf) hS (fun q _ h => hF q h) hF (fun r u t H1 locs1 ht hvm hw hB hz hk hS1 => ?_)
  subst hw
  obtain ⟨hP1, hD1⟩ := rf_back hP hD hS hA isC isR isN hC hR hnR hdis hN hnN ht hk hB
  exact kk H1 locs1 hP1 hD1 hS1
theorem rf_Vv (S : CallFix p m c cc nL s args Ts own) (hK : va_K D vwCl [(cA, .int)] s) (hP : va_P D vwCl ws H) (hD : va_D A ws) (hS : va_S A s.heap H locs) (hA : ∀ q, s.heap.size ≤ q → A q) (hE : rf_EV ad A s)
    (hM : Met l y wsy rm (va_Pc (.ref b :: As) (rf_Pre D cA ad wc H.size)) (va_Qv (fun (_ : Unit) => True) (fun _ t => rf_Post D (va_A wc H.size) w1 t) (va_A wc H.size)) 0 0 (va_A wc H.size))
    (cw : CallW R s args own C index y bytes maxL ret wsy rm 0 0 n)
    (isC isR isN : List Nat) (hC : isC.map (fun i => ws[i]?) = wc.map some) (hnC : va_nd isC = true) (hR : isR.map (fun i => ws[i]?) = wr.map some) (hnR : va_nd isR = true) (hdis : ∀ i ∈ isR, i ∉ isC) (hN : isN.map (fun i => (wr ++ w1)[i]?) = wn.map some) (hnN : va_nd isN = true)
    (ci q0 : Nat) {fs : List Value} (h1 : ws[q0]? = some (b, .inr (ci, fs))) {q : vw_C} (h2 : vwCl[ci]? = some q) (h3 : q.1 = C)
    (hlen : As.length = n) (hst : st0 = As.reverse ++ .ref b :: rest) (hsize : ls.size = nL) (hW : 2 * 0 + (rest.map fun v => v.category).sum ≤ 8) (hdg : decode cc pc = .ok (.invokevirtual index, 3)) (hf : cells + 0 ≤ R.cells ∧ slots + 0 ≤ R.slots)
    (kk : ∀ (H1 : Heap) (locs1 : List Loc), va_P D vwCl wn H1 → va_D A wn → va_S A s.heap H1 locs1 → W p l e R s m args below meth c H1 locs1 cells slots Q (F0 m (pc + 3) ls rest)) : W p l e R s m args below meth c H locs cells slots Q (F0 m pc ls st0) := by
  subst h3
  have hF := va_free hD hS hA isC hC
  refine va_callv (va_runV (As := As) (rest := rest) S hM cw ⟨rf_blind, va_recv hK hP h2 h1, fun U hU hW => ⟨rfl, rf_pre hK hP hD hS hA hE isC hC hnC U hU hW⟩⟩ rfl hlen hsize hst hW hdg hf) hS (fun q _ h => hF q h) hF (fun u t H1 locs1 ht hvm hw hB hz hk hS1 => ?_)
  obtain ⟨hP1, hD1⟩ := rf_back hP hD hS hA isC isR isN hC hR hnR hdis hN hnN ht hk hB
  exact kk H1 locs1 hP1 hD1 hS1
theorem rf_Si (S : CallFix p m c cc nL s args Ts own) (hK : va_K D vwCl [(cA, .int)] s) (hP : va_P D vwCl ws H) (hD : va_D A ws) (hS : va_S A s.heap H locs) (hA : ∀ q, s.heap.size ≤ q → A q) (hE : rf_EV ad A s)
    (hM : Met l y wsy rm (va_Pc As (rf_Pre D cA ad wc H.size)) (va_Qi (fun (r : Int32) (_ : Unit) => r = r0) (fun _ t => rf_Post D (va_A wc H.size) w1 t) (va_A wc H.size)) 0 0 (va_A wc H.size))
    (cw : CallB R s args own index y bytes maxL ret wsy rm 0 0 n ∧ (Cond.static y).before args s = true)
    (isC isR isN : List Nat) (hC : isC.map (fun i => ws[i]?) = wc.map some) (hnC : va_nd isC = true) (hR : isR.map (fun i => ws[i]?) = wr.map some) (hnR : va_nd isR = true) (hdis : ∀ i ∈ isR, i ∉ isC) (hN : isN.map (fun i => (wr ++ w1)[i]?) = wn.map some) (hnN : va_nd isN = true)
    (hlen : As.length = n) (hst : st0 = As.reverse ++ rest) (hsize : ls.size = nL) (hW : 2 * 0 + (rest.map fun v => v.category).sum ≤ 8) (hdg : decode cc pc = .ok (.invokestatic index, 3)) (hf : cells + 0 ≤ R.cells ∧ slots + 0 ≤ R.slots)
    (kk : ∀ (H1 : Heap) (locs1 : List Loc), va_P D vwCl wn H1 → va_D A wn → va_S A s.heap H1 locs1 → W p l e R s m args below meth c H1 locs1 cells slots Q (F0 m (pc + 3) ls (.int r0 :: rest))) : W p l e R s m args below meth c H locs cells slots Q (F0 m pc ls st0) := by
  have hF := va_free hD hS hA isC hC
  refine va_calli (va_runS (As := As) (rest := rest) S hM cw ⟨rf_blind, fun U hU hW => ⟨rfl, rf_pre hK hP hD hS hA hE isC hC hnC U hU hW⟩⟩ rfl hlen hsize hst hW hdg hf) hS (fun q _ h => hF q h) hF (fun r u t H1 locs1 ht hvm hw hB hz hk hS1 => ?_)
  subst hw
  obtain ⟨hP1, hD1⟩ := rf_back hP hD hS hA isC isR isN hC hR hnR hdis hN hnN ht hk hB
  exact kk H1 locs1 hP1 hD1 hS1
theorem rf_Sv (S : CallFix p m c cc nL s args Ts own) (hK : va_K D vwCl [(cA, .int)] s) (hP : va_P D vwCl ws H) (hD : va_D A ws) (hS : va_S A s.heap H locs) (hA : ∀ q, s.heap.size ≤ q → A q) (hE : rf_EV ad A s)
    (hM : Met l y wsy rm (va_Pc As (rf_Pre D cA ad wc H.size)) (va_Qv (fun (_ : Unit) => True) (fun _ t => rf_Post D (va_A wc H.size) w1 t) (va_A wc H.size)) 0 0 (va_A wc H.size))
    (cw : CallB R s args own index y bytes maxL ret wsy rm 0 0 n ∧ (Cond.static y).before args s = true)
    (isC isR isN : List Nat) (hC : isC.map (fun i => ws[i]?) = wc.map some) (hnC : va_nd isC = true) (hR : isR.map (fun i => ws[i]?) = wr.map some) (hnR : va_nd isR = true) (hdis : ∀ i ∈ isR, i ∉ isC) (hN : isN.map (fun i => (wr ++ w1)[i]?) = wn.map some) (hnN : va_nd isN = true)
    (hlen : As.length = n) (hst : st0 = As.reverse ++ rest) (hsize : ls.size = nL) (hW : 2 * 0 + (rest.map fun v => v.category).sum ≤ 8) (hdg : decode cc pc = .ok (.invokestatic index, 3)) (hf : cells + 0 ≤ R.cells ∧ slots + 0 ≤ R.slots)
    (kk : ∀ (H1 : Heap) (locs1 : List Loc), va_P D vwCl wn H1 → va_D A wn → va_S A s.heap H1 locs1 → W p l e R s m args below meth c H1 locs1 cells slots Q (F0 m (pc + 3) ls rest)) : W p l e R s m args below meth c H locs cells slots Q (F0 m pc ls st0) := by
  have hF := va_free hD hS hA isC hC
  refine va_callv (va_runS (As := As) (rest := rest) S hM cw ⟨rf_blind, fun U hU hW => ⟨rfl, rf_pre hK hP hD hS hA hE isC hC hnC U hU hW⟩⟩ rfl hlen hsize hst hW hdg hf) hS (fun q _ h => hF q h) hF (fun u t H1 locs1 ht hvm hw hB hz hk hS1 => ?_)
  obtain ⟨hP1, hD1⟩ := rf_back hP hD hS hA isC isR isN hC hR hnR hdis hN hnN ht hk hB
  exact kk H1 locs1 hP1 hD1 hS1
theorem rf_Ni {host : String} (S : CallFix p m c cc nL s args Ts own) (hK : va_K D vwCl [(cA, .int)] s) (hP : va_P D vwCl ws H) (hD : va_D A ws) (hS : va_S A s.heap H locs) (hA : ∀ q, s.heap.size ≤ q → A q) (hE : rf_EV ad A s)
    (hM : Met l y wsy rm (va_Pc As (rf_Pre D cA ad wc H.size)) (va_Qi (fun (r : Int32) (_ : Unit) => r = r0) (fun _ t => rf_Post D (va_A wc H.size) w1 t) (va_A wc H.size)) 0 0 (va_A wc H.size))
    (cw : va_CN R s args own index y host bytes maxL ret wsy rm 0 0 n ∧ (Cond.static y).before args s = true ∧ True)
    (isC isR isN : List Nat) (hC : isC.map (fun i => ws[i]?) = wc.map some) (hnC : va_nd isC = true) (hR : isR.map (fun i => ws[i]?) = wr.map some) (hnR : va_nd isR = true) (hdis : ∀ i ∈ isR, i ∉ isC) (hN : isN.map (fun i => (wr ++ w1)[i]?) = wn.map some) (hnN : va_nd isN = true)
    (hlen : As.length = n) (hst : st0 = As.reverse ++ rest) (hsize : ls.size = nL) (hW : 2 * 0 + (rest.map fun v => v.category).sum ≤ 8) (hdg : decode cc pc = .ok (.invokestatic index, 3)) (hf : cells + 0 ≤ R.cells ∧ slots + 0 ≤ R.slots)
    (kk : ∀ (H1 : Heap) (locs1 : List Loc), va_P D vwCl wn H1 → va_D A wn → va_S A s.heap H1 locs1 → W p l e R s m args below meth c H1 locs1 cells slots Q (F0 m (pc + 3) ls (.int r0 :: rest))) : W p l e R s m args below meth c H locs cells slots Q (F0 m pc ls st0) := by
  have hF := va_free hD hS hA isC hC
  refine va_calli (va_runSN (As := As) (rest := rest) S hM cw ⟨rf_blind, fun U hU hW => ⟨rfl, rf_pre hK hP hD hS hA hE isC hC hnC U hU hW⟩⟩ rfl hlen hsize hst hW hdg hf) hS (fun q _ h => hF q h) hF (fun r u t H1 locs1 ht hvm hw hB hz hk hS1 => ?_)
  subst hw
  obtain ⟨hP1, hD1⟩ := rf_back hP hD hS hA isC isR isN hC hR hnR hdis hN hnN ht hk hB
  exact kk H1 locs1 hP1 hD1 hS1
theorem rf_Nv {host : String} (S : CallFix p m c cc nL s args Ts own) (hK : va_K D vwCl [(cA, .int)] s) (hP : va_P D vwCl ws H) (hD : va_D A ws) (hS : va_S A s.heap H locs) (hA : ∀ q, s.heap.size ≤ q → A q) (hE : rf_EV ad A s)
    (hM : Met l y wsy rm (va_Pc As (rf_Pre D cA ad wc H.size)) (va_Qv (fun (_ : Unit) => True) (fun _ t => rf_Post D (va_A wc H.size) w1 t) (va_A wc H.size)) 0 0 (va_A wc H.size))
    (cw : va_CN R s args own index y host bytes maxL ret wsy rm 0 0 n ∧ (Cond.static y).before args s = true ∧ True)
    (isC isR isN : List Nat) (hC : isC.map (fun i => ws[i]?) = wc.map some) (hnC : va_nd isC = true) (hR : isR.map (fun i => ws[i]?) = wr.map some) (hnR : va_nd isR = true) (hdis : ∀ i ∈ isR, i ∉ isC) (hN : isN.map (fun i => (wr ++ w1)[i]?) = wn.map some) (hnN : va_nd isN = true)
    (hlen : As.length = n) (hst : st0 = As.reverse ++ rest) (hsize : ls.size = nL) (hW : 2 * 0 + (rest.map fun v => v.category).sum ≤ 8) (hdg : decode cc pc = .ok (.invokestatic index, 3)) (hf : cells + 0 ≤ R.cells ∧ slots + 0 ≤ R.slots)
    (kk : ∀ (H1 : Heap) (locs1 : List Loc), va_P D vwCl wn H1 → va_D A wn → va_S A s.heap H1 locs1 → W p l e R s m args below meth c H1 locs1 cells slots Q (F0 m (pc + 3) ls rest)) : W p l e R s m args below meth c H locs cells slots Q (F0 m pc ls st0) := by
  have hF := va_free hD hS hA isC hC
  refine va_callv (va_runSN (As := As) (rest := rest) S hM cw ⟨rf_blind, fun U hU hW => ⟨rfl, rf_pre hK hP hD hS hA hE isC hC hnC U hU hW⟩⟩ rfl hlen hsize hst hW hdg hf) hS (fun q _ h => hF q h) hF (fun u t H1 locs1 ht hvm hw hB hz hk hS1 => ?_)
  obtain ⟨hP1, hD1⟩ := rf_back hP hD hS hA isC isR isN hC hR hnR hdis hN hnN ht hk hB
  exact kk H1 locs1 hP1 hD1 hS1
end RFCall
section RFRow
variable {p : Program} {l : Launch} {e : Env} {R : Room} {s : State} {m : MethodId} {args : Array Value} {below : List Frame} {meth : Method} {c : Code} {H : Heap} {locs : List Loc} {cells slots : Nat} {Q : State → Prop}
variable {cc : ByteArray} {pc : Nat} {ls : Array Slot} {rest : List Value} {D : va_G} {cl : List vw_C} {A : Nat → Prop} {a : Nat} {tys : List (ClassId × FieldType)} {ws : va_W} {H0 : Heap}
theorem rf_in {i : Int32} {k n : Nat} (h0 : ¬ i < 0) (h1 : i.toNatClampNeg = k) (h2 : k < n) : vp_in i n := by
  intro h
  rcases h with h | h
  · exact h0 h
  · rw [h1] at h
    exact absurd h (Nat.not_le.mpr h2)
theorem rf_ialoadk (hexec : p.tables.exec = Jvm.exec) (hb : c.code = cc) (hK : va_K D cl tys s) (hP : va_P D cl ws H) (q0 t0 : Nat) {cA : ClassId} {n : Nat} {f : Nat → Int32} (ha : ws[q0]? = some (a, .inl (cA, n, .inl f))) (ht : tys[t0]? = some (cA, .int)) {i : Int32} {k : Nat} (h0 : ¬ i < 0) (h1 : i.toNatClampNeg = k) (h2 : k < n) (hdg : decode cc pc = .ok (.iaload, 1))
    (kk : W p l e R s m args below meth c H locs cells slots Q (F0 m (pc + 1) ls (.int (f k) :: rest))) : W p l e R s m args below meth c H locs cells slots Q (F0 m pc ls (.int i :: .ref a :: rest)) :=
  va_iald hexec hb hK hP q0 t0 ha ht (rf_in h0 h1 h2) hdg (by rw [h1]; exact kk)
theorem rf_iastorek (hexec : p.tables.exec = Jvm.exec) (hb : c.code = cc) (hK : va_K D cl tys s) (hP : va_P D cl ws H) (hD : va_D A ws) (hS : va_S A H0 H locs) (q0 t0 : Nat) {cA : ClassId} {n : Nat} {f : Nat → Int32} (ha : ws[q0]? = some (a, .inl (cA, n, .inl f))) (ht : tys[t0]? = some (cA, .int)) {i x : Int32} {k : Nat} (h0 : ¬ i < 0) (h1 : i.toNatClampNeg = k) (h2 : k < n) (hdg : decode cc pc = .ok (.iastore, 1))
    (kk : ∀ (H1 : Heap) (locs1 : List Loc), va_P D cl (ws.set q0 (a, .inl (cA, n, .inl (upd f k x)))) H1 → va_D A (ws.set q0 (a, .inl (cA, n, .inl (upd f k x)))) → va_S A H0 H1 locs1 → W p l e R s m args below meth c H1 locs1 cells slots Q (F0 m (pc + 1) ls rest)) : W p l e R s m args below meth c H locs cells slots Q (F0 m pc ls (.int x :: .int i :: .ref a :: rest)) := by
  subst h1
  exact va_iast hexec hb hK hP hD hS q0 t0 ha ht (rf_in h0 rfl h2) hdg kk
theorem rf_tabC (hexec : p.tables.exec = Jvm.exec) (hb : c.code = cc) {dflt lo hi : Int} {offs : Array Int} {len : Nat} {x k : Int32} {off : Int} {tgt : Nat} (hdg : decode cc pc = .ok (.tableswitch dflt lo hi offs, len)) (hk : x = k) (h1 : ¬ k.toInt < lo) (h2 : ¬ hi < k.toInt) (ho : offs[(k.toInt - lo).toNat]? = some off) (ht : (pc : Int) + off = (tgt : Int))
    (kk : W p l e R s m args below meth c H locs cells slots Q (F0 m tgt ls rest)) : W p l e R s m args below meth c H locs cells slots Q (F0 m pc ls (.int x :: rest)) := by
  subst hk
  exact lv_tableIn hexec hb hdg h1 h2 ho ht kk
theorem rf_tabD (hexec : p.tables.exec = Jvm.exec) (hb : c.code = cc) {dflt lo hi : Int} {offs : Array Int} {len : Nat} {x : Int32} {tgt : Nat} {ks : List Int32} (hdg : decode cc pc = .ok (.tableswitch dflt lo hi offs, len)) (hk : ∀ k ∈ ks, ¬ x = k) (hall : (List.range (hi - lo + 1).toNat).all (fun i => ks.any (fun k => k.toInt == lo + i) || offs[i]? == some dflt) = true) (ht : (pc : Int) + dflt = (tgt : Int))
    (kk : W p l e R s m args below meth c H locs cells slots Q (F0 m tgt ls rest)) : W p l e R s m args below meth c H locs cells slots Q (F0 m pc ls (.int x :: rest)) := by
  by_cases h : x.toInt < lo ∨ hi < x.toInt
  · exact lv_tableOut hexec hb hdg h ht kk
  · have h1 : ¬ x.toInt < lo := fun z => h (Or.inl z)
    have h2 : ¬ hi < x.toInt := fun z => h (Or.inr z)
    have hi1 : (x.toInt - lo).toNat ∈ List.range (hi - lo + 1).toNat := List.mem_range.mpr (by omega)
    have h3 := List.all_eq_true.mp hall _ hi1
    rcases Bool.or_eq_true_iff.mp h3 with h4 | h4
    · obtain ⟨k, hk1, hk2⟩ := List.any_eq_true.mp h4
      have hk3 : k.toInt = lo + ((x.toInt - lo).toNat : Int) := eq_of_beq hk2
      exact absurd (Int32.toInt_inj.mp (by omega : x.toInt = k.toInt)) (hk k hk1)
    · exact lv_tableIn hexec hb hdg h1 h2 (eq_of_beq h4) ht kk
theorem rf_lookC (hexec : p.tables.exec = Jvm.exec) (hb : c.code = cc) {dflt : Int} {ps : Array (Int × Int)} {len : Nat} {x k : Int32} {off : Int} {tgt : Nat} (hdg : decode cc pc = .ok (.lookupswitch dflt ps, len)) (hp : (ps.toList.zip (ps.toList.drop 1)).all (fun (a, next) => a.1 < next.1) = true) (hk : x = k) (ho : Op.lookupswitch.offset ps.toList dflt k.toInt = off) (ht : (pc : Int) + off = (tgt : Int))
    (kk : W p l e R s m args below meth c H locs cells slots Q (F0 m tgt ls rest)) : W p l e R s m args below meth c H locs cells slots Q (F0 m pc ls (.int x :: rest)) := by
  subst hk
  exact lv_lookup hexec hb hdg hp ho ht kk
theorem rf_lookN (dflt : Int) (x : Int32) : ∀ (l : List (Int × Int)) (ks : List Int32), l.map (·.1) = ks.map (·.toInt) → (∀ k ∈ ks, ¬ x = k) → Op.lookupswitch.offset l dflt x.toInt = dflt := by
  intro l
  induction l with
  | nil => intro ks _ _; rfl
  | cons a r ih =>
    intro ks h hk
    cases ks with
    | nil => cases h
    | cons k ks =>
      simp only [List.map_cons, List.cons.injEq] at h
      have h1 : ¬ a.1 = x.toInt := fun z => hk k List.mem_cons_self (Int32.toInt_inj.mp (z.symm.trans h.1))
      have h2 := ih ks h.2 (fun k' hk' => hk k' (List.mem_cons_of_mem _ hk'))
      rw [Op.lookupswitch.offset_cons]
      simp [h1, h2]
theorem rf_lookD (hexec : p.tables.exec = Jvm.exec) (hb : c.code = cc) {dflt : Int} {ps : Array (Int × Int)} {len : Nat} {x : Int32} {tgt : Nat} {ks : List Int32} (hdg : decode cc pc = .ok (.lookupswitch dflt ps, len)) (hp : (ps.toList.zip (ps.toList.drop 1)).all (fun (a, next) => a.1 < next.1) = true) (hk : ∀ k ∈ ks, ¬ x = k) (hks : ps.toList.map (·.1) = ks.map (·.toInt)) (ht : (pc : Int) + dflt = (tgt : Int))
    (kk : W p l e R s m args below meth c H locs cells slots Q (F0 m tgt ls rest)) : W p l e R s m args below meth c H locs cells slots Q (F0 m pc ls (.int x :: rest)) :=
  lv_lookup hexec hb hdg hp (rf_lookN dflt x _ ks hks hk) ht kk
theorem rf_arrx (hP : va_P D cl ws H) (hD : va_D A ws) (q0 : Nat) {cA : ClassId} {n : Nat} {f : Nat → Int32} (h : ws[q0]? = some (a, .inl (cA, n, .inl f))) (f' : Nat → Int32) (hf : ∀ j, j < n → f j = f' j) : va_P D cl (ws.set q0 (a, .inl (cA, n, .inl f'))) H ∧ va_D A (ws.set q0 (a, .inl (cA, n, .inl f'))) := by
  refine ⟨fun k q hk => ?_, hD.set h⟩
  by_cases hkq : q0 = k
  · subst hkq
    rw [List.getElem?_set_self (List.getElem?_eq_some_iff.mp h).1] at hk
    cases hk
    have h0 := hP q0 _ h
    show H[a]? = some (vp_cell cA (n, .inl f'))
    have h1 : H[a]? = some (vp_cell cA (n, .inl f)) := h0
    rw [h1]
    congr 1
    show arrV cA n (fun j => .int (f j)) = arrV cA n (fun j => .int (f' j))
    have he : (fun j : Fin n => Value.int (f j.val)) = fun j : Fin n => Value.int (f' j.val) := by
      funext j
      rw [hf j.val j.isLt]
    show ({ cls := cA, slots := Array.ofFn (n := n) fun j => Value.int (f j.val), vm := .none } : Cell) = { cls := cA, slots := Array.ofFn (n := n) fun j => Value.int (f' j.val), vm := .none }
    rw [he]
  · rw [List.getElem?_set_ne hkq] at hk
    exact hP k q hk
theorem rf_cpy {f g : Nat → Int32} {z n0 : Int32} {n j : Nat} (hz : z.toNatClampNeg = 0) (hn : n0.toNatClampNeg = n) (hj : j < n) : va_cpy f g z.toNatClampNeg z.toNatClampNeg n0.toNatClampNeg j = f j := by
  rw [hz, hn]
  simp [va_cpy, hj]
end RFRow
theorem rf_Met {l : Launch} {y : MethodName} {ws : List Cond} {rm : Room} {Pc : Array Value → State → Prop} {Qc Qc' : Array Value → State → Outcome → State → Prop} {mc ms : Nat} {free : Addr → Prop} (hM : Met l y ws rm Pc Qc mc ms free) (h : ∀ a st o t, Qc a st o t → Qc' a st o t) : Met l y ws rm Pc Qc' mc ms free := by
  intro p e ha h1 h2 s m args below hf happ hP hK
  obtain ⟨n, o, g1, g2, g3, g4⟩ := hM p e ha h1 h2 s m args below hf happ hP hK
  exact ⟨n, o, g1, g2, g3, h _ _ _ _ g4.1, g4.2⟩
/-- a static row's world: the row alone -/
def rf_PreT (t n : Nat) (f : Nat → Int32) (sz : Nat) (U : State) : Prop := U.heap.size = sz ∧ va_T .int t n (fun j => .int (f j)) (va_A [] sz) U U.heap
theorem rf_blindT {av : List Value} {t n : Nat} {f : Nat → Int32} {sz : Nat} : FrameBlind (va_Pc av (rf_PreT t n f sz)) := by
  intro a U g mk h
  obtain ⟨h0, h1, h2⟩ := h
  exact ⟨h0, h1, va_T.moved (u := U) (U := U.calling g mk a) (Vm.Alike.refl U.vm) h2⟩
section RFCallT
variable {p : Program} {l : Launch} {e : Env} {R : Room} {s : State} {m : MethodId} {args : Array Value} {below : List Frame} {meth : Method} {c : Code} {H : Heap} {locs : List Loc} {cells slots : Nat} {Q : State → Prop}
variable {cc bytes : ByteArray} {nL maxL n index pc : Nat} {Ts wsy : List Cond} {own C : String} {y : MethodName} {ret : Option FieldType} {rm : Room} {D : va_G} {cA : ClassId} {ad : Nat → Nat} {ws : va_W} {A : Nat → Prop} {r0 : Int32} {As rest st0 : List Value} {ls : Array Slot} {tt tn : Nat} {tf : Nat → Int32}
theorem rf_preT (hS : va_S A s.heap H locs) (hA : ∀ q, s.heap.size ≤ q → A q) (hT : va_T .int tt tn (fun j => .int (tf j)) A s s.heap) : ∀ U : State, U.heap = H → s.WarmedH U.vm → rf_PreT tt tn tf H.size U := by
  intro U hU hW
  refine ⟨by rw [hU], ?_⟩
  rw [hU]
  refine va_T.moved hW.alike ((hT.kept hS.2.1).narrow (fun q hq => ?_))
  rcases hq with ⟨k, e, h⟩ | h
  · simp at h
  · exact hA q (Nat.le_trans hS.1 h)
theorem rf_backT (hP : va_P D vwCl ws H) {H1 : Heap} (hk : ∀ q : Nat, q < H.size → ¬ va_A [] H.size q → H1[q]? = H[q]?) : va_P D vwCl ws H1 := by
  refine hP.kept (fun k x hx => hk x.1 (hP k x hx).lt (fun z => ?_))
  rcases z with ⟨k2, e, h⟩ | h
  · simp at h
  · exact absurd (hP k x hx).lt (Nat.not_lt.mpr h)
theorem rf_freeT (hS : va_S A s.heap H locs) (hA : ∀ q, s.heap.size ≤ q → A q) : ∀ q, va_A [] H.size q → A q := by
  intro q hq
  rcases hq with ⟨k, e, h⟩ | h
  · simp at h
  · exact hA q (Nat.le_trans hS.1 h)
theorem rf_SiT (S : CallFix p m c cc nL s args Ts own) (hK : va_K D vwCl [(cA, .int)] s) (hP : va_P D vwCl ws H) (hD : va_D A ws) (hS : va_S A s.heap H locs) (hA : ∀ q, s.heap.size ≤ q → A q) (hE : rf_EV ad A s)
    (hM : Met l y wsy rm (va_Pc As (rf_PreT tt tn tf H.size)) (va_Qi (fun (r : Int32) (_ : Unit) => r = r0) (fun _ _ => True) (va_A [] H.size)) 0 0 (va_A [] H.size))
    (cw : CallB R s args own index y bytes maxL ret wsy rm 0 0 n ∧ (Cond.static y).before args s = true)
    (hlen : As.length = n) (hst : st0 = As.reverse ++ rest) (hsize : ls.size = nL) (hW : 2 * 0 + (rest.map fun v => v.category).sum ≤ 8) (hdg : decode cc pc = .ok (.invokestatic index, 3)) (hf : cells + 0 ≤ R.cells ∧ slots + 0 ≤ R.slots) (hT : va_T .int tt tn (fun j => .int (tf j)) A s s.heap)
    (kk : ∀ (H1 : Heap) (locs1 : List Loc), va_P D vwCl ws H1 → va_D A ws → va_S A s.heap H1 locs1 → W p l e R s m args below meth c H1 locs1 cells slots Q (F0 m (pc + 3) ls (.int r0 :: rest))) : W p l e R s m args below meth c H locs cells slots Q (F0 m pc ls st0) := by
  have hF := rf_freeT hS hA
  refine va_calli (va_runS (As := As) (rest := rest) S hM cw ⟨rf_blindT, fun U hU hW => ⟨rfl, rf_preT hS hA hT U hU hW⟩⟩ rfl hlen hsize hst hW hdg hf) hS (fun q _ h => hF q h) hF (fun r u t H1 locs1 ht hvm hw hB hz hk hS1 => ?_)
  subst hw
  exact kk H1 locs1 (rf_backT hP hk) hD hS1
theorem rf_NiT {host : String} (S : CallFix p m c cc nL s args Ts own) (hK : va_K D vwCl [(cA, .int)] s) (hP : va_P D vwCl ws H) (hD : va_D A ws) (hS : va_S A s.heap H locs) (hA : ∀ q, s.heap.size ≤ q → A q) (hE : rf_EV ad A s)
    (hM : Met l y wsy rm (va_Pc As (rf_PreT tt tn tf H.size)) (va_Qi (fun (r : Int32) (_ : Unit) => r = r0) (fun _ _ => True) (va_A [] H.size)) 0 0 (va_A [] H.size))
    (cw : va_CN R s args own index y host bytes maxL ret wsy rm 0 0 n ∧ (Cond.static y).before args s = true ∧ True)
    (hlen : As.length = n) (hst : st0 = As.reverse ++ rest) (hsize : ls.size = nL) (hW : 2 * 0 + (rest.map fun v => v.category).sum ≤ 8) (hdg : decode cc pc = .ok (.invokestatic index, 3)) (hf : cells + 0 ≤ R.cells ∧ slots + 0 ≤ R.slots) (hT : va_T .int tt tn (fun j => .int (tf j)) A s s.heap)
    (kk : ∀ (H1 : Heap) (locs1 : List Loc), va_P D vwCl ws H1 → va_D A ws → va_S A s.heap H1 locs1 → W p l e R s m args below meth c H1 locs1 cells slots Q (F0 m (pc + 3) ls (.int r0 :: rest))) : W p l e R s m args below meth c H locs cells slots Q (F0 m pc ls st0) := by
  have hF := rf_freeT hS hA
  refine va_calli (va_runSN (As := As) (rest := rest) S hM cw ⟨rf_blindT, fun U hU hW => ⟨rfl, rf_preT hS hA hT U hU hW⟩⟩ rfl hlen hsize hst hW hdg hf) hS (fun q _ h => hF q h) hF (fun r u t H1 locs1 ht hvm hw hB hz hk hS1 => ?_)
  subst hw
  exact kk H1 locs1 (rf_backT hP hk) hD hS1
end RFCallT
theorem rf_fb {v : Int32} (h : v &&& 1 = v) : fits .boolean (.int v) = true := by
  have e := congrArg (fun z : Int32 => z.toBitVec.toNat) h
  have h1 : (v &&& 1).toBitVec.toNat = v.toBitVec.toNat % 2 := by
    simp [Nat.and_one_is_mod]
  have h2 : v.toBitVec.toNat = v.toBitVec.toNat % 2 := by
    rw [← h1]
    exact e.symm
  have h3 : v.toBitVec.toNat = 0 ∨ v.toBitVec.toNat = 1 := by omega
  show (v == 0 || v == 1) = true
  rcases h3 with h3 | h3
  · have : v = 0 := Int32.toBitVec_inj.mp (BitVec.eq_of_toNat_eq (by rw [h3]; rfl))
    subst this
    rfl
  · have : v = 1 := Int32.toBitVec_inj.mp (BitVec.eq_of_toNat_eq (by rw [h3]; rfl))
    subst this
    rfl
