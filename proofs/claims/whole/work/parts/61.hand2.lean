/-! a hand: its statements come; all of it -/
section RAHand2
theorem ra_st_utE (γ κ τ : Nat → Nat) {j v : Nat} : upd (ra_st γ κ τ) (16 + j) (nI v) = ra_st γ κ (ra_un τ j v) := by
  unfold ra_st
  rw [ra_upd]
  congr 1
  funext i
  unfold ra_un ra_jn
  by_cases e : i = 16 + j
  · subst e
    simp [show ¬ 16 + j < 10 by omega, show ¬ 16 + j < 16 by omega]
  · simp only [if_neg e]
    by_cases e1 : i < 10
    · simp only [if_pos e1]
    · simp only [if_neg e1]
      by_cases e2 : i < 16
      · simp only [if_pos e2]
      · simp only [if_neg e2]
        rw [if_neg (by omega)]
section
variable {L : Nat} {lt : Nat → Nat}
theorem ra_okd {st i : Nat} (h : ra_ok1 L lt st) (h1 : 1 ≤ i) (h2 : i + 1 < ra_sl (ra_cd0 L lt st)) (hc : ¬ (ra_cd0 L lt st = 112 ∧ i = 1)) : 48 ≤ ra_cd0 L lt (st + i) ∧ ra_cd0 L lt (st + i) ≤ 57 := by
  obtain ⟨k1, k2⟩ := h
  have h3 := ra_ff_all (f := ra_ft L lt st) (ra_sl (ra_cd0 L lt st) - 1) 1 (by unfold ra_R at k2; omega) i h1 (by omega)
  unfold ra_ft at h3
  rw [if_neg (by omega), if_neg hc] at h3
  exact of_decide_eq_true h3
theorem ra_okk {st : Nat} (h : ra_ok1 L lt st) (hc : ra_cd0 L lt st = 112) : ra_kd (ra_cd0 L lt (st + 1)) < 6 := by
  obtain ⟨k1, k2⟩ := h
  have hs : ra_sl (ra_cd0 L lt st) = 6 := by rw [hc]; rfl
  have h3 := ra_ff_all (f := ra_ft L lt st) (ra_sl (ra_cd0 L lt st) - 1) 1 (by unfold ra_R at k2; omega) 1 (by omega) (by omega)
  unfold ra_ft at h3
  rw [if_neg (by omega), if_pos ⟨hc, rfl⟩] at h3
  exact of_decide_eq_true h3
theorem rc_nuL (G : Nat → Nat) (hG : G 0 = L) (hL : L ≤ 96) (hlt : ∀ j, lt j ≤ 255) {p dg : Nat} (hp : p < 500) (hdg : dg ≤ 3) (hd : ∀ i, i < dg → 48 ≤ ra_cd0 L lt (p + i) ∧ ra_cd0 L lt (p + i) ≤ 57) : ∀ (d i m : Nat), i + d = dg → d < m →
    f_X2_numberAt_L5 (ra_nf G) (ra_nf lt) (nI p) (nI dg) m (nI (ra_nu L lt p i)) (nI i) = some (nI (ra_nu L lt p dg), nI dg) := by
  intro d
  induction d with
  | zero =>
    intro i m hi hm
    obtain ⟨m, rfl⟩ : ∃ q, m = q + 1 := ⟨m - 1, by omega⟩
    obtain rfl : i = dg := by omega
    rw [f_X2_numberAt_L5, if_pos (nI_le (Nat.le_refl _) (by omega))]
  | succ d ih =>
    intro i m hi hm
    obtain ⟨m, rfl⟩ : ∃ q, m = q + 1 := ⟨m - 1, by omega⟩
    have hv := hd i (by omega)
    have hla : ra_la L lt (p + i) = nI (ra_cd0 L lt (p + i)) := by
      rcases ra_laC (L := L) hlt (p + i) with ⟨e, h⟩ | ⟨e, h⟩
      · exact e
      · omega
    have e : nI (ra_nu L lt p i) * 10 + nI (ra_cd0 L lt (p + i)) - 48 = nI (ra_nu L lt p (i + 1)) := by
      have e1 : ra_nu L lt p (i + 1) = ra_nu L lt p i * 10 + ra_cd0 L lt (p + i) - 48 := by
        rw [Nat.mul_comm]
        rfl
      rw [e1, show (10 : Int32) = nI 10 from rfl, show (48 : Int32) = nI 48 from rfl, pk_mul, nI_add, pk_sub (by omega)]
    rw [f_X2_numberAt_L5, if_neg (nI_ge (by omega) (by omega)), nI_add, rc_letterAt G hG hL (by omega), Option.bind_some, hla, e, Option.bind_some, nI_1, Option.bind_some]
    exact ih (i + 1) m (by omega) (by omega)
theorem rc_num (G : Nat → Nat) (hG : G 0 = L) (hL : L ≤ 96) (hlt : ∀ j, lt j ≤ 255) {p dg : Nat} (hp : p < 500) (hdg : dg ≤ 3) (hd : ∀ i, i < dg → 48 ≤ ra_cd0 L lt (p + i) ∧ ra_cd0 L lt (p + i) ≤ 57) :
    f_X2_numberAt (ra_nf G) (ra_nf lt) (nI p) (nI dg) = some (nI (ra_nu L lt p dg)) := by
  have h1 := rc_nuL G hG hL hlt hp hdg hd dg 0 rf_fu (by omega) (by unfold rf_fu; omega)
  have h1 : f_X2_numberAt_L5 (ra_nf G) (ra_nf lt) (nI p) (nI dg) rf_fu 0 0 = _ := h1
  unfold f_X2_numberAt
  rw [h1]
  rfl
theorem ra_nu1 {p : Nat} (h0 : 48 ≤ ra_cd0 L lt p ∧ ra_cd0 L lt p ≤ 57) : ra_nu L lt p 1 ≤ 9 := by
  show 10 * 0 + ra_cd0 L lt (p + 0) - 48 ≤ 9
  rw [Nat.add_zero]
  omega
theorem ra_nu2 {p : Nat} (h0 : 48 ≤ ra_cd0 L lt p ∧ ra_cd0 L lt p ≤ 57) (h1 : 48 ≤ ra_cd0 L lt (p + 1) ∧ ra_cd0 L lt (p + 1) ≤ 57) : ra_nu L lt p 2 ≤ 99 := by
  have := ra_nu1 h0
  show 10 * ra_nu L lt p 1 + ra_cd0 L lt (p + 1) - 48 ≤ 99
  omega
theorem ra_nu3 {p : Nat} (h0 : 48 ≤ ra_cd0 L lt p ∧ ra_cd0 L lt p ≤ 57) (h1 : 48 ≤ ra_cd0 L lt (p + 1) ∧ ra_cd0 L lt (p + 1) ≤ 57) (h2 : 48 ≤ ra_cd0 L lt (p + 2) ∧ ra_cd0 L lt (p + 2) ≤ 57) : ra_nu L lt p 3 ≤ 999 := by
  have := ra_nu2 h0 h1
  show 10 * ra_nu L lt p 2 + ra_cd0 L lt (p + 2) - 48 ≤ 999
  omega
theorem rc_ts0 {γ : Nat → Nat} {v : Nat} (hv : v < 1000) : f_X0_takeSetting (ra_nf γ) 0 (nI v) = if 100 ≤ v ∧ v ≤ 250 then some (nI 1, ra_nf (ra_un γ 1 v)) else some (nI 0, ra_nf γ) := by
  unfold f_X0_takeSetting f_X0_change
  by_cases c1 : v < 100
  · rw [if_neg (show ¬ (100 ≤ v ∧ v ≤ 250) by omega)]
    simp (disch := omega) only [↓reduceIte, ra_lit, ra_nf_ap, ra_st_lo, nI_add, nI_clamp, nI_ltI, nI_leI, nI_eq, Option.bind_some, if_true, if_false, not_false_eq_true, not_true_eq_false, ra_ltT, ra_ltF, ra_leT, ra_leF, ra_eqT, ra_eqF, or_false, false_or, or_true, true_or, and_true, true_and, and_false, false_and, ra_at, ra_a00]
  · by_cases c2 : 250 < v
    · rw [if_neg (show ¬ (100 ≤ v ∧ v ≤ 250) by omega)]
      simp (disch := omega) only [↓reduceIte, ra_lit, ra_nf_ap, ra_st_lo, nI_add, nI_clamp, nI_ltI, nI_leI, nI_eq, Option.bind_some, if_true, if_false, not_false_eq_true, not_true_eq_false, ra_ltT, ra_ltF, ra_leT, ra_leF, ra_eqT, ra_eqF, or_false, false_or, or_true, true_or, and_true, true_and, and_false, false_and, ra_at, ra_a00, ra_a10]
    · rw [if_pos (show 100 ≤ v ∧ v ≤ 250 by omega)]
      simp (disch := omega) only [↓reduceIte, ra_lit, ra_nf_ap, ra_st_lo, nI_add, nI_clamp, nI_ltI, nI_leI, nI_eq, Option.bind_some, if_true, if_false, not_false_eq_true, not_true_eq_false, ra_ltT, ra_ltF, ra_leT, ra_leF, ra_eqT, ra_eqF, or_false, false_or, or_true, true_or, and_true, true_and, and_false, false_and, ra_at, ra_a00, ra_a10, ra_upd]
theorem rc_ts1 {γ : Nat → Nat} {v : Nat} (hv : v < 1000) : f_X0_takeSetting (ra_nf γ) 1 (nI v) = if 1 ≤ v ∧ v ≤ 9 then some (nI 1, ra_nf (ra_un γ 2 v)) else some (nI 0, ra_nf γ) := by
  unfold f_X0_takeSetting f_X0_change
  by_cases c1 : v < 1
  · rw [if_neg (show ¬ (1 ≤ v ∧ v ≤ 9) by omega)]
    simp (disch := omega) only [↓reduceIte, ra_lit, ra_nf_ap, ra_st_lo, nI_add, nI_clamp, nI_ltI, nI_leI, nI_eq, Option.bind_some, if_true, if_false, not_false_eq_true, not_true_eq_false, ra_ltT, ra_ltF, ra_leT, ra_leF, ra_eqT, ra_eqF, or_false, false_or, or_true, true_or, and_true, true_and, and_false, false_and, ra_at, ra_a01]
  · by_cases c2 : 9 < v
    · rw [if_neg (show ¬ (1 ≤ v ∧ v ≤ 9) by omega)]
      simp (disch := omega) only [↓reduceIte, ra_lit, ra_nf_ap, ra_st_lo, nI_add, nI_clamp, nI_ltI, nI_leI, nI_eq, Option.bind_some, if_true, if_false, not_false_eq_true, not_true_eq_false, ra_ltT, ra_ltF, ra_leT, ra_leF, ra_eqT, ra_eqF, or_false, false_or, or_true, true_or, and_true, true_and, and_false, false_and, ra_at, ra_a01, ra_a11]
    · rw [if_pos (show 1 ≤ v ∧ v ≤ 9 by omega)]
      simp (disch := omega) only [↓reduceIte, ra_lit, ra_nf_ap, ra_st_lo, nI_add, nI_clamp, nI_ltI, nI_leI, nI_eq, Option.bind_some, if_true, if_false, not_false_eq_true, not_true_eq_false, ra_ltT, ra_ltF, ra_leT, ra_leF, ra_eqT, ra_eqF, or_false, false_or, or_true, true_or, and_true, true_and, and_false, false_and, ra_at, ra_a01, ra_a11, ra_upd]
theorem rc_ts2 {γ : Nat → Nat} {v : Nat} (hv : v < 1000) : f_X0_takeSetting (ra_nf γ) 2 (nI v) = if v ≤ 30 then some (nI 1, ra_nf (ra_un γ 4 v)) else some (nI 0, ra_nf γ) := by
  unfold f_X0_takeSetting f_X0_change
  by_cases c2 : 30 < v
  · rw [if_neg (show ¬ v ≤ 30 by omega)]
    simp (disch := omega) only [↓reduceIte, ra_lit, ra_nf_ap, ra_st_lo, nI_add, nI_clamp, nI_ltI, nI_leI, nI_eq, Option.bind_some, if_true, if_false, not_false_eq_true, not_true_eq_false, ra_ltT, ra_ltF, ra_leT, ra_leF, ra_eqT, ra_eqF, or_false, false_or, or_true, true_or, and_true, true_and, and_false, false_and, ra_at, ra_a02, ra_a12]
  · rw [if_pos (show v ≤ 30 by omega)]
    simp (disch := omega) only [↓reduceIte, ra_lit, ra_nf_ap, ra_st_lo, nI_add, nI_clamp, nI_ltI, nI_leI, nI_eq, Option.bind_some, if_true, if_false, not_false_eq_true, not_true_eq_false, ra_ltT, ra_ltF, ra_leT, ra_leF, ra_eqT, ra_eqF, or_false, false_or, or_true, true_or, and_true, true_and, and_false, false_and, ra_at, ra_a02, ra_a12, ra_upd]
theorem rc_ts3 {γ : Nat → Nat} {v : Nat} (hv : v < 1000) : f_X0_takeSetting (ra_nf γ) 3 (nI v) = if v ≤ 20 then some (nI 1, ra_nf (ra_un γ 5 v)) else some (nI 0, ra_nf γ) := by
  unfold f_X0_takeSetting f_X0_change
  by_cases c2 : 20 < v
  · rw [if_neg (show ¬ v ≤ 20 by omega)]
    simp (disch := omega) only [↓reduceIte, ra_lit, ra_nf_ap, ra_st_lo, nI_add, nI_clamp, nI_ltI, nI_leI, nI_eq, Option.bind_some, if_true, if_false, not_false_eq_true, not_true_eq_false, ra_ltT, ra_ltF, ra_leT, ra_leF, ra_eqT, ra_eqF, or_false, false_or, or_true, true_or, and_true, true_and, and_false, false_and, ra_at, ra_a03, ra_a13]
  · rw [if_pos (show v ≤ 20 by omega)]
    simp (disch := omega) only [↓reduceIte, ra_lit, ra_nf_ap, ra_st_lo, nI_add, nI_clamp, nI_ltI, nI_leI, nI_eq, Option.bind_some, if_true, if_false, not_false_eq_true, not_true_eq_false, ra_ltT, ra_ltF, ra_leT, ra_leF, ra_eqT, ra_eqF, or_false, false_or, or_true, true_or, and_true, true_and, and_false, false_and, ra_at, ra_a03, ra_a13, ra_upd]
theorem rc_ts4 {γ : Nat → Nat} {v : Nat} (hv : v ≤ 9) : f_X0_takeSetting (ra_nf γ) 4 (nI v) = some (nI 1, ra_nf (ra_un γ 7 v)) := by
  unfold f_X0_takeSetting f_X0_change
  simp (disch := omega) only [↓reduceIte, ra_lit, ra_nf_ap, ra_st_lo, nI_add, nI_clamp, nI_ltI, nI_leI, nI_eq, Option.bind_some, if_true, if_false, not_false_eq_true, not_true_eq_false, ra_ltT, ra_ltF, ra_leT, ra_leF, ra_eqT, ra_eqF, or_false, false_or, or_true, true_or, and_true, true_and, and_false, false_and, ra_at, ra_a04, ra_a14, ra_upd]
theorem ra_bb1 : nI 1 &&& 1 = nI 1 := by decide
theorem ra_bb0 : nI 0 &&& 1 = nI 0 := by decide
theorem ra_fin1 (g a b : Nat → Int32) : ((some ((1 : Int32), g)).bind fun (q : Int32 × (Nat → Int32)) => if q.1 &&& 1 = q.1 then some (q.1, q.2, a, b) else none) = some (nI 1, g, a, b) := by
  rw [Option.bind_some]
  exact if_pos ra_bb1
theorem ra_fin0 (g a b : Nat → Int32) : ((some ((0 : Int32), g)).bind fun (q : Int32 × (Nat → Int32)) => if q.1 &&& 1 = q.1 then some (q.1, q.2, a, b) else none) = some (nI 0, g, a, b) := by
  rw [Option.bind_some]
  exact if_pos ra_bb0
/-- a statement comes, both sides -/
def ra_tks (G M' : Nat → Nat) (lt γ κ τ : Nat → Nat) (st : Nat) (c : Int32) (nums : Nat → Int32) : Prop :=
  (∃ γ' κ' τ', f_X2_takeStatement (ra_nf G) (ra_nf γ) (ra_nf κ) (ra_nf τ) (ra_nf lt) (nI st) = some (nI 1, ra_nf γ', ra_nf κ', ra_nf τ') ∧ f_X3_comes (ra_nf M') (ra_st γ κ τ) nums c = some (nI 1, ra_st γ' κ' τ') ∧ ra_ok γ' κ' τ' ∧ γ' 8 ≤ 999) ∨
  (∃ a b c' s', f_X2_takeStatement (ra_nf G) (ra_nf γ) (ra_nf κ) (ra_nf τ) (ra_nf lt) (nI st) = some (nI 0, a, b, c') ∧ f_X3_comes (ra_nf M') (ra_st γ κ τ) nums c = some (nI 0, s'))
theorem ra_take {γ κ τ : Nat → Nat} (G M' : Nat → Nat) (hG : G 0 = L) (hL : L ≤ 96) (hlt : ∀ j, lt j ≤ 255) {st : Nat} (hst : st < 400) (h : ra_ok γ κ τ) (h8' : γ 8 ≤ 999) (hok : ra_ok1 L lt st) (nums : Nat → Int32) (hn : ra_ns L lt st nums) :
    ra_tks G M' lt γ κ τ st (ra_la L lt st) nums := by
  obtain ⟨h0, h1, h2, h3, h4, h5, h6, h7, h8, h9, h10, h11⟩ := id h
  have hla := rc_letterAt (lt := lt) G hG hL (p := st) (by omega)
  unfold ra_tks f_X2_takeStatement f_X3_comes
  rw [hla, Option.bind_some, Option.bind_some, Option.bind_some]
  by_cases c99 : ra_cd0 L lt st = 99
  · have hs : ra_sl (ra_cd0 L lt st) = 4 := by rw [c99]; rfl
    have e : ra_la L lt st = 99 := (ra_laI (v := 99) hlt (by decide) (by decide)).mpr c99
    have d1 := ra_okd hok (i := 1) (by omega) (by omega) (by omega)
    have d2 := ra_okd hok (i := 2) (by omega) (by omega) (by omega)
    have hv := ra_nu2 d1 d2
    have hnum : f_X2_numberAt (ra_nf G) (ra_nf lt) (nI st + 1) 2 = some (nI (ra_nu L lt (st + 1) 2)) := by
      rw [show nI st + 1 = nI (st + 1) from nI_add st 1, show (2 : Int32) = nI 2 from rfl]
      exact rc_num G hG hL hlt (p := st + 1) (dg := 2) (by omega) (by decide) (fun i hi => by
        have : i = 0 ∨ i = 1 := by omega
        rcases this with rfl | rfl
        · exact d1
        · exact d2)
    unfold ra_ns at hn
    rw [if_neg (by omega), if_neg (by omega), hs] at hn
    have hn : nums 0 = nI (ra_nu L lt (st + 1) 2) := hn
    generalize ra_nu L lt (st + 1) 2 = v at hn hv hnum
    rw [e, if_pos rfl, if_pos rfl, hnum, Option.bind_some, rc_ts3 (by omega), hn]
    by_cases c : v ≤ 20
    · left
      refine ⟨ra_un γ 5 v, κ, τ, ?_, ?_, ⟨h0, h1, h2, h3, h4, h5, h6, c, h8, h9, h10, h11⟩, h8'⟩
      · rw [if_pos c, Option.bind_some, if_pos ra_bb1]
      · rw [if_neg (show ¬ (20 : Int32) < nI v from nI_nlt (a := 20) (b := v) c (by decide)), ra_st_u _ _ _ (by decide)]
        rfl
    · right
      refine ⟨ra_nf γ, ra_nf κ, ra_nf τ, upd (ra_st γ κ τ) 5 (nI v), ?_, ?_⟩
      · rw [if_neg c, Option.bind_some, if_pos ra_bb0]
      · rw [if_pos (show (20 : Int32) < nI v from nI_lt (a := 20) (b := v) (by omega) (by omega))]
        rfl
  rw [if_neg (show ¬ ra_la L lt st = 99 from fun z => c99 ((ra_laI (v := 99) hlt (by decide) (by decide)).mp z)), if_neg (show ¬ ra_la L lt st = 99 from fun z => c99 ((ra_laI (v := 99) hlt (by decide) (by decide)).mp z))]
  by_cases c104 : ra_cd0 L lt st = 104
  · have hs : ra_sl (ra_cd0 L lt st) = 3 := by rw [c104]; rfl
    have e : ra_la L lt st = 104 := (ra_laI (v := 104) hlt (by decide) (by decide)).mpr c104
    have d1 := ra_okd hok (i := 1) (by omega) (by omega) (by omega)
    have hv := ra_nu1 d1
    have hnum : f_X2_numberAt (ra_nf G) (ra_nf lt) (nI st + 1) 1 = some (nI (ra_nu L lt (st + 1) 1)) := by
      rw [show nI st + 1 = nI (st + 1) from nI_add st 1, show (1 : Int32) = nI 1 from rfl]
      exact rc_num G hG hL hlt (p := st + 1) (dg := 1) (by omega) (by decide) (fun i hi => by
        have : i = 0 := by omega
        rcases this with rfl
        exact d1)
    unfold ra_ns at hn
    rw [if_neg (by omega), if_neg (by omega), hs] at hn
    have hn : nums 0 = nI (ra_nu L lt (st + 1) 1) := hn
    generalize ra_nu L lt (st + 1) 1 = v at hn hv hnum
    rw [e, if_pos rfl, if_pos rfl, hnum, Option.bind_some, rc_ts4 hv, hn]
    left
    refine ⟨ra_un γ 7 v, κ, τ, ?_, ?_, ⟨h0, h1, h2, h3, h4, h5, h6, h7, h8, hv, h10, h11⟩, h8'⟩
    · rw [Option.bind_some, if_pos ra_bb1]
    · rw [ra_st_u _ _ _ (by decide)]
      rfl
  rw [if_neg (show ¬ ra_la L lt st = 104 from fun z => c104 ((ra_laI (v := 104) hlt (by decide) (by decide)).mp z)), if_neg (show ¬ ra_la L lt st = 104 from fun z => c104 ((ra_laI (v := 104) hlt (by decide) (by decide)).mp z))]
  by_cases c112 : ra_cd0 L lt st = 112
  · have hs : ra_sl (ra_cd0 L lt st) = 6 := by rw [c112]; rfl
    have e : ra_la L lt st = 112 := (ra_laI (v := 112) hlt (by decide) (by decide)).mpr c112
    have hk := ra_okk hok c112
    have d2 := ra_okd hok (i := 2) (by omega) (by omega) (by omega)
    have d3 := ra_okd hok (i := 3) (by omega) (by omega) (by omega)
    have d4 := ra_okd hok (i := 4) (by omega) (by omega) (by omega)
    have hv := ra_nu3 d2 d3 d4
    have hnum : f_X2_numberAt (ra_nf G) (ra_nf lt) (nI st + 2) 3 = some (nI (ra_nu L lt (st + 2) 3)) := by
      rw [show nI st + 2 = nI (st + 2) from nI_add st 2, show (3 : Int32) = nI 3 from rfl]
      exact rc_num G hG hL hlt (p := st + 2) (dg := 3) (by omega) (by decide) (fun i hi => by
        have : i = 0 ∨ i = 1 ∨ i = 2 := by omega
        rcases this with rfl | rfl | rfl
        · exact d2
        · exact d3
        · exact d4)
    have hla1 := rc_letterAt (lt := lt) G hG hL (p := st + 1) (by omega)
    unfold ra_ns at hn
    rw [if_pos c112] at hn
    obtain ⟨hn1, hn0⟩ := hn
    rw [e, if_pos rfl, if_pos rfl, nI_1, hla1, Option.bind_some, rc_kindOf hlt, if_pos hk, Option.bind_some, hnum, Option.bind_some, hn1, hn0]
    generalize ra_nu L lt (st + 2) 3 = v at hv
    generalize ra_kd (ra_cd0 L lt (st + 1)) = k at hk
    by_cases c : v ≤ 240 ∧ γ 0 < 6 ∧ (γ 0 = 0 ∨ γ 3 < γ 0)
    · obtain ⟨cv, c6, co⟩ := c
      left
      have hok' : ra_ok (ra_un γ 0 (γ 0 + 1)) (ra_un κ (γ 0) k) (ra_un τ (γ 0) v) := ⟨c6, Nat.le_succ_of_le h1, h2, h3, h4, h5, h6, h7, h8, h9, fun j => by
          unfold ra_un
          split
          · omega
          · exact h10 j, fun j => by
          unfold ra_un
          split
          · exact cv
          · exact h11 j⟩
      refine ⟨ra_un γ 0 (γ 0 + 1), ra_un κ (γ 0) k, ra_un τ (γ 0) v, ?_, ?_, hok', h8'⟩
      · unfold f_X0_takePart
        by_cases z : γ 0 = 0
        · simp (disch := omega) only [↓reduceIte, ra_lit, ra_nf_ap, ra_st_lo, nI_add, nI_clamp, nI_ltI, nI_leI, nI_eq, Option.bind_some, if_true, if_false, not_false_eq_true, not_true_eq_false, ra_ltT, ra_ltF, ra_leT, ra_leF, ra_eqT, ra_eqF, or_false, false_or, or_true, true_or, and_true, true_and, and_false, false_and, ra_put, ra_upd]
          rfl
        · have ho : γ 3 < γ 0 := by omega
          rw [rc_isOff γ (by omega) (by omega), if_pos ho]
          simp (disch := omega) only [↓reduceIte, ra_lit, ra_nf_ap, ra_st_lo, nI_add, nI_clamp, nI_ltI, nI_leI, nI_eq, Option.bind_some, if_true, if_false, not_false_eq_true, not_true_eq_false, ra_ltT, ra_ltF, ra_leT, ra_leF, ra_eqT, ra_eqF, or_false, false_or, or_true, true_or, and_true, true_and, and_false, false_and, ra_put, ra_upd]
          rfl
      · have e16 : ∀ x : Nat, upd (ra_st γ κ τ) (10 + γ 0) (nI k) 0 = nI (γ 0) := fun _ => by
          rw [ra_st_uk _ _ _ c6, ra_st_lo _ _ _ (by decide)]
        have fin : (some ((upd (upd (ra_st γ κ τ) (10 + γ 0) (nI k)) (16 + γ 0) (nI v)) 0 + 1)).bind (fun v12 => some ((1 : Int32), upd (upd (upd (ra_st γ κ τ) (10 + γ 0) (nI k)) (16 + γ 0) (nI v)) 0 v12)) = some (nI 1, ra_st (ra_un γ 0 (γ 0 + 1)) (ra_un κ (γ 0) k) (ra_un τ (γ 0) v)) := by
          rw [ra_st_uk _ _ _ c6, ra_st_utE, ra_st_lo _ _ _ (by decide), nI_1, Option.bind_some, ra_st_u _ _ _ (by decide)]
          rfl
        have x10 : (10 + ra_st γ κ τ 0).toNatClampNeg = 10 + γ 0 := by
          rw [ra_st_lo _ _ _ (by decide)]
          show (nI 10 + nI (γ 0)).toNatClampNeg = _
          rw [nI_add, nI_clamp (by omega)]
        have i10 : ¬ (10 + ra_st γ κ τ 0 < 0 ∨ 22 ≤ (10 + ra_st γ κ τ 0).toNatClampNeg) := by
          rw [ra_st_lo _ _ _ (by decide)]
          show ¬ (nI 10 + nI (γ 0) < 0 ∨ 22 ≤ (nI 10 + nI (γ 0)).toNatClampNeg)
          rw [nI_add]
          exact nI_in (by omega) (by decide)
        have x16 : (16 + nI (γ 0)).toNatClampNeg = 16 + γ 0 := by
          show (nI 16 + nI (γ 0)).toNatClampNeg = _
          rw [nI_add, nI_clamp (by omega)]
        have i16 : ¬ (16 + nI (γ 0) < 0 ∨ 22 ≤ (16 + nI (γ 0)).toNatClampNeg) := by
          show ¬ (nI 16 + nI (γ 0) < 0 ∨ 22 ≤ (nI 16 + nI (γ 0)).toNatClampNeg)
          rw [nI_add]
          exact nI_in (by omega) (by decide)
        have body : (if ¬ (10 + ra_st γ κ τ 0 < 0 ∨ 22 ≤ (10 + ra_st γ κ τ 0).toNatClampNeg) then if ¬ ((16 + ((upd (ra_st γ κ τ) ((10 + ra_st γ κ τ 0).toNatClampNeg) (nI k)) 0)) < 0 ∨ 22 ≤ (16 + ((upd (ra_st γ κ τ) ((10 + ra_st γ κ τ 0).toNatClampNeg) (nI k)) 0)).toNatClampNeg) then (some (((upd (upd (ra_st γ κ τ) ((10 + ra_st γ κ τ 0).toNatClampNeg) (nI k)) ((16 + ((upd (ra_st γ κ τ) ((10 + ra_st γ κ τ 0).toNatClampNeg) (nI k)) 0)).toNatClampNeg) (nI v)) 0) + 1)).bind (fun (v12 : Int32) => some ((1 : Int32), (upd (upd (upd (ra_st γ κ τ) ((10 + ra_st γ κ τ 0).toNatClampNeg) (nI k)) ((16 + ((upd (ra_st γ κ τ) ((10 + ra_st γ κ τ 0).toNatClampNeg) (nI k)) 0)).toNatClampNeg) (nI v)) 0 v12))) else none else none) = some (nI 1, ra_st (ra_un γ 0 (γ 0 + 1)) (ra_un κ (γ 0) k) (ra_un τ (γ 0) v)) := by
          rw [if_pos i10, x10, e16 0, if_pos i16, x16]
          exact fin
        rw [if_neg (show ¬ (240 : Int32) < nI v from nI_nlt (a := 240) (b := v) cv (by decide))]
        have n6 : ¬ ra_st γ κ τ 0 = 6 := by
          rw [ra_st_lo _ _ _ (by decide)]
          exact fun z => by
            have := (nI_eq (b := 6) (by omega) (by decide)).mp z
            omega
        rw [if_neg n6]
        by_cases z : γ 0 = 0
        · rw [if_pos (show ra_st γ κ τ 0 ≤ 0 by rw [ra_st_lo _ _ _ (by decide)]; exact nI_le (b := 0) (by omega) (by decide))]
          exact body
        · rw [if_neg (show ¬ ra_st γ κ τ 0 ≤ 0 by rw [ra_st_lo _ _ _ (by decide)]; exact nI_nle (by omega) (by omega)), rr_isOff M' γ κ τ (by omega) (by omega), if_pos (show γ 3 < γ 0 by omega), Option.bind_some, if_pos (show nI 0 = 0 from rfl)]
          exact body
    · right
      refine ⟨ra_nf γ, ra_nf κ, ra_nf τ, ra_st γ κ τ, ?_, ?_⟩
      · unfold f_X0_takePart
        rw [rc_isOff γ (by omega) (by omega)]
        by_cases z : γ 0 = 0
        · simp (disch := omega) only [↓reduceIte, ra_lit, ra_nf_ap, ra_st_lo, nI_add, nI_clamp, nI_ltI, nI_leI, nI_eq, Option.bind_some, if_true, if_false, not_false_eq_true, not_true_eq_false, ra_ltT, ra_ltF, ra_leT, ra_leF, ra_eqT, ra_eqF, or_false, false_or, or_true, true_or, and_true, true_and, and_false, false_and]
          rfl
        · by_cases ho : γ 3 < γ 0
          · by_cases cv : 240 < v
            · simp (disch := omega) only [↓reduceIte, ra_lit, ra_nf_ap, ra_st_lo, nI_add, nI_clamp, nI_ltI, nI_leI, nI_eq, Option.bind_some, if_true, if_false, not_false_eq_true, not_true_eq_false, ra_ltT, ra_ltF, ra_leT, ra_leF, ra_eqT, ra_eqF, or_false, false_or, or_true, true_or, and_true, true_and, and_false, false_and, if_pos ho]
              rfl
            · simp (disch := omega) only [↓reduceIte, ra_lit, ra_nf_ap, ra_st_lo, nI_add, nI_clamp, nI_ltI, nI_leI, nI_eq, Option.bind_some, if_true, if_false, not_false_eq_true, not_true_eq_false, ra_ltT, ra_ltF, ra_leT, ra_leF, ra_eqT, ra_eqF, or_false, false_or, or_true, true_or, and_true, true_and, and_false, false_and, if_pos ho]
              rfl
          · by_cases cv : 240 < v
            · simp (disch := omega) only [↓reduceIte, ra_lit, ra_nf_ap, ra_st_lo, nI_add, nI_clamp, nI_ltI, nI_leI, nI_eq, Option.bind_some, if_true, if_false, not_false_eq_true, not_true_eq_false, ra_ltT, ra_ltF, ra_leT, ra_leF, ra_eqT, ra_eqF, or_false, false_or, or_true, true_or, and_true, true_and, and_false, false_and, if_neg ho]
              rfl
            · simp (disch := omega) only [↓reduceIte, ra_lit, ra_nf_ap, ra_st_lo, nI_add, nI_clamp, nI_ltI, nI_leI, nI_eq, Option.bind_some, if_true, if_false, not_false_eq_true, not_true_eq_false, ra_ltT, ra_ltF, ra_leT, ra_leF, ra_eqT, ra_eqF, or_false, false_or, or_true, true_or, and_true, true_and, and_false, false_and, if_neg ho]
              rfl
      · by_cases cv : 240 < v
        · rw [if_pos (show (240 : Int32) < nI v from nI_lt (a := 240) (b := v) cv (by omega))]
          rfl
        · rw [if_neg (show ¬ (240 : Int32) < nI v from nI_nlt (a := 240) (b := v) (by omega) (by decide))]
          by_cases c6 : γ 0 = 6
          · rw [if_pos (show ra_st γ κ τ 0 = 6 by rw [ra_st_lo _ _ _ (by decide), c6]; rfl)]
            rfl
          · rw [if_neg (show ¬ ra_st γ κ τ 0 = 6 by
              rw [ra_st_lo _ _ _ (by decide)]
              exact fun z => by
                have := (nI_eq (b := 6) (by omega) (by decide)).mp z
                omega)]
            rw [if_neg (show ¬ ra_st γ κ τ 0 ≤ 0 by rw [ra_st_lo _ _ _ (by decide)]; exact nI_nle (by omega) (by omega)), rr_isOff M' γ κ τ (by omega) (by omega), if_neg (show ¬ γ 3 < γ 0 by omega), Option.bind_some, if_neg (show ¬ nI 1 = 0 by decide)]
            rfl
  rw [if_neg (show ¬ ra_la L lt st = 112 from fun z => c112 ((ra_laI (v := 112) hlt (by decide) (by decide)).mp z)), if_neg (show ¬ ra_la L lt st = 112 from fun z => c112 ((ra_laI (v := 112) hlt (by decide) (by decide)).mp z))]
  by_cases c114 : ra_cd0 L lt st = 114
  · have hs : ra_sl (ra_cd0 L lt st) = 6 := by rw [c114]; rfl
    have e : ra_la L lt st = 114 := (ra_laI (v := 114) hlt (by decide) (by decide)).mpr c114
    have d1 := ra_okd hok (i := 1) (by omega) (by omega) (by omega)
    have d2 := ra_okd hok (i := 2) (by omega) (by omega) (by omega)
    have d3 := ra_okd hok (i := 3) (by omega) (by omega) (by omega)
    have d4 := ra_okd hok (i := 4) (by omega) (by omega) (by omega)
    have hv := ra_nu3 d1 d2 d3
    have hw := ra_nu1 d4
    have hnum : f_X2_numberAt (ra_nf G) (ra_nf lt) (nI st + 1) 3 = some (nI (ra_nu L lt (st + 1) 3)) := by
      rw [show nI st + 1 = nI (st + 1) from nI_add st 1, show (3 : Int32) = nI 3 from rfl]
      exact rc_num G hG hL hlt (p := st + 1) (dg := 3) (by omega) (by decide) (fun i hi => by
        have : i = 0 ∨ i = 1 ∨ i = 2 := by omega
        rcases this with rfl | rfl | rfl
        · exact d1
        · exact d2
        · exact d3)
    have hnum2 : f_X2_numberAt (ra_nf G) (ra_nf lt) (nI st + 4) 1 = some (nI (ra_nu L lt (st + 4) 1)) := by
      rw [show nI st + 4 = nI (st + 4) from nI_add st 4, show (1 : Int32) = nI 1 from rfl]
      exact rc_num G hG hL hlt (p := st + 4) (dg := 1) (by omega) (by decide) (fun i hi => by
        have : i = 0 := by omega
        rcases this with rfl
        exact d4)
    unfold ra_ns at hn
    rw [if_neg (by omega), if_pos c114] at hn
    obtain ⟨hn0, hn1⟩ := hn
    generalize ra_nu L lt (st + 1) 3 = v at hn0 hv hnum
    generalize ra_nu L lt (st + 4) 1 = w at hn1 hw hnum2
    rw [e, if_pos rfl, if_pos rfl, hnum, Option.bind_some, rc_ts0 (by omega), hn0, hn1]
    have hin : f_X3_isIn (nI v) 100 250 = some (nI (if 100 ≤ v ∧ v ≤ 250 then 1 else 0)) := rr_isIn (by omega) (lo := 100) (hi := 250) (by decide) (by decide)
    rw [hin, Option.bind_some]
    by_cases c : 100 ≤ v ∧ v ≤ 250
    · rw [if_pos c, if_pos c, Option.bind_some, if_neg (show ¬ nI 1 = 0 by decide), if_neg (show ¬ nI 1 = 0 by decide), hnum2, Option.bind_some, rc_ts1 (by omega)]
      by_cases c1 : 1 ≤ w ∧ w ≤ 9
      · left
        refine ⟨ra_un (ra_un γ 1 v) 2 w, κ, τ, ?_, ?_, ⟨h0, h1, c.1, c.2, c1.1, c1.2, h6, h7, h8, h9, h10, h11⟩, h8'⟩
        · rw [if_pos c1, Option.bind_some, if_neg (show ¬ nI 1 = 0 by decide)]
          rfl
        · rw [if_neg (nI_nle (by omega) (by omega)), ra_st_u _ _ _ (by decide), ra_st_u _ _ _ (by decide)]
          rfl
      · right
        refine ⟨ra_nf (ra_un γ 1 v), ra_nf κ, ra_nf τ, upd (upd (ra_st γ κ τ) 1 (nI v)) 2 (nI w), ?_, ?_⟩
        · rw [if_neg c1, Option.bind_some, if_pos (show nI 0 = 0 from rfl)]
          rfl
        · rw [if_pos (show nI w ≤ (0 : Int32) from nI_le (a := w) (b := 0) (by omega) (by decide))]
          rfl
    · rw [if_neg c, if_neg c, Option.bind_some, if_pos (show nI 0 = 0 from rfl), if_pos (show nI 0 = 0 from rfl)]
      right
      exact ⟨_, _, _, _, rfl, rfl⟩
  rw [if_neg (show ¬ ra_la L lt st = 114 from fun z => c114 ((ra_laI (v := 114) hlt (by decide) (by decide)).mp z)), if_neg (show ¬ ra_la L lt st = 114 from fun z => c114 ((ra_laI (v := 114) hlt (by decide) (by decide)).mp z))]
  by_cases c115 : ra_cd0 L lt st = 115
  · have hs : ra_sl (ra_cd0 L lt st) = 4 := by rw [c115]; rfl
    have e : ra_la L lt st = 115 := (ra_laI (v := 115) hlt (by decide) (by decide)).mpr c115
    have d1 := ra_okd hok (i := 1) (by omega) (by omega) (by omega)
    have d2 := ra_okd hok (i := 2) (by omega) (by omega) (by omega)
    have hv := ra_nu2 d1 d2
    have hnum : f_X2_numberAt (ra_nf G) (ra_nf lt) (nI st + 1) 2 = some (nI (ra_nu L lt (st + 1) 2)) := by
      rw [show nI st + 1 = nI (st + 1) from nI_add st 1, show (2 : Int32) = nI 2 from rfl]
      exact rc_num G hG hL hlt (p := st + 1) (dg := 2) (by omega) (by decide) (fun i hi => by
        have : i = 0 ∨ i = 1 := by omega
        rcases this with rfl | rfl
        · exact d1
        · exact d2)
    unfold ra_ns at hn
    rw [if_neg (by omega), if_neg (by omega), hs] at hn
    have hn : nums 0 = nI (ra_nu L lt (st + 1) 2) := hn
    generalize ra_nu L lt (st + 1) 2 = v at hn hv hnum
    rw [e, if_pos rfl, if_pos rfl, hnum, Option.bind_some, rc_ts2 (by omega), hn]
    by_cases c : v ≤ 30
    · left
      refine ⟨ra_un γ 4 v, κ, τ, ?_, ?_, ⟨h0, h1, h2, h3, h4, h5, c, h7, h8, h9, h10, h11⟩, h8'⟩
      · rw [if_pos c, Option.bind_some, if_pos ra_bb1]
      · rw [if_neg (show ¬ (30 : Int32) < nI v from nI_nlt (a := 30) (b := v) c (by decide)), ra_st_u _ _ _ (by decide)]
        rfl
    · right
      refine ⟨ra_nf γ, ra_nf κ, ra_nf τ, upd (ra_st γ κ τ) 4 (nI v), ?_, ?_⟩
      · rw [if_neg c, Option.bind_some, if_pos ra_bb0]
      · rw [if_pos (show (30 : Int32) < nI v from nI_lt (a := 30) (b := v) (by omega) (by omega))]
        rfl
  rw [if_neg (show ¬ ra_la L lt st = 115 from fun z => c115 ((ra_laI (v := 115) hlt (by decide) (by decide)).mp z)), if_neg (show ¬ ra_la L lt st = 115 from fun z => c115 ((ra_laI (v := 115) hlt (by decide) (by decide)).mp z))]
  by_cases c116 : ra_cd0 L lt st = 116
  · have hs : ra_sl (ra_cd0 L lt st) = 3 := by rw [c116]; rfl
    have e : ra_la L lt st = 116 := (ra_laI (v := 116) hlt (by decide) (by decide)).mpr c116
    have d1 := ra_okd hok (i := 1) (by omega) (by omega) (by omega)
    have hv := ra_nu1 d1
    have hnum : f_X2_numberAt (ra_nf G) (ra_nf lt) (nI st + 1) 1 = some (nI (ra_nu L lt (st + 1) 1)) := by
      rw [show nI st + 1 = nI (st + 1) from nI_add st 1, show (1 : Int32) = nI 1 from rfl]
      exact rc_num G hG hL hlt (p := st + 1) (dg := 1) (by omega) (by decide) (fun i hi => by
        have : i = 0 := by omega
        rcases this with rfl
        exact d1)
    unfold ra_ns at hn
    rw [if_neg (by omega), if_neg (by omega), hs] at hn
    have hn : nums 0 = nI (ra_nu L lt (st + 1) 1) := hn
    generalize ra_nu L lt (st + 1) 1 = v at hn hv hnum
    have hmi := ra_mi_le v
    rw [e, if_pos rfl, if_pos rfl, hnum, Option.bind_some, hn]
    unfold f_X0_takeTry
    rw [rc_isTry (by omega), rc_isOff γ (by omega) (by omega), rr_isOff M' γ κ τ (by omega) (by omega)]
    by_cases c7 : v < 7
    · rw [if_pos c7, Option.bind_some, if_neg (show ¬ nI 1 = 0 by decide), if_neg (show ¬ (7 : Int32) ≤ nI v from nI_ge (b := 7) (a := v) c7 (by decide))]
      by_cases ho : γ 3 < γ 0
      · rw [if_pos ho, Option.bind_some, Option.bind_some, if_pos (show nI 0 = 0 from rfl), if_pos (show nI 0 = 0 from rfl), ra_at _ (by omega) (by decide), Option.bind_some, ra_a2 v c7, rc_hasMin γ (by omega) (by omega), Option.bind_some, ra_miR (by omega), Option.bind_some, ra_st_lo _ _ _ (by decide), nI_add]
        by_cases cm : γ 8 + ra_mi v ≤ 999
        · rw [if_pos cm, if_neg (show ¬ nI 1 = 0 by decide), rc_attempt h c7 ho, Option.bind_some, if_pos (show nI (γ 8 + ra_mi v) ≤ (999 : Int32) from nI_le (a := γ 8 + ra_mi v) (b := 999) cm (by decide)), rr_tried h c7 ho]
          left
          refine ⟨ra_tr γ κ τ v, κ, τ, ra_fin1 _ _ _, rfl, ra_tr_ok h ho, ?_⟩
          unfold ra_tr
          split
          · exact cm
          · exact cm
        · rw [if_neg cm, if_pos (show nI 0 = 0 from rfl), if_neg (show ¬ nI (γ 8 + ra_mi v) ≤ (999 : Int32) from nI_ge (b := γ 8 + ra_mi v) (a := 999) (by omega) (by omega))]
          right
          exact ⟨_, _, _, _, ra_fin0 _ _ _, rfl⟩
      · rw [if_neg ho, Option.bind_some, Option.bind_some, if_neg (show ¬ nI 1 = 0 by decide), if_neg (show ¬ nI 1 = 0 by decide)]
        right
        exact ⟨_, _, _, _, ra_fin0 _ _ _, rfl⟩
    · rw [if_neg c7, Option.bind_some, if_pos (show nI 0 = 0 from rfl), if_pos (show (7 : Int32) ≤ nI v from nI_le (a := 7) (b := v) (by omega) (by omega))]
      right
      exact ⟨_, _, _, _, ra_fin0 _ _ _, rfl⟩
  rw [if_neg (show ¬ ra_la L lt st = 116 from fun z => c116 ((ra_laI (v := 116) hlt (by decide) (by decide)).mp z)), if_neg (show ¬ ra_la L lt st = 116 from fun z => c116 ((ra_laI (v := 116) hlt (by decide) (by decide)).mp z))]
  have c119 : ra_cd0 L lt st = 119 := by
    have hp := hok.1
    unfold ra_sl at hp
    rw [if_neg c99, if_neg c104, if_neg c112, if_neg c114, if_neg c115, if_neg c116] at hp
    by_cases c : ra_cd0 L lt st = 119
    · exact c
    · rw [if_neg c] at hp
      omega
  have hs : ra_sl (ra_cd0 L lt st) = 4 := by rw [c119]; rfl
  have e : ra_la L lt st = 119 := (ra_laI (v := 119) hlt (by decide) (by decide)).mpr c119
  have d1 := ra_okd hok (i := 1) (by omega) (by omega) (by omega)
  have d2 := ra_okd hok (i := 2) (by omega) (by omega) (by omega)
  have hv := ra_nu2 d1 d2
  have hnum : f_X2_numberAt (ra_nf G) (ra_nf lt) (nI st + 1) 2 = some (nI (ra_nu L lt (st + 1) 2)) := by
    rw [show nI st + 1 = nI (st + 1) from nI_add st 1, show (2 : Int32) = nI 2 from rfl]
    exact rc_num G hG hL hlt (p := st + 1) (dg := 2) (by omega) (by decide) (fun i hi => by
      have : i = 0 ∨ i = 1 := by omega
      rcases this with rfl | rfl
      · exact d1
      · exact d2)
  unfold ra_ns at hn
  rw [if_neg (by omega), if_neg (by omega), hs] at hn
  have hn : nums 0 = nI (ra_nu L lt (st + 1) 2) := hn
  generalize ra_nu L lt (st + 1) 2 = v at hn hv hnum
  rw [e, if_pos rfl, hnum, Option.bind_some, hn]
  unfold f_X0_takeWait
  have hin : f_X3_isIn (nI v) 1 60 = some (nI (if 1 ≤ v ∧ v ≤ 60 then 1 else 0)) := rr_isIn (by omega) (lo := 1) (hi := 60) (by decide) (by decide)
  rw [hin, Option.bind_some]
  by_cases c1 : v < 1
  · rw [if_pos (show nI v < (1 : Int32) from nI_lt (a := v) (b := 1) c1 (by decide)), if_neg (show ¬ (1 ≤ v ∧ v ≤ 60) by omega), if_pos (show nI 0 = 0 from rfl)]
    right
    exact ⟨_, _, _, _, ra_fin0 _ _ _, rfl⟩
  rw [if_neg (show ¬ nI v < (1 : Int32) from nI_nlt (a := v) (b := 1) (by omega) (by omega))]
  by_cases c60 : 60 < v
  · rw [if_pos (show (60 : Int32) < nI v from nI_lt (a := 60) (b := v) c60 (by omega)), if_neg (show ¬ (1 ≤ v ∧ v ≤ 60) by omega), if_pos (show nI 0 = 0 from rfl)]
    right
    exact ⟨_, _, _, _, ra_fin0 _ _ _, rfl⟩
  rw [if_neg (show ¬ (60 : Int32) < nI v from nI_nlt (a := 60) (b := v) (by omega) (by decide)), rc_hasMin γ (by omega) (by omega), Option.bind_some, if_pos (show 1 ≤ v ∧ v ≤ 60 by omega), if_neg (show ¬ nI 1 = 0 by decide), ra_st_lo _ _ _ (by decide), nI_add]
  by_cases cm : γ 8 + v ≤ 999
  · rw [if_pos cm, if_neg (show ¬ nI 1 = 0 by decide), rc_rest (by omega) h6 h7 h8, Option.bind_some, if_pos (show nI (γ 8 + v) ≤ (999 : Int32) from nI_le (a := γ 8 + v) (b := 999) cm (by decide)), rr_waits (by omega) h6 h7 h8]
    left
    exact ⟨ra_wt γ v, κ, τ, ra_fin1 _ _ _, rfl, ra_wt_ok h, cm⟩
  · rw [if_neg cm, if_pos (show nI 0 = 0 from rfl), if_neg (show ¬ nI (γ 8 + v) ≤ (999 : Int32) from nI_ge (b := γ 8 + v) (a := 999) (by omega) (by omega))]
    right
    exact ⟨_, _, _, _, ra_fin0 _ _ _, rfl⟩
end
end RAHand2
