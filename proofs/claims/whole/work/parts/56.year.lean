/-! the calls about months -/
section RAYear
theorem rr_ahL (M ρ : Nat → Nat) {R : Nat} (hM : M 2 = R) (hR : R ≤ 12) (hρ : ∀ j, ρ j ≤ 9) : ∀ (d i m : Nat), i + d = R → d < m → f_X3_areHeats_L2 (ra_nf M) (ra_nf ρ) m (nI i) = some (Sum.inr (nI R)) := by
  intro d
  induction d with
  | zero =>
    intro i m hi hm
    obtain ⟨m, rfl⟩ : ∃ q, m = q + 1 := ⟨m - 1, by omega⟩
    obtain rfl : i = R := by omega
    rw [f_X3_areHeats_L2]
    simp (disch := omega) only [↓reduceIte, ra_lit, ra_nf_ap, ra_st_lo, nI_add, nI_clamp, nI_ltI, nI_leI, nI_eq, Option.bind_some, if_true, if_false, not_false_eq_true, not_true_eq_false, ra_ltT, ra_ltF, ra_leT, ra_leF, ra_eqT, ra_eqF, or_false, false_or, or_true, true_or, and_true, true_and, and_false, false_and, hM]
  | succ d ih =>
    intro i m hi hm
    obtain ⟨m, rfl⟩ : ∃ q, m = q + 1 := ⟨m - 1, by omega⟩
    have := hρ i
    rw [f_X3_areHeats_L2]
    simp (disch := omega) only [↓reduceIte, ra_lit, ra_nf_ap, ra_st_lo, nI_add, nI_clamp, nI_ltI, nI_leI, nI_eq, Option.bind_some, if_true, if_false, not_false_eq_true, not_true_eq_false, ra_ltT, ra_ltF, ra_leT, ra_leF, ra_eqT, ra_eqF, or_false, false_or, or_true, true_or, and_true, true_and, and_false, false_and, hM]
    exact ih (i + 1) m (by omega) (by omega)
theorem rr_areHeats (M ρ : Nat → Nat) {R : Nat} (hM : M 2 = R) (hR : R ≤ 12) (hρ : ∀ j, ρ j ≤ 9) : f_X3_areHeats (ra_nf M) (ra_nf ρ) = some (nI (if R = 12 then 1 else 0)) := by
  have h1 := rr_ahL M ρ hM hR hρ R 0 rf_fu (by omega) (by unfold rf_fu; omega)
  have h1 : f_X3_areHeats_L2 (ra_nf M) (ra_nf ρ) rf_fu 0 = _ := h1
  unfold f_X3_areHeats
  rw [h1]
  show (if ra_nf M 2 = 12 then some 1 else some 0) = _
  rw [ra_nf_ap, hM]
  by_cases c : R = 12
  · simp (disch := omega) only [↓reduceIte, ra_lit, ra_nf_ap, ra_st_lo, nI_add, nI_clamp, nI_ltI, nI_leI, nI_eq, Option.bind_some, if_true, if_false, not_false_eq_true, not_true_eq_false, ra_ltT, ra_ltF, ra_leT, ra_leF, ra_eqT, ra_eqF, or_false, false_or, or_true, true_or, and_true, true_and, and_false, false_and]
  · simp (disch := omega) only [↓reduceIte, ra_lit, ra_nf_ap, ra_st_lo, nI_add, nI_clamp, nI_ltI, nI_leI, nI_eq, Option.bind_some, if_true, if_false, not_false_eq_true, not_true_eq_false, ra_ltT, ra_ltF, ra_leT, ra_leF, ra_eqT, ra_eqF, or_false, false_or, or_true, true_or, and_true, true_and, and_false, false_and]
theorem ra_mr (G M ρ φ : Nat → Nat) {R : Nat} (hG : G 1 = R) (hM : M 2 = R) (hR : R ≤ 12) (hρ : ∀ j, ρ j ≤ 9) (p : Int32) :
    (∃ size, 100 ≤ size ∧ size ≤ 250 ∧ p = nI size ∧ R = 12 ∧ f_X2_monthRefusal (ra_nf G) (ra_nf φ) p = some (nI 0, ra_nf φ) ∧ f_X3_wrongSize (ra_nf M) (ra_nf ρ) p = some (nI 0)) ∨
    (∃ c, (c = 3 ∨ c = 4 ∨ c = 6) ∧ f_X2_monthRefusal (ra_nf G) (ra_nf φ) p = some (-nI c, ra_nf (ra_rf φ c)) ∧ f_X3_wrongSize (ra_nf M) (ra_nf ρ) p = some (-nI c)) := by
  unfold f_X2_monthRefusal f_X3_wrongSize
  rw [rr_areHeats M ρ hM hR hρ]
  by_cases hp : p < nI 0
  · right
    refine ⟨4, by omega, ?_, ?_⟩
    · simp (disch := omega) only [↓reduceIte, ra_lit, ra_nf_ap, ra_st_lo, nI_add, nI_clamp, nI_ltI, nI_leI, nI_eq, Option.bind_some, if_true, if_false, not_false_eq_true, not_true_eq_false, ra_ltT, ra_ltF, ra_leT, ra_leF, ra_eqT, ra_eqF, or_false, false_or, or_true, true_or, and_true, true_and, and_false, false_and, ra_nLe hp, rc_refuse]
    · simp (disch := omega) only [↓reduceIte, ra_lit, ra_nf_ap, ra_st_lo, nI_add, nI_clamp, nI_ltI, nI_leI, nI_eq, Option.bind_some, if_true, if_false, not_false_eq_true, not_true_eq_false, ra_ltT, ra_ltF, ra_leT, ra_leF, ra_eqT, ra_eqF, or_false, false_or, or_true, true_or, and_true, true_and, and_false, false_and, ra_nLe hp]
  · obtain ⟨v, hv, rfl⟩ := nI_of (x := p) hp
    by_cases c1 : v < 100
    · right
      refine ⟨4, by omega, ?_, ?_⟩
      · simp (disch := omega) only [↓reduceIte, ra_lit, ra_nf_ap, ra_st_lo, nI_add, nI_clamp, nI_ltI, nI_leI, nI_eq, Option.bind_some, if_true, if_false, not_false_eq_true, not_true_eq_false, ra_ltT, ra_ltF, ra_leT, ra_leF, ra_eqT, ra_eqF, or_false, false_or, or_true, true_or, and_true, true_and, and_false, false_and, rc_refuse]
      · simp (disch := omega) only [↓reduceIte, ra_lit, ra_nf_ap, ra_st_lo, nI_add, nI_clamp, nI_ltI, nI_leI, nI_eq, Option.bind_some, if_true, if_false, not_false_eq_true, not_true_eq_false, ra_ltT, ra_ltF, ra_leT, ra_leF, ra_eqT, ra_eqF, or_false, false_or, or_true, true_or, and_true, true_and, and_false, false_and]
    by_cases c2 : 250 < v
    · right
      refine ⟨6, by omega, ?_, ?_⟩
      · simp (disch := omega) only [↓reduceIte, ra_lit, ra_nf_ap, ra_st_lo, nI_add, nI_clamp, nI_ltI, nI_leI, nI_eq, Option.bind_some, if_true, if_false, not_false_eq_true, not_true_eq_false, ra_ltT, ra_ltF, ra_leT, ra_leF, ra_eqT, ra_eqF, or_false, false_or, or_true, true_or, and_true, true_and, and_false, false_and, rc_refuse]
      · simp (disch := omega) only [↓reduceIte, ra_lit, ra_nf_ap, ra_st_lo, nI_add, nI_clamp, nI_ltI, nI_leI, nI_eq, Option.bind_some, if_true, if_false, not_false_eq_true, not_true_eq_false, ra_ltT, ra_ltF, ra_leT, ra_leF, ra_eqT, ra_eqF, or_false, false_or, or_true, true_or, and_true, true_and, and_false, false_and]
    by_cases c3 : R = 12
    · left
      refine ⟨v, by omega, by omega, rfl, c3, ?_, ?_⟩
      · simp (disch := omega) only [↓reduceIte, ra_lit, ra_nf_ap, ra_st_lo, nI_add, nI_clamp, nI_ltI, nI_leI, nI_eq, Option.bind_some, if_true, if_false, not_false_eq_true, not_true_eq_false, ra_ltT, ra_ltF, ra_leT, ra_leF, ra_eqT, ra_eqF, or_false, false_or, or_true, true_or, and_true, true_and, and_false, false_and, hG]
      · simp (disch := omega) only [↓reduceIte, ra_lit, ra_nf_ap, ra_st_lo, nI_add, nI_clamp, nI_ltI, nI_leI, nI_eq, Option.bind_some, if_true, if_false, not_false_eq_true, not_true_eq_false, ra_ltT, ra_ltF, ra_leT, ra_leF, ra_eqT, ra_eqF, or_false, false_or, or_true, true_or, and_true, true_and, and_false, false_and]
    · right
      refine ⟨3, by omega, ?_, ?_⟩
      · simp (disch := omega) only [↓reduceIte, ra_lit, ra_nf_ap, ra_st_lo, nI_add, nI_clamp, nI_ltI, nI_leI, nI_eq, Option.bind_some, if_true, if_false, not_false_eq_true, not_true_eq_false, ra_ltT, ra_ltF, ra_leT, ra_leF, ra_eqT, ra_eqF, or_false, false_or, or_true, true_or, and_true, true_and, and_false, false_and, hG, rc_refuse]
      · simp (disch := omega) only [↓reduceIte, ra_lit, ra_nf_ap, ra_st_lo, nI_add, nI_clamp, nI_ltI, nI_leI, nI_eq, Option.bind_some, if_true, if_false, not_false_eq_true, not_true_eq_false, ra_ltT, ra_ltF, ra_leT, ra_leF, ra_eqT, ra_eqF, or_false, false_or, or_true, true_or, and_true, true_and, and_false, false_and]
theorem ra_nz3 {c : Nat} (h : c = 2 ∨ c = 3 ∨ c = 4 ∨ c = 6) : (-nI c = nI 0) = False := eq_false (by rcases h with rfl | rfl | rfl | rfl <;> decide)
theorem rr_stL21 {γ κ τ ρ : Nat → Nat} (M : Nat → Nat) (rf : Nat → Int32) (h : ra_ok γ κ τ) (hρ : ∀ j, ρ j ≤ 9) {size : Nat} (hs : size < 1000) : ∀ (d i m : Nat), i + d = 12 → d < m →
    f_X3_sticks_L21 (ra_nf M) (ra_st γ κ τ) (ra_nf ρ) (nI size) rf m (nI (ra_bt (ra_stk γ κ τ ρ size) i)) (nI i) = some (nI (ra_bt (ra_stk γ κ τ ρ size) 12), nI 12) := by
  intro d
  induction d with
  | zero =>
    intro i m hi hm
    obtain ⟨m, rfl⟩ : ∃ q, m = q + 1 := ⟨m - 1, by omega⟩
    obtain rfl : i = 12 := by omega
    rw [f_X3_sticks_L21, if_pos (by decide)]
  | succ d ih =>
    intro i m hi hm
    obtain ⟨m, rfl⟩ : ∃ q, m = q + 1 := ⟨m - 1, by omega⟩
    have h2 := ra_p2 (i := i) (by omega)
    have hb := ra_bt_lt (ra_stk γ κ τ ρ size) i
    have ih := ih (i + 1) m (by omega) (by omega)
    unfold ra_bt at ih
    rw [f_X3_sticks_L21, ra_sh i (by omega), rr_sticksIn M h hρ (by omega) hs]
    by_cases c : ra_stk γ κ τ ρ size i = true
    · rw [if_pos c] at ih
      simp (disch := omega) only [↓reduceIte, ra_lit, ra_nf_ap, ra_st_lo, nI_add, nI_clamp, nI_ltI, nI_leI, nI_eq, Option.bind_some, if_true, if_false, not_false_eq_true, not_true_eq_false, ra_ltT, ra_ltF, ra_leT, ra_leF, ra_eqT, ra_eqF, or_false, false_or, or_true, true_or, and_true, true_and, and_false, false_and, if_pos c, ra_or]
      exact ih
    · rw [if_neg c] at ih
      simp (disch := omega) only [↓reduceIte, ra_lit, ra_nf_ap, ra_st_lo, nI_add, nI_clamp, nI_ltI, nI_leI, nI_eq, Option.bind_some, if_true, if_false, not_false_eq_true, not_true_eq_false, ra_ltT, ra_ltF, ra_leT, ra_leF, ra_eqT, ra_eqF, or_false, false_or, or_true, true_or, and_true, true_and, and_false, false_and, if_neg c, ra_or, Nat.or_zero]
      exact ih
theorem rr_flL21 {γ κ τ ρ : Nat → Nat} (M : Nat → Nat) (rf : Nat → Int32) (h : ra_ok γ κ τ) (hρ : ∀ j, ρ j ≤ 9) {size : Nat} (hs : size < 1000) (h100 : 100 ≤ size) : ∀ (d i m : Nat), i + d = 12 → d < m →
    f_X3_falls_L21 (ra_nf M) (ra_st γ κ τ) (ra_nf ρ) (nI size) rf m (nI (ra_bt (ra_fal γ κ τ ρ size) i)) (nI i) = some (nI (ra_bt (ra_fal γ κ τ ρ size) 12), nI 12) := by
  intro d
  induction d with
  | zero =>
    intro i m hi hm
    obtain ⟨m, rfl⟩ : ∃ q, m = q + 1 := ⟨m - 1, by omega⟩
    obtain rfl : i = 12 := by omega
    rw [f_X3_falls_L21, if_pos (by decide)]
  | succ d ih =>
    intro i m hi hm
    obtain ⟨m, rfl⟩ : ∃ q, m = q + 1 := ⟨m - 1, by omega⟩
    have h2 := ra_p2 (i := i) (by omega)
    have hb := ra_bt_lt (ra_fal γ κ τ ρ size) i
    have ih := ih (i + 1) m (by omega) (by omega)
    unfold ra_bt at ih
    rw [f_X3_falls_L21, ra_sh i (by omega), rr_fallsIn M h hρ (by omega) hs h100]
    by_cases c : ra_fal γ κ τ ρ size i = true
    · rw [if_pos c] at ih
      simp (disch := omega) only [↓reduceIte, ra_lit, ra_nf_ap, ra_st_lo, nI_add, nI_clamp, nI_ltI, nI_leI, nI_eq, Option.bind_some, if_true, if_false, not_false_eq_true, not_true_eq_false, ra_ltT, ra_ltF, ra_leT, ra_leF, ra_eqT, ra_eqF, or_false, false_or, or_true, true_or, and_true, true_and, and_false, false_and, if_pos c, ra_or]
      exact ih
    · rw [if_neg c] at ih
      simp (disch := omega) only [↓reduceIte, ra_lit, ra_nf_ap, ra_st_lo, nI_add, nI_clamp, nI_ltI, nI_leI, nI_eq, Option.bind_some, if_true, if_false, not_false_eq_true, not_true_eq_false, ra_ltT, ra_ltF, ra_leT, ra_leF, ra_eqT, ra_eqF, or_false, false_or, or_true, true_or, and_true, true_and, and_false, false_and, if_neg c, ra_or, Nat.or_zero]
      exact ih
theorem tm_sticks {γ κ τ : Nat → Nat} (G M ρ φ : Nat → Nat) (ta tb tc th : Nat → Int32) {R : Nat} (hG : G 1 = R) (hM : M 2 = R) (hR : R ≤ 12) (hρ : ∀ j, ρ j ≤ 9) (h : ra_ok γ κ τ) (p : Int32) :
    ∃ r a b c th' φ', f_X2_sticks (ra_nf G) (ra_nf γ) (ra_nf κ) (ra_nf τ) ta tb tc (ra_nf ρ) th (ra_nf φ) p = some (r, a, b, c, th', ra_nf φ') ∧ f_X3_sticks (ra_nf M) (ra_st γ κ τ) (ra_nf ρ) (ra_nf φ) p = some (r, ra_nf φ') := by
  unfold f_X2_sticks f_X3_sticks
  rcases ra_mr G M ρ φ hG hM hR hρ p with ⟨size, s1, s2, rfl, e12, e1, e2⟩ | ⟨c, hc, e1, e2⟩
  · obtain ⟨b, th', h1, h2⟩ := rc_measure ρ (ra_nf G) ta tb tc th h hρ
    have h3 := rr_stL21 M (ra_nf φ) h hρ (size := size) (by omega) 12 0 rf_fu rfl (by unfold rf_fu; omega)
    have h3 : f_X3_sticks_L21 (ra_nf M) (ra_st γ κ τ) (ra_nf ρ) (nI size) (ra_nf φ) rf_fu (nI 0) (nI 0) = _ := h3
    refine ⟨nI (ra_bt (ra_stk γ κ τ ρ size) 12), b, ra_nf κ, ra_nf τ, th', φ, ?_, ?_⟩
    · rw [e1]
      simp (disch := omega) only [↓reduceIte, ra_lit, ra_nf_ap, ra_st_lo, nI_add, nI_clamp, nI_ltI, nI_leI, nI_eq, Option.bind_some, if_true, if_false, not_false_eq_true, not_true_eq_false, ra_ltT, ra_ltF, ra_leT, ra_leF, ra_eqT, ra_eqF, or_false, false_or, or_true, true_or, and_true, true_and, and_false, false_and, h1, rc_stick (ra_nf G) th' h hρ h2]
    · rw [e2]
      simp (disch := omega) only [↓reduceIte, ra_lit, ra_nf_ap, ra_st_lo, nI_add, nI_clamp, nI_ltI, nI_leI, nI_eq, Option.bind_some, if_true, if_false, not_false_eq_true, not_true_eq_false, ra_ltT, ra_ltF, ra_leT, ra_leF, ra_eqT, ra_eqF, or_false, false_or, or_true, true_or, and_true, true_and, and_false, false_and, h3]
  · refine ⟨-nI c, ta, tb, tc, th, ra_rf φ c, ?_, ?_⟩
    · rw [e1]
      simp (disch := omega) only [↓reduceIte, ra_lit, ra_nf_ap, ra_st_lo, nI_add, nI_clamp, nI_ltI, nI_leI, nI_eq, Option.bind_some, if_true, if_false, not_false_eq_true, not_true_eq_false, ra_ltT, ra_ltF, ra_leT, ra_leF, ra_eqT, ra_eqF, or_false, false_or, or_true, true_or, and_true, true_and, and_false, false_and, ra_nz3 (c := c) (by omega)]
    · rw [e2]
      have : c < 7 := by omega
      simp (disch := omega) only [↓reduceIte, ra_lit, ra_nf_ap, ra_st_lo, nI_add, nI_clamp, nI_ltI, nI_leI, nI_eq, Option.bind_some, if_true, if_false, not_false_eq_true, not_true_eq_false, ra_ltT, ra_ltF, ra_leT, ra_leF, ra_eqT, ra_eqF, or_false, false_or, or_true, true_or, and_true, true_and, and_false, false_and, ra_nz3 (c := c) (by omega), rr_no]
theorem tm_falls {γ κ τ : Nat → Nat} (G M ρ φ : Nat → Nat) (ta tb tc th : Nat → Int32) {R : Nat} (hG : G 1 = R) (hM : M 2 = R) (hR : R ≤ 12) (hρ : ∀ j, ρ j ≤ 9) (h : ra_ok γ κ τ) (p : Int32) :
    ∃ r a b c th' φ', f_X2_falls (ra_nf G) (ra_nf γ) (ra_nf κ) (ra_nf τ) ta tb tc (ra_nf ρ) th (ra_nf φ) p = some (r, a, b, c, th', ra_nf φ') ∧ f_X3_falls (ra_nf M) (ra_st γ κ τ) (ra_nf ρ) (ra_nf φ) p = some (r, ra_nf φ') := by
  unfold f_X2_falls f_X3_falls
  rcases ra_mr G M ρ φ hG hM hR hρ p with ⟨size, s1, s2, rfl, e12, e1, e2⟩ | ⟨c, hc, e1, e2⟩
  · obtain ⟨b, th', h1, h2⟩ := rc_measure ρ (ra_nf G) ta tb tc th h hρ
    have h3 := rr_flL21 M (ra_nf φ) h hρ (size := size) (by omega) s1 12 0 rf_fu rfl (by unfold rf_fu; omega)
    have h3 : f_X3_falls_L21 (ra_nf M) (ra_st γ κ τ) (ra_nf ρ) (nI size) (ra_nf φ) rf_fu (nI 0) (nI 0) = _ := h3
    refine ⟨nI (ra_bt (ra_fal γ κ τ ρ size) 12), b, ra_nf κ, ra_nf τ, th', φ, ?_, ?_⟩
    · rw [e1]
      simp (disch := omega) only [↓reduceIte, ra_lit, ra_nf_ap, ra_st_lo, nI_add, nI_clamp, nI_ltI, nI_leI, nI_eq, Option.bind_some, if_true, if_false, not_false_eq_true, not_true_eq_false, ra_ltT, ra_ltF, ra_leT, ra_leF, ra_eqT, ra_eqF, or_false, false_or, or_true, true_or, and_true, true_and, and_false, false_and, h1, rc_fall (ra_nf G) th' h hρ h2]
    · rw [e2]
      simp (disch := omega) only [↓reduceIte, ra_lit, ra_nf_ap, ra_st_lo, nI_add, nI_clamp, nI_ltI, nI_leI, nI_eq, Option.bind_some, if_true, if_false, not_false_eq_true, not_true_eq_false, ra_ltT, ra_ltF, ra_leT, ra_leF, ra_eqT, ra_eqF, or_false, false_or, or_true, true_or, and_true, true_and, and_false, false_and, h3]
  · refine ⟨-nI c, ta, tb, tc, th, ra_rf φ c, ?_, ?_⟩
    · rw [e1]
      simp (disch := omega) only [↓reduceIte, ra_lit, ra_nf_ap, ra_st_lo, nI_add, nI_clamp, nI_ltI, nI_leI, nI_eq, Option.bind_some, if_true, if_false, not_false_eq_true, not_true_eq_false, ra_ltT, ra_ltF, ra_leT, ra_leF, ra_eqT, ra_eqF, or_false, false_or, or_true, true_or, and_true, true_and, and_false, false_and, ra_nz3 (c := c) (by omega)]
    · rw [e2]
      have : c < 7 := by omega
      simp (disch := omega) only [↓reduceIte, ra_lit, ra_nf_ap, ra_st_lo, nI_add, nI_clamp, nI_ltI, nI_leI, nI_eq, Option.bind_some, if_true, if_false, not_false_eq_true, not_true_eq_false, ra_ltT, ra_ltF, ra_leT, ra_leF, ra_eqT, ra_eqF, or_false, false_or, or_true, true_or, and_true, true_and, and_false, false_and, ra_nz3 (c := c) (by omega), rr_no]
/-- what a size costs in some months -/
def ra_acc (γ κ τ ρ : Nat → Nat) (mo pa pb size n : Nat) : Nat := pa * ra_cnt (fun i => ra_stk γ κ τ ρ size i && mo.testBit i) n + pb * ra_cnt (fun i => ra_fal γ κ τ ρ size i && mo.testBit i) n
theorem ra_acc_le {γ κ τ ρ : Nat → Nat} {mo pa pb size n : Nat} (ha : pa ≤ 99) (hb : pb ≤ 99) (hn : n ≤ 12) : ra_acc γ κ τ ρ mo pa pb size n ≤ 3000 := by
  unfold ra_acc
  have h1 := ra_cnt_le (fun i => ra_stk γ κ τ ρ size i && mo.testBit i) n
  have h2 := ra_cnt_le (fun i => ra_fal γ κ τ ρ size i && mo.testBit i) n
  have h3 := Nat.mul_le_mul ha (Nat.le_trans h1 hn)
  have h4 := Nat.mul_le_mul hb (Nat.le_trans h2 hn)
  omega
theorem rc_cost {γ κ τ ρ : Nat → Nat} (a th : Nat → Int32) (h : ra_ok γ κ τ) (hρ : ∀ j, ρ j ≤ 9) (hth : ∀ j, j < 12 → th j = ra_te (ra_T γ κ τ ρ j)) {size mo pa pb : Nat} (hs : size < 1000) (h100 : 100 ≤ size) (hmo : mo < 4096) :
    f_X2_cost a th (nI size) (nI mo) (nI pa) (nI pb) = some (nI (ra_acc γ κ τ ρ mo pa pb size 12)) := by
  have b1 := ra_bt_lt (ra_stk γ κ τ ρ size) 12
  have b2 := ra_bt_lt (ra_fal γ κ τ ρ size) 12
  have l1 : ra_bt (ra_stk γ κ τ ρ size) 12 &&& mo ≤ ra_bt (ra_stk γ κ τ ρ size) 12 := Nat.and_le_left
  have l2 : ra_bt (ra_fal γ κ τ ρ size) 12 &&& mo ≤ ra_bt (ra_fal γ κ τ ρ size) 12 := Nat.and_le_left
  unfold f_X2_cost
  rw [rc_stick a th h hρ hth hs, rc_fall a th h hρ hth hs h100]
  have k1 : ra_cnt (ra_bt (ra_stk γ κ τ ρ size) 12 &&& mo).testBit 12 = ra_cnt (fun i => ra_stk γ κ τ ρ size i && mo.testBit i) 12 :=
    ra_cnt_congr 12 (fun i hi => by rw [Nat.testBit_and, ra_bt_test, decide_eq_true hi, Bool.true_and])
  have k2 : ra_cnt (ra_bt (ra_fal γ κ τ ρ size) 12 &&& mo).testBit 12 = ra_cnt (fun i => ra_fal γ κ τ ρ size i && mo.testBit i) 12 :=
    ra_cnt_congr 12 (fun i hi => by rw [Nat.testBit_and, ra_bt_test, decide_eq_true hi, Bool.true_and])
  rw [Option.bind_some, ra_and (by omega) (by omega), ra_pop (by omega), Option.bind_some, Option.bind_some, ra_and (by omega) (by omega), ra_pop (by omega), Option.bind_some, k1, k2, pk_mul, pk_mul, nI_add]
  rfl
theorem ra_sm : ∀ i, i < 12 → ((nI i &&& 31).toBitVec.smod 32).toNat = i := by decide
theorem ra_tb {mo i : Nat} (hmo : mo < 4096) (hi : i < 12) : (((nI mo >>> (nI i &&& 31)) &&& 1) = 1) = (mo.testBit i = true) := by
  have h1 : mo / 2 ^ i ≤ mo := Nat.div_le_self _ _
  rw [pk_shrN (by omega) (nI i &&& 31) i (ra_sm i hi), pk_andN (by omega) 1 (by decide), Nat.testBit_eq_decide_div_mod_eq, decide_eq_true_eq]
  show (nI (mo / 2 ^ i % 2 ^ 1) = nI 1) = _
  rw [nI_eq (by omega) (by decide)]
theorem rr_fiL30 {γ κ τ ρ : Nat → Nat} (M : Nat → Nat) (h : ra_ok γ κ τ) (hρ : ∀ j, ρ j ≤ 9) {size mo pa pb : Nat} (hs : size < 1000) (h100 : 100 ≤ size) (hmo : mo < 4096) : ∀ (d i m : Nat), i + d = 12 → d < m →
    f_X3_finds_L30 (ra_st γ κ τ) (ra_nf ρ) (nI mo) (nI pa) (nI pb) (nI size) (ra_nf M) m (nI (ra_acc γ κ τ ρ mo pa pb size i)) (nI i) = some (nI (ra_acc γ κ τ ρ mo pa pb size 12), nI 12) := by
  intro d
  induction d with
  | zero =>
    intro i m hi hm
    obtain ⟨m, rfl⟩ : ∃ q, m = q + 1 := ⟨m - 1, by omega⟩
    obtain rfl : i = 12 := by omega
    rw [f_X3_finds_L30, if_pos (by decide)]
  | succ d ih =>
    intro i m hi hm
    obtain ⟨m, rfl⟩ : ∃ q, m = q + 1 := ⟨m - 1, by omega⟩
    have ih := ih (i + 1) m (by omega) (by omega)
    have c12 : ¬ (12 : Int32) ≤ nI i := nI_ge (b := 12) (by omega) (by decide)
    rw [f_X3_finds_L30, if_neg c12, rr_sticksIn M h hρ (by omega) hs, rr_fallsIn M h hρ (by omega) hs h100]
    simp only [ra_tb hmo (show i < 12 by omega)]
    have eq : ra_acc γ κ τ ρ mo pa pb size (i + 1) = ra_acc γ κ τ ρ mo pa pb size i + (pa * (if (ra_stk γ κ τ ρ size i && mo.testBit i) = true then 1 else 0) + pb * (if (ra_fal γ κ τ ρ size i && mo.testBit i) = true then 1 else 0)) := by
      unfold ra_acc
      rw [ra_cnt, ra_cnt, Nat.mul_add, Nat.mul_add]
      omega
    rw [eq] at ih
    by_cases ct : mo.testBit i = true
    · rw [if_pos ct]
      rw [ct] at ih
      simp only [Bool.and_true] at ih
      by_cases cs : ra_stk γ κ τ ρ size i = true
      · rw [if_pos cs] at ih
        by_cases cf : ra_fal γ κ τ ρ size i = true
        · rw [if_pos cf] at ih
          simp (disch := omega) only [↓reduceIte, ra_lit, ra_nf_ap, ra_st_lo, nI_add, nI_clamp, nI_ltI, nI_leI, nI_eq, Option.bind_some, if_true, if_false, not_false_eq_true, not_true_eq_false, ra_ltT, ra_ltF, ra_leT, ra_leF, ra_eqT, ra_eqF, or_false, false_or, or_true, true_or, and_true, true_and, and_false, false_and, if_pos cs, if_pos cf]
          simp only [Nat.mul_one] at ih
          exact ih
        · rw [if_neg cf] at ih
          simp (disch := omega) only [↓reduceIte, ra_lit, ra_nf_ap, ra_st_lo, nI_add, nI_clamp, nI_ltI, nI_leI, nI_eq, Option.bind_some, if_true, if_false, not_false_eq_true, not_true_eq_false, ra_ltT, ra_ltF, ra_leT, ra_leF, ra_eqT, ra_eqF, or_false, false_or, or_true, true_or, and_true, true_and, and_false, false_and, if_pos cs, if_neg cf]
          simp only [Nat.mul_one, Nat.mul_zero] at ih
          exact ih
      · rw [if_neg cs] at ih
        by_cases cf : ra_fal γ κ τ ρ size i = true
        · rw [if_pos cf] at ih
          simp (disch := omega) only [↓reduceIte, ra_lit, ra_nf_ap, ra_st_lo, nI_add, nI_clamp, nI_ltI, nI_leI, nI_eq, Option.bind_some, if_true, if_false, not_false_eq_true, not_true_eq_false, ra_ltT, ra_ltF, ra_leT, ra_leF, ra_eqT, ra_eqF, or_false, false_or, or_true, true_or, and_true, true_and, and_false, false_and, if_neg cs, if_pos cf]
          simp only [Nat.mul_one, Nat.mul_zero] at ih
          exact ih
        · rw [if_neg cf] at ih
          simp (disch := omega) only [↓reduceIte, ra_lit, ra_nf_ap, ra_st_lo, nI_add, nI_clamp, nI_ltI, nI_leI, nI_eq, Option.bind_some, if_true, if_false, not_false_eq_true, not_true_eq_false, ra_ltT, ra_ltF, ra_leT, ra_leF, ra_eqT, ra_eqF, or_false, false_or, or_true, true_or, and_true, true_and, and_false, false_and, if_neg cs, if_neg cf]
          simp only [Nat.mul_zero] at ih
          exact ih
    · rw [if_neg ct]
      have ct : mo.testBit i = false := by
        cases e : mo.testBit i with
        | false => rfl
        | true => exact absurd e ct
      rw [ct] at ih
      simp only [Bool.and_false] at ih
      simp (disch := omega) only [↓reduceIte, ra_lit, ra_nf_ap, ra_st_lo, nI_add, nI_clamp, nI_ltI, nI_leI, nI_eq, Option.bind_some, if_true, if_false, not_false_eq_true, not_true_eq_false, ra_ltT, ra_ltF, ra_leT, ra_leF, ra_eqT, ra_eqF, or_false, false_or, or_true, true_or, and_true, true_and, and_false, false_and]
      exact ih
def ra_bs (c : Nat → Nat) : Nat → Nat → Nat → Nat → Nat × Nat
  | 0, _, b, l => (b, l)
  | d + 1, z, b, l => if c z < l then ra_bs c d (z + 1) z (c z) else ra_bs c d (z + 1) b l
theorem ra_bs0 (c : Nat → Nat) (b : Nat) : ∀ d z, ra_bs c d z b 0 = (b, 0) := by
  intro d
  induction d with
  | zero => intro z; rfl
  | succ d ih =>
    intro z
    unfold ra_bs
    rw [if_neg (Nat.not_lt_zero _)]
    exact ih (z + 1)
theorem ra_bs_in (c : Nat → Nat) : ∀ d z b, z + d = 251 → 100 ≤ z → 100 ≤ b → b ≤ 250 → (ra_bs c d z b (c b)).2 = c (ra_bs c d z b (c b)).1 ∧ 100 ≤ (ra_bs c d z b (c b)).1 ∧ (ra_bs c d z b (c b)).1 ≤ 250 := by
  intro d
  induction d with
  | zero => intro z b _ _ h1 h2; exact ⟨rfl, h1, h2⟩
  | succ d ih =>
    intro z b hz hz1 h1 h2
    unfold ra_bs
    split
    · exact ih (z + 1) z (by omega) (by omega) hz1 (by omega)
    · exact ih (z + 1) b (by omega) (by omega) h1 h2
theorem ra_unu (M : Nat → Nat) (a b c d : Nat) : ra_un (ra_un (ra_un (ra_un M 4 a) 5 b) 4 c) 5 d = ra_un (ra_un M 4 c) 5 d := by
  funext j
  unfold ra_un
  by_cases e5 : j = 5
  · simp [e5]
  · by_cases e4 : j = 4
    · simp [e4]
    · simp [e4, e5]
theorem ra_unself (M : Nat → Nat) : ra_un (ra_un M 4 (M 4)) 5 (M 5) = M := by
  funext j
  unfold ra_un
  by_cases e5 : j = 5
  · simp [e5]
  · by_cases e4 : j = 4
    · simp [e4]
    · simp [e4, e5]
theorem rr_fiL16 {γ κ τ ρ : Nat → Nat} (h : ra_ok γ κ τ) (hρ : ∀ j, ρ j ≤ 9) {mo pa pb : Nat} (hmo : mo < 4096) (ha : pa ≤ 99) (hb : pb ≤ 99) : ∀ (d z m : Nat) (M : Nat → Nat), z + d = 251 → 100 ≤ z → d < m → M 5 ≤ 1000000000 →
    ∃ x, f_X3_finds_L16 (ra_st γ κ τ) (ra_nf ρ) (nI mo) (nI pa) (nI pb) m (nI z) (ra_nf M) = some (x, ra_nf (ra_un (ra_un M 4 (ra_bs (fun s => ra_acc γ κ τ ρ mo pa pb s 12) d z (M 4) (M 5)).1) 5 (ra_bs (fun s => ra_acc γ κ τ ρ mo pa pb s 12) d z (M 4) (M 5)).2)) := by
  intro d
  induction d with
  | zero =>
    intro z m M hz h1 hm h5
    obtain ⟨m, rfl⟩ : ∃ q, m = q + 1 := ⟨m - 1, by omega⟩
    obtain rfl : z = 251 := by omega
    refine ⟨nI 251, ?_⟩
    rw [f_X3_finds_L16, if_pos (by decide)]
    unfold ra_bs
    rw [ra_unself]
  | succ d ih =>
    intro z m M hz h1 hm h5
    obtain ⟨m, rfl⟩ : ∃ q, m = q + 1 := ⟨m - 1, by omega⟩
    have c250 : ¬ (250 : Int32) < nI z := nI_nlt (a := 250) (by omega) (by decide)
    have h3 := rr_fiL30 M h hρ (size := z) (mo := mo) (pa := pa) (pb := pb) (by omega) h1 hmo 12 0 rf_fu rfl (by unfold rf_fu; omega)
    have e0 : ra_acc γ κ τ ρ mo pa pb z 0 = 0 := by
      unfold ra_acc ra_cnt
      rw [Nat.mul_zero, Nat.mul_zero]
    rw [e0] at h3
    have h3 : f_X3_finds_L30 (ra_st γ κ τ) (ra_nf ρ) (nI mo) (nI pa) (nI pb) (nI z) (ra_nf M) rf_fu 0 0 = _ := h3
    have hl := ra_acc_le (γ := γ) (κ := κ) (τ := τ) (ρ := ρ) (mo := mo) (size := z) (n := 12) ha hb (Nat.le_refl _)
    rw [f_X3_finds_L16, if_neg c250, h3, Option.bind_some, ra_nf_ap]
    unfold ra_bs
    by_cases c : ra_acc γ κ τ ρ mo pa pb z 12 < M 5
    · simp (disch := omega) only [↓reduceIte, ra_lit, ra_nf_ap, ra_st_lo, nI_add, nI_clamp, nI_ltI, nI_leI, nI_eq, Option.bind_some, if_true, if_false, not_false_eq_true, not_true_eq_false, ra_ltT, ra_ltF, ra_leT, ra_leF, ra_eqT, ra_eqF, or_false, false_or, or_true, true_or, and_true, true_and, and_false, false_and, if_pos c, ra_upd]
      obtain ⟨x, e⟩ := ih (z + 1) m (ra_un (ra_un M 4 z) 5 (ra_acc γ κ τ ρ mo pa pb z 12)) (by omega) (by omega) (by omega) (by show ra_acc γ κ τ ρ mo pa pb z 12 ≤ 1000000000; omega)
      rw [ra_unu] at e
      exact ⟨x, e⟩
    · simp (disch := omega) only [↓reduceIte, ra_lit, ra_nf_ap, ra_st_lo, nI_add, nI_clamp, nI_ltI, nI_leI, nI_eq, Option.bind_some, if_true, if_false, not_false_eq_true, not_true_eq_false, ra_ltT, ra_ltF, ra_leT, ra_leF, ra_eqT, ra_eqF, or_false, false_or, or_true, true_or, and_true, true_and, and_false, false_and, if_neg c]
      exact ih (z + 1) m M (by omega) (by omega) (by omega) h5
/-- the best size for months, what it costs -/
def ra_be (γ κ τ ρ : Nat → Nat) (mo pa pb : Nat) : Nat × Nat := ra_bs (fun s => ra_acc γ κ τ ρ mo pa pb s 12) 150 101 100 (ra_acc γ κ τ ρ mo pa pb 100 12)
theorem rr_finds {γ κ τ ρ : Nat → Nat} (M : Nat → Nat) (h : ra_ok γ κ τ) (hρ : ∀ j, ρ j ≤ 9) {mo pa pb : Nat} (hmo : mo < 4096) (ha : pa ≤ 99) (hb : pb ≤ 99) :
    f_X3_finds (ra_nf M) (ra_st γ κ τ) (ra_nf ρ) (nI mo) (nI pa) (nI pb) = some (ra_nf (ra_un (ra_un M 4 (ra_be γ κ τ ρ mo pa pb).1) 5 (ra_be γ κ τ ρ mo pa pb).2)) := by
  obtain ⟨x, e⟩ := rr_fiL16 h hρ hmo ha hb 151 100 rf_fu (ra_un (ra_un M 4 100) 5 1000000000) rfl (by omega) (by unfold rf_fu; omega) (Nat.le_refl _)
  have e0 : upd (upd (ra_nf M) 4 100) 5 1000000000 = ra_nf (ra_un (ra_un M 4 100) 5 1000000000) := by
    rw [show (100 : Int32) = nI 100 from rfl, show (1000000000 : Int32) = nI 1000000000 from rfl, ra_upd, ra_upd]
  rw [ra_unu] at e
  have hl := ra_acc_le (γ := γ) (κ := κ) (τ := τ) (ρ := ρ) (mo := mo) (size := 100) (n := 12) ha hb (Nat.le_refl _)
  have e1 : ra_bs (fun s => ra_acc γ κ τ ρ mo pa pb s 12) 151 100 (ra_un (ra_un M 4 100) 5 1000000000 4) (ra_un (ra_un M 4 100) 5 1000000000 5) = ra_be γ κ τ ρ mo pa pb := by
    show ra_bs (fun s => ra_acc γ κ τ ρ mo pa pb s 12) (150 + 1) 100 100 1000000000 = _
    rw [ra_bs]
    show (if ra_acc γ κ τ ρ mo pa pb 100 12 < 1000000000 then _ else _) = _
    rw [if_pos (by omega)]
    rfl
  rw [e1] at e
  unfold f_X3_finds
  rw [e0]
  have e : f_X3_finds_L16 (ra_st γ κ τ) (ra_nf ρ) (nI mo) (nI pa) (nI pb) rf_fu 100 (ra_nf (ra_un (ra_un M 4 100) 5 1000000000)) = _ := e
  rw [e]
  rfl
theorem rc_bsL {γ κ τ ρ : Nat → Nat} (a th : Nat → Int32) (h : ra_ok γ κ τ) (hρ : ∀ j, ρ j ≤ 9) (hth : ∀ j, j < 12 → th j = ra_te (ra_T γ κ τ ρ j)) {mo pa pb : Nat} (hmo : mo < 4096) (ha : pa ≤ 99) (hb : pb ≤ 99) : ∀ (d z m b l : Nat), z + d = 251 → 100 ≤ z → d < m → l ≤ 3000 →
    ∃ x y, f_X2_bestSize_L19 a th (nI mo) (nI pa) (nI pb) m (nI b) (nI l) (nI z) = some (nI (ra_bs (fun s => ra_acc γ κ τ ρ mo pa pb s 12) d z b l).1, x, y) := by
  intro d
  induction d with
  | zero =>
    intro z m b l hz h1 hm hl
    obtain ⟨m, rfl⟩ : ∃ q, m = q + 1 := ⟨m - 1, by omega⟩
    obtain rfl : z = 251 := by omega
    refine ⟨nI l, nI 251, ?_⟩
    rw [f_X2_bestSize_L19, if_pos (by decide)]
    rfl
  | succ d ih =>
    intro z m b l hz h1 hm hl
    obtain ⟨m, rfl⟩ : ∃ q, m = q + 1 := ⟨m - 1, by omega⟩
    have c250 : ¬ (250 : Int32) < nI z := nI_nlt (a := 250) (by omega) (by decide)
    have hle := ra_acc_le (γ := γ) (κ := κ) (τ := τ) (ρ := ρ) (mo := mo) (size := z) (n := 12) ha hb (Nat.le_refl _)
    rw [f_X2_bestSize_L19, if_neg c250]
    by_cases l0 : l = 0
    · subst l0
      rw [if_pos (by decide), ra_bs0]
      exact ⟨_, _, rfl⟩
    · rw [if_neg (nI_nle (by omega) (by omega)), rc_cost a th h hρ hth (by omega) h1 hmo, Option.bind_some]
      unfold ra_bs
      by_cases c : ra_acc γ κ τ ρ mo pa pb z 12 < l
      · simp (disch := omega) only [↓reduceIte, ra_lit, ra_nf_ap, ra_st_lo, nI_add, nI_clamp, nI_ltI, nI_leI, nI_eq, Option.bind_some, if_true, if_false, not_false_eq_true, not_true_eq_false, ra_ltT, ra_ltF, ra_leT, ra_leF, ra_eqT, ra_eqF, or_false, false_or, or_true, true_or, and_true, true_and, and_false, false_and, if_pos c]
        exact ih (z + 1) m z _ (by omega) (by omega) (by omega) hle
      · simp (disch := omega) only [↓reduceIte, ra_lit, ra_nf_ap, ra_st_lo, nI_add, nI_clamp, nI_ltI, nI_leI, nI_eq, Option.bind_some, if_true, if_false, not_false_eq_true, not_true_eq_false, ra_ltT, ra_ltF, ra_leT, ra_leF, ra_eqT, ra_eqF, or_false, false_or, or_true, true_or, and_true, true_and, and_false, false_and, if_neg c]
        exact ih (z + 1) m b l (by omega) (by omega) (by omega) hl
theorem rc_bestSize {γ κ τ ρ : Nat → Nat} (a th : Nat → Int32) (h : ra_ok γ κ τ) (hρ : ∀ j, ρ j ≤ 9) (hth : ∀ j, j < 12 → th j = ra_te (ra_T γ κ τ ρ j)) {mo pa pb : Nat} (hmo : mo < 4096) (ha : pa ≤ 99) (hb : pb ≤ 99) :
    f_X2_bestSize a th (nI mo) (nI pa) (nI pb) = some (nI (ra_be γ κ τ ρ mo pa pb).1) := by
  have hl := ra_acc_le (γ := γ) (κ := κ) (τ := τ) (ρ := ρ) (mo := mo) (size := 100) (n := 12) ha hb (Nat.le_refl _)
  obtain ⟨x, y, e⟩ := rc_bsL a th h hρ hth hmo ha hb 150 101 rf_fu 100 (ra_acc γ κ τ ρ mo pa pb 100 12) rfl (by omega) (by unfold rf_fu; omega) hl
  have e1 : f_X2_cost a th 100 (nI mo) (nI pa) (nI pb) = _ := rc_cost a th h hρ hth (size := 100) (by omega) (by omega) hmo
  have e : f_X2_bestSize_L19 a th (nI mo) (nI pa) (nI pb) rf_fu 100 (nI (ra_acc γ κ τ ρ mo pa pb 100 12)) 101 = _ := e
  unfold f_X2_bestSize
  rw [e1, Option.bind_some, e]
  rfl
theorem rc_costBest {γ κ τ ρ : Nat → Nat} (a th : Nat → Int32) (h : ra_ok γ κ τ) (hρ : ∀ j, ρ j ≤ 9) (hth : ∀ j, j < 12 → th j = ra_te (ra_T γ κ τ ρ j)) {mo pa pb : Nat} (hmo : mo < 4096) :
    f_X2_cost a th (nI (ra_be γ κ τ ρ mo pa pb).1) (nI mo) (nI pa) (nI pb) = some (nI (ra_be γ κ τ ρ mo pa pb).2) := by
  obtain ⟨h1, h2, h3⟩ := ra_bs_in (fun s => ra_acc γ κ τ ρ mo pa pb s 12) 150 101 100 rfl (by omega) (by omega) (by omega)
  rw [rc_cost a th h hρ hth (size := (ra_be γ κ τ ρ mo pa pb).1) (by show (ra_bs _ 150 101 100 _).1 < 1000; omega) h2 hmo]
  congr 2
  exact h1.symm
theorem rc_leastCost {γ κ τ ρ : Nat → Nat} (a th : Nat → Int32) (h : ra_ok γ κ τ) (hρ : ∀ j, ρ j ≤ 9) (hth : ∀ j, j < 12 → th j = ra_te (ra_T γ κ τ ρ j)) {mo pa pb : Nat} (hmo : mo < 4096) (ha : pa ≤ 99) (hb : pb ≤ 99) :
    f_X2_leastCost a th (nI mo) (nI pa) (nI pb) = some (nI (ra_be γ κ τ ρ mo pa pb).2) := by
  unfold f_X2_leastCost
  rw [rc_bestSize a th h hρ hth hmo ha hb, Option.bind_some, rc_costBest a th h hρ hth hmo]
  rfl
theorem ra_price (p0 p1 : Int32) :
    (∃ pa pb, pa ≤ 99 ∧ pb ≤ 99 ∧ p0 = nI pa ∧ p1 = nI pb ∧ f_X2_priceRange p0 p1 = some (nI 0)) ∨
    ((p0 < nI 0 ∨ p1 < nI 0) ∧ f_X2_priceRange p0 p1 = some (-nI 4)) ∨
    (∃ pa pb, (99 < pa ∨ 99 < pb) ∧ pa < 2 ^ 31 ∧ pb < 2 ^ 31 ∧ p0 = nI pa ∧ p1 = nI pb ∧ f_X2_priceRange p0 p1 = some (-nI 6)) := by
  unfold f_X2_priceRange
  by_cases h0 : p0 < nI 0
  · right; left
    exact ⟨Or.inl h0, by simp (disch := omega) only [↓reduceIte, ra_lit, ra_nf_ap, ra_st_lo, nI_add, nI_clamp, nI_ltI, nI_leI, nI_eq, Option.bind_some, if_true, if_false, not_false_eq_true, not_true_eq_false, ra_ltT, ra_ltF, ra_leT, ra_leF, ra_eqT, ra_eqF, or_false, false_or, or_true, true_or, and_true, true_and, and_false, false_and, if_pos h0]⟩
  · obtain ⟨pa, ha, rfl⟩ := nI_of (x := p0) h0
    by_cases h1 : p1 < nI 0
    · right; left
      exact ⟨Or.inr h1, by simp (disch := omega) only [↓reduceIte, ra_lit, ra_nf_ap, ra_st_lo, nI_add, nI_clamp, nI_ltI, nI_leI, nI_eq, Option.bind_some, if_true, if_false, not_false_eq_true, not_true_eq_false, ra_ltT, ra_ltF, ra_leT, ra_leF, ra_eqT, ra_eqF, or_false, false_or, or_true, true_or, and_true, true_and, and_false, false_and, ra_nLe h1]⟩
    · obtain ⟨pb, hb, rfl⟩ := nI_of (x := p1) h1
      by_cases c : pa ≤ 99 ∧ pb ≤ 99
      · left
        obtain ⟨c1, c2⟩ := c
        exact ⟨pa, pb, c1, c2, rfl, rfl, by simp (disch := omega) only [↓reduceIte, ra_lit, ra_nf_ap, ra_st_lo, nI_add, nI_clamp, nI_ltI, nI_leI, nI_eq, Option.bind_some, if_true, if_false, not_false_eq_true, not_true_eq_false, ra_ltT, ra_ltF, ra_leT, ra_leF, ra_eqT, ra_eqF, or_false, false_or, or_true, true_or, and_true, true_and, and_false, false_and]⟩
      · right; right
        refine ⟨pa, pb, by omega, ha, hb, rfl, rfl, ?_⟩
        by_cases c1 : 99 < pa
        · simp (disch := omega) only [↓reduceIte, ra_lit, ra_nf_ap, ra_st_lo, nI_add, nI_clamp, nI_ltI, nI_leI, nI_eq, Option.bind_some, if_true, if_false, not_false_eq_true, not_true_eq_false, ra_ltT, ra_ltF, ra_leT, ra_leF, ra_eqT, ra_eqF, or_false, false_or, or_true, true_or, and_true, true_and, and_false, false_and]
        · simp (disch := omega) only [↓reduceIte, ra_lit, ra_nf_ap, ra_st_lo, nI_add, nI_clamp, nI_ltI, nI_leI, nI_eq, Option.bind_some, if_true, if_false, not_false_eq_true, not_true_eq_false, ra_ltT, ra_ltF, ra_leT, ra_leF, ra_eqT, ra_eqF, or_false, false_or, or_true, true_or, and_true, true_and, and_false, false_and]
theorem tm_year {γ κ τ : Nat → Nat} (G M ρ φ : Nat → Nat) (ta tb tc th : Nat → Int32) {R : Nat} (hG : G 1 = R) (hM : M 2 = R) (hR : R ≤ 12) (hρ : ∀ j, ρ j ≤ 9) (h : ra_ok γ κ τ) (p1 p2 p3 : Int32) :
    ∃ r a b c th' x y φ', f_X2_year (ra_nf G) (ra_nf γ) (ra_nf κ) (ra_nf τ) ta tb tc (ra_nf ρ) th (ra_nf φ) p1 p2 p3 = some (r, a, b, c, th', ra_nf φ') ∧ f_X3_year (ra_nf M) (ra_st γ κ τ) (ra_nf ρ) (ra_nf φ) p1 p2 p3 = some (r, ra_nf (ra_un (ra_un M 4 x) 5 y), ra_nf φ') := by
  unfold f_X2_year f_X3_year
  rcases ra_price p1 p2 with ⟨pa, pb, ha, hb, rfl, rfl, e1⟩ | ⟨hn, e1⟩ | ⟨pa, pb, hc, ha, hb, rfl, rfl, e1⟩
  · rw [e1]
    rcases ra_either p3 with ⟨h3, e2, e3⟩ | ⟨e2, e3⟩
    · rw [e2, e3, rr_areHeats M ρ hM hR hρ]
      by_cases c12 : R = 12
      · obtain ⟨b, th', h1, h2⟩ := rc_measure ρ (ra_nf G) ta tb tc th h hρ
        have f1 := rc_bestSize (ra_nf G) th' h hρ h2 (mo := 4095) (pa := pa) (pb := pb) (by omega) ha hb
        have f2 := rc_costBest (ra_nf G) th' h hρ h2 (mo := 4095) (pa := pa) (pb := pb) (by omega)
        have f3 := rr_finds M h hρ (mo := 4095) (pa := pa) (pb := pb) (by omega) ha hb
        rcases h3 with rfl | rfl
        · refine ⟨nI (ra_be γ κ τ ρ 4095 pa pb).1, b, ra_nf κ, ra_nf τ, th', (ra_be γ κ τ ρ 4095 pa pb).1, (ra_be γ κ τ ρ 4095 pa pb).2, φ, ?_, ?_⟩
          · simp (disch := omega) only [↓reduceIte, ra_lit, ra_nf_ap, ra_st_lo, nI_add, nI_clamp, nI_ltI, nI_leI, nI_eq, Option.bind_some, if_true, if_false, not_false_eq_true, not_true_eq_false, ra_ltT, ra_ltF, ra_leT, ra_leF, ra_eqT, ra_eqF, or_false, false_or, or_true, true_or, and_true, true_and, and_false, false_and, hG, h1, f1]
          · simp (disch := omega) only [↓reduceIte, ra_lit, ra_nf_ap, ra_st_lo, nI_add, nI_clamp, nI_ltI, nI_leI, nI_eq, Option.bind_some, if_true, if_false, not_false_eq_true, not_true_eq_false, ra_ltT, ra_ltF, ra_leT, ra_leF, ra_eqT, ra_eqF, or_false, false_or, or_true, true_or, and_true, true_and, and_false, false_and, f3]
            rfl
        · refine ⟨nI (ra_be γ κ τ ρ 4095 pa pb).2, b, ra_nf κ, ra_nf τ, th', (ra_be γ κ τ ρ 4095 pa pb).1, (ra_be γ κ τ ρ 4095 pa pb).2, φ, ?_, ?_⟩
          · simp (disch := omega) only [↓reduceIte, ra_lit, ra_nf_ap, ra_st_lo, nI_add, nI_clamp, nI_ltI, nI_leI, nI_eq, Option.bind_some, if_true, if_false, not_false_eq_true, not_true_eq_false, ra_ltT, ra_ltF, ra_leT, ra_leF, ra_eqT, ra_eqF, or_false, false_or, or_true, true_or, and_true, true_and, and_false, false_and, hG, h1, f1, f2]
          · simp (disch := omega) only [↓reduceIte, ra_lit, ra_nf_ap, ra_st_lo, nI_add, nI_clamp, nI_ltI, nI_leI, nI_eq, Option.bind_some, if_true, if_false, not_false_eq_true, not_true_eq_false, ra_ltT, ra_ltF, ra_leT, ra_leF, ra_eqT, ra_eqF, or_false, false_or, or_true, true_or, and_true, true_and, and_false, false_and, f3]
            rfl
      · refine ⟨-nI 3, ta, tb, tc, th, M 4, M 5, ra_rf φ 3, ?_, ?_⟩
        · simp (disch := omega) only [↓reduceIte, ra_lit, ra_nf_ap, ra_st_lo, nI_add, nI_clamp, nI_ltI, nI_leI, nI_eq, Option.bind_some, if_true, if_false, not_false_eq_true, not_true_eq_false, ra_ltT, ra_ltF, ra_leT, ra_leF, ra_eqT, ra_eqF, or_false, false_or, or_true, true_or, and_true, true_and, and_false, false_and, hG, rc_refuse]
        · rw [ra_unself]
          simp (disch := omega) only [↓reduceIte, ra_lit, ra_nf_ap, ra_st_lo, nI_add, nI_clamp, nI_ltI, nI_leI, nI_eq, Option.bind_some, if_true, if_false, not_false_eq_true, not_true_eq_false, ra_ltT, ra_ltF, ra_leT, ra_leF, ra_eqT, ra_eqF, or_false, false_or, or_true, true_or, and_true, true_and, and_false, false_and, rr_no]
    · rw [e2, e3]
      refine ⟨-nI 2, ta, tb, tc, th, M 4, M 5, ra_rf φ 2, ?_, ?_⟩
      · simp (disch := omega) only [↓reduceIte, ra_lit, ra_nf_ap, ra_st_lo, nI_add, nI_clamp, nI_ltI, nI_leI, nI_eq, Option.bind_some, if_true, if_false, not_false_eq_true, not_true_eq_false, ra_ltT, ra_ltF, ra_leT, ra_leF, ra_eqT, ra_eqF, or_false, false_or, or_true, true_or, and_true, true_and, and_false, false_and, rc_refuse]
      · rw [ra_unself]
        simp (disch := omega) only [↓reduceIte, ra_lit, ra_nf_ap, ra_st_lo, nI_add, nI_clamp, nI_ltI, nI_leI, nI_eq, Option.bind_some, if_true, if_false, not_false_eq_true, not_true_eq_false, ra_ltT, ra_ltF, ra_leT, ra_leF, ra_eqT, ra_eqF, or_false, false_or, or_true, true_or, and_true, true_and, and_false, false_and, rr_no]
  · rw [e1]
    refine ⟨-nI 4, ta, tb, tc, th, M 4, M 5, ra_rf φ 4, ?_, ?_⟩
    · simp (disch := omega) only [↓reduceIte, ra_lit, ra_nf_ap, ra_st_lo, nI_add, nI_clamp, nI_ltI, nI_leI, nI_eq, Option.bind_some, if_true, if_false, not_false_eq_true, not_true_eq_false, ra_ltT, ra_ltF, ra_leT, ra_leF, ra_eqT, ra_eqF, or_false, false_or, or_true, true_or, and_true, true_and, and_false, false_and, ra_nz3 (c := 4) (by omega), rc_refuse]
    · rw [ra_unself]
      by_cases h0 : p1 < nI 0
      · simp (disch := omega) only [↓reduceIte, ra_lit, ra_nf_ap, ra_st_lo, nI_add, nI_clamp, nI_ltI, nI_leI, nI_eq, Option.bind_some, if_true, if_false, not_false_eq_true, not_true_eq_false, ra_ltT, ra_ltF, ra_leT, ra_leF, ra_eqT, ra_eqF, or_false, false_or, or_true, true_or, and_true, true_and, and_false, false_and, if_pos h0, rr_no]
      · have h1 : p2 < nI 0 := by
          rcases hn with z | z
          · exact absurd z h0
          · exact z
        simp (disch := omega) only [↓reduceIte, ra_lit, ra_nf_ap, ra_st_lo, nI_add, nI_clamp, nI_ltI, nI_leI, nI_eq, Option.bind_some, if_true, if_false, not_false_eq_true, not_true_eq_false, ra_ltT, ra_ltF, ra_leT, ra_leF, ra_eqT, ra_eqF, or_false, false_or, or_true, true_or, and_true, true_and, and_false, false_and, if_neg h0, ra_nLe h1, rr_no]
  · rw [e1]
    refine ⟨-nI 6, ta, tb, tc, th, M 4, M 5, ra_rf φ 6, ?_, ?_⟩
    · simp (disch := omega) only [↓reduceIte, ra_lit, ra_nf_ap, ra_st_lo, nI_add, nI_clamp, nI_ltI, nI_leI, nI_eq, Option.bind_some, if_true, if_false, not_false_eq_true, not_true_eq_false, ra_ltT, ra_ltF, ra_leT, ra_leF, ra_eqT, ra_eqF, or_false, false_or, or_true, true_or, and_true, true_and, and_false, false_and, ra_nz3 (c := 6) (by omega), rc_refuse]
    · rw [ra_unself]
      by_cases c1 : 99 < pa
      · simp (disch := omega) only [↓reduceIte, ra_lit, ra_nf_ap, ra_st_lo, nI_add, nI_clamp, nI_ltI, nI_leI, nI_eq, Option.bind_some, if_true, if_false, not_false_eq_true, not_true_eq_false, ra_ltT, ra_ltF, ra_leT, ra_leF, ra_eqT, ra_eqF, or_false, false_or, or_true, true_or, and_true, true_and, and_false, false_and, rr_no]
      · simp (disch := omega) only [↓reduceIte, ra_lit, ra_nf_ap, ra_st_lo, nI_add, nI_clamp, nI_ltI, nI_leI, nI_eq, Option.bind_some, if_true, if_false, not_false_eq_true, not_true_eq_false, ra_ltT, ra_ltF, ra_leT, ra_leF, ra_eqT, ra_eqF, or_false, false_or, or_true, true_or, and_true, true_and, and_false, false_and, rr_no]
end RAYear
