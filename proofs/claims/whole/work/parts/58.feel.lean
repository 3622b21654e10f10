/-! went, feel -/
section RAFeel
theorem rr_gaL {γ κ τ : Nat → Nat} (M : Nat → Nat) (h : ra_ok γ κ τ) {k sw : Nat} (hk : k < 7) (hs : sw ≤ 30) : ∀ (d p m : Nat), p + d = γ 0 → d < m →
    f_X3_goesOverAll_L2 (ra_nf M) (ra_st γ κ τ) (nI k) (nI sw) m (nI p) = some (if ∀ q, q < γ 0 → p ≤ q → ra_pf κ τ sw (γ 5) (γ 7) q ≤ γ 1 + ra_al k (γ 2) then Sum.inr (nI (γ 0)) else Sum.inl (nI 0)) := by
  obtain ⟨h0, h1, h2, h3, h4, h5, h6, h7, h8, h9, h10, h11⟩ := id h
  have hal : f_X3_allows (ra_nf M) (ra_st γ κ τ) (nI k) = some (nI (ra_al k (γ 2))) := ra_alR (ra_nf M) (ra_jn γ κ τ) (by omega) h5
  have hall := ra_al_le k (γ 2)
  intro d
  induction d with
  | zero =>
    intro p m hp hm
    obtain ⟨m, rfl⟩ : ∃ q, m = q + 1 := ⟨m - 1, by omega⟩
    obtain rfl : p = γ 0 := by omega
    rw [f_X3_goesOverAll_L2, if_pos (fun q a b => by omega)]
    simp (disch := omega) only [↓reduceIte, ra_lit, ra_nf_ap, ra_st_lo, nI_add, nI_clamp, nI_ltI, nI_leI, nI_eq, Option.bind_some, if_true, if_false, not_false_eq_true, not_true_eq_false, ra_ltT, ra_ltF, ra_leT, ra_leF, ra_eqT, ra_eqF, or_false, false_or, or_true, true_or, and_true, true_and, and_false, false_and]
  | succ d ih =>
    intro p m hp hm
    obtain ⟨m, rfl⟩ : ∃ q, m = q + 1 := ⟨m - 1, by omega⟩
    have := h11 p
    have ht := ra_tk_le (k := κ p) (th := τ p) (sw := sw) (co := γ 5) (he := γ 7) (by omega) (by omega) (by omega)
    rw [f_X3_goesOverAll_L2]
    simp (disch := omega) only [↓reduceIte, ra_lit, ra_nf_ap, ra_st_lo, nI_add, nI_clamp, nI_ltI, nI_leI, nI_eq, Option.bind_some, if_true, if_false, not_false_eq_true, not_true_eq_false, ra_ltT, ra_ltF, ra_leT, ra_leF, ra_eqT, ra_eqF, or_false, false_or, or_true, true_or, and_true, true_and, and_false, false_and, rr_partBy h, hal]
    by_cases c : ra_tk (κ p) (τ p) sw (γ 5) (γ 7) ≤ γ 1 + ra_al k (γ 2)
    · rw [if_pos c, ih (p + 1) m (by omega) (by omega)]
      have e : (∀ q, q < γ 0 → p + 1 ≤ q → ra_pf κ τ sw (γ 5) (γ 7) q ≤ γ 1 + ra_al k (γ 2)) ↔ (∀ q, q < γ 0 → p ≤ q → ra_pf κ τ sw (γ 5) (γ 7) q ≤ γ 1 + ra_al k (γ 2)) := by
        constructor
        · intro z q a b
          by_cases e : q = p
          · subst e; exact c
          · exact z q a (by omega)
        · intro z q a b
          exact z q a (by omega)
      simp only [e]
    · rw [if_neg c, if_neg (fun z => c (z p (by omega) (Nat.le_refl _)))]
theorem rr_gaAll {γ κ τ : Nat → Nat} (M : Nat → Nat) (h : ra_ok γ κ τ) {k sw : Nat} (hk : k < 7) (hs : sw ≤ 30) :
    f_X3_goesOverAll (ra_nf M) (ra_st γ κ τ) (nI k) (nI sw) = some (nI (if ra_top (ra_pf κ τ sw (γ 5) (γ 7)) (γ 0) ≤ γ 1 + ra_al k (γ 2) + 1 then 1 else 0)) := by
  have h1 := rr_gaL M h hk hs (γ 0) 0 rf_fu (by omega) (by have := h.1; unfold rf_fu; omega)
  have e : (∀ q, q < γ 0 → 0 ≤ q → ra_pf κ τ sw (γ 5) (γ 7) q ≤ γ 1 + ra_al k (γ 2)) ↔ ra_top (ra_pf κ τ sw (γ 5) (γ 7)) (γ 0) ≤ γ 1 + ra_al k (γ 2) + 1 := by
    rw [ra_top_le]
    exact ⟨fun z p hp => by have := z p hp (Nat.zero_le _); omega, fun z q hq _ => by have := z q hq; omega⟩
  have h1 : f_X3_goesOverAll_L2 (ra_nf M) (ra_st γ κ τ) (nI k) (nI sw) rf_fu 0 = _ := h1
  unfold f_X3_goesOverAll
  by_cases c : ra_top (ra_pf κ τ sw (γ 5) (γ 7)) (γ 0) ≤ γ 1 + ra_al k (γ 2) + 1
  · rw [if_pos (e.mpr c)] at h1
    rw [h1, if_pos c]
    rfl
  · rw [if_neg (fun z => c (e.mp z))] at h1
    rw [h1, if_neg c]
    rfl
theorem ra_weL {γ κ τ : Nat → Nat} (G M : Nat → Nat) (n1 n2 n3 rc rr : Nat → Int32) (p2 : Int32) (h : ra_ok γ κ τ) {k : Nat} (hk : k < 7) : ∀ (d v m m' s : Nat) (x y : Int32), v + d = 31 → d < m → d < m' →
    ∃ r1 r2 z g z', f_X2_went_L41 (ra_nf G) n1 n2 n3 (nI k) p2 (ra_nf κ) (ra_nf τ) rc m x y (nI v) (ra_nf (ra_un γ 4 s)) = some (r1, r2, z, g) ∧ f_X3_went_L35 (ra_nf M) (ra_st γ κ τ) (nI k) p2 rr m' x y (nI v) = some (r1, r2, z') := by
  intro d
  induction d with
  | zero =>
    intro v m m' s x y hv hm hm'
    obtain ⟨m, rfl⟩ : ∃ q, m = q + 1 := ⟨m - 1, by omega⟩
    obtain ⟨m', rfl⟩ : ∃ q, m' = q + 1 := ⟨m' - 1, by omega⟩
    obtain rfl : v = 31 := by omega
    refine ⟨x, y, nI 31, ra_nf (ra_un γ 4 s), nI 31, ?_, ?_⟩
    · rw [f_X2_went_L41, if_pos (by decide)]
    · rw [f_X3_went_L35, if_pos (by decide)]
  | succ d ih =>
    intro v m m' s x y hv hm hm'
    obtain ⟨m, rfl⟩ : ∃ q, m = q + 1 := ⟨m - 1, by omega⟩
    obtain ⟨m', rfl⟩ : ∃ q, m' = q + 1 := ⟨m' - 1, by omega⟩
    obtain ⟨h0, h1, h2, h3, h4, h5, h6, h7, h8, h9, h10, h11⟩ := id h
    have hal := ra_al_le k (γ 2)
    have hok : ra_ok (ra_un γ 4 v) κ τ := ⟨h0, h1, h2, h3, h4, h5, by show v ≤ 30; omega, h7, h8, h9, h10, h11⟩
    have ht : f_X0_thickestNow (ra_nf (ra_un γ 4 v)) (ra_nf κ) (ra_nf τ) = some (ra_te (ra_top (ra_pf κ τ v (γ 5) (γ 7)) (γ 0))) := rc_thickest hok
    have hb := ra_top_bd (κ := κ) (τ := τ) (sw := v) (co := γ 5) (he := γ 7) (n := γ 0) h11 (by omega) (by omega)
    have c30 : ¬ (30 : Int32) < nI v := nI_nlt (a := 30) (by omega) (by decide)
    have e1 : ra_nf (ra_un γ 4 s) 2 = nI (γ 2) := rfl
    have e2 : ra_nf (ra_un γ 4 s) 1 = nI (γ 1) := rfl
    rw [f_X2_went_L41, f_X3_went_L35, if_neg c30, if_neg c30, ra_upd, ra_unun, ht, Option.bind_some, e1, e2, ra_alC (by omega) h5, Option.bind_some, rr_gaAll M h hk (by omega), Option.bind_some, nI_add, nI_1]
    by_cases c : ra_top (ra_pf κ τ v (γ 5) (γ 7)) (γ 0) ≤ γ 1 + ra_al k (γ 2) + 1
    · rw [if_neg (by rw [ra_lt_te (by omega) (by omega)]; omega), if_pos c]
      simp only [Option.bind_some]
      rw [if_neg (show ¬ nI 1 = 0 by decide)]
      exact ih (v + 1) m m' v (x + 1) (nI v) (by omega) (by omega) (by omega)
    · rw [if_pos (by rw [ra_lt_te (by omega) (by omega)]; omega), if_neg c]
      simp only [Option.bind_some]
      rw [if_pos (show nI 0 = 0 from rfl)]
      exact ih (v + 1) m m' v x y (by omega) (by omega) (by omega)
theorem tm_went {γ κ τ : Nat → Nat} (G M φ : Nat → Nat) (ta tb tc : Nat → Int32) (h : ra_ok γ κ τ) (p1 p2 : Int32) :
    ∃ r a b c φ', f_X2_went (ra_nf G) (ra_nf γ) (ra_nf κ) (ra_nf τ) ta tb tc (ra_nf φ) p1 p2 = some (r, a, b, c, ra_nf φ') ∧ f_X3_went (ra_nf M) (ra_st γ κ τ) (ra_nf φ) p1 p2 = some (r, ra_nf φ') := by
  unfold f_X2_went f_X3_went
  rcases ra_try p1 with ⟨k, hk, rfl, e1, e2⟩ | ⟨e1, e2⟩
  · rw [e1, e2]
    rcases ra_either p2 with ⟨h3, e3, e4⟩ | ⟨e3, e4⟩
    · rw [e3, e4]
      obtain ⟨r1, r2, z, g, z', e5, e6⟩ := ra_weL G M (ra_nf γ) (ra_nf κ) (ra_nf τ) (ra_nf φ) (ra_nf φ) p2 h hk 31 0 rf_fu rf_fu (γ 4) (nI 0) (-nI 9) rfl (by unfold rf_fu; omega) (by unfold rf_fu; omega)
      have e0 : ra_un γ 4 (γ 4) = γ := by
        funext j
        unfold ra_un
        split
        · rename_i e
          rw [e]
        · rfl
      rw [e0] at e5
      simp (disch := omega) only [↓reduceIte, ra_lit, ra_nf_ap, ra_st_lo, nI_add, nI_clamp, nI_ltI, nI_leI, nI_eq, Option.bind_some, if_true, if_false, not_false_eq_true, not_true_eq_false, ra_ltT, ra_ltF, ra_leT, ra_leF, ra_eqT, ra_eqF, or_false, false_or, or_true, true_or, and_true, true_and, and_false, false_and, rc_copy, e5, e6]
      rcases h3 with rfl | rfl
      · refine ⟨r1, g, ra_nf κ, ra_nf τ, φ, ?_, ?_⟩
        · simp (disch := omega) only [↓reduceIte, ra_lit, ra_nf_ap, ra_st_lo, nI_add, nI_clamp, nI_ltI, nI_leI, nI_eq, Option.bind_some, if_true, if_false, not_false_eq_true, not_true_eq_false, ra_ltT, ra_ltF, ra_leT, ra_leF, ra_eqT, ra_eqF, or_false, false_or, or_true, true_or, and_true, true_and, and_false, false_and]
        · simp (disch := omega) only [↓reduceIte, ra_lit, ra_nf_ap, ra_st_lo, nI_add, nI_clamp, nI_ltI, nI_leI, nI_eq, Option.bind_some, if_true, if_false, not_false_eq_true, not_true_eq_false, ra_ltT, ra_ltF, ra_leT, ra_leF, ra_eqT, ra_eqF, or_false, false_or, or_true, true_or, and_true, true_and, and_false, false_and]
      · refine ⟨r2, g, ra_nf κ, ra_nf τ, φ, ?_, ?_⟩
        · simp (disch := omega) only [↓reduceIte, ra_lit, ra_nf_ap, ra_st_lo, nI_add, nI_clamp, nI_ltI, nI_leI, nI_eq, Option.bind_some, if_true, if_false, not_false_eq_true, not_true_eq_false, ra_ltT, ra_ltF, ra_leT, ra_leF, ra_eqT, ra_eqF, or_false, false_or, or_true, true_or, and_true, true_and, and_false, false_and]
        · simp (disch := omega) only [↓reduceIte, ra_lit, ra_nf_ap, ra_st_lo, nI_add, nI_clamp, nI_ltI, nI_leI, nI_eq, Option.bind_some, if_true, if_false, not_false_eq_true, not_true_eq_false, ra_ltT, ra_ltF, ra_leT, ra_leF, ra_eqT, ra_eqF, or_false, false_or, or_true, true_or, and_true, true_and, and_false, false_and]
    · rw [e3, e4]
      refine ⟨-nI 2, ta, tb, tc, ra_rf φ 2, ?_, ?_⟩
      · simp (disch := omega) only [↓reduceIte, ra_lit, ra_nf_ap, ra_st_lo, nI_add, nI_clamp, nI_ltI, nI_leI, nI_eq, Option.bind_some, if_true, if_false, not_false_eq_true, not_true_eq_false, ra_ltT, ra_ltF, ra_leT, ra_leF, ra_eqT, ra_eqF, or_false, false_or, or_true, true_or, and_true, true_and, and_false, false_and, rc_refuse]
      · simp (disch := omega) only [↓reduceIte, ra_lit, ra_nf_ap, ra_st_lo, nI_add, nI_clamp, nI_ltI, nI_leI, nI_eq, Option.bind_some, if_true, if_false, not_false_eq_true, not_true_eq_false, ra_ltT, ra_ltF, ra_leT, ra_leF, ra_eqT, ra_eqF, or_false, false_or, or_true, true_or, and_true, true_and, and_false, false_and, rr_no]
  · rw [e1, e2]
    refine ⟨-nI 2, ta, tb, tc, ra_rf φ 2, ?_, ?_⟩
    · simp (disch := omega) only [↓reduceIte, ra_lit, ra_nf_ap, ra_st_lo, nI_add, nI_clamp, nI_ltI, nI_leI, nI_eq, Option.bind_some, if_true, if_false, not_false_eq_true, not_true_eq_false, ra_ltT, ra_ltF, ra_leT, ra_leF, ra_eqT, ra_eqF, or_false, false_or, or_true, true_or, and_true, true_and, and_false, false_and, rc_refuse]
    · simp (disch := omega) only [↓reduceIte, ra_lit, ra_nf_ap, ra_st_lo, nI_add, nI_clamp, nI_ltI, nI_leI, nI_eq, Option.bind_some, if_true, if_false, not_false_eq_true, not_true_eq_false, ra_ltT, ra_ltF, ra_leT, ra_leF, ra_eqT, ra_eqF, or_false, false_or, or_true, true_or, and_true, true_and, and_false, false_and, rr_no]
/-! feel -/
def ra_lim (j : Nat) : Nat := if j % 2 = 0 then 7 else 2
theorem rr_toL (M ρ : Nat → Nat) {R : Nat} (hM : M 2 = R) (hR : R ≤ 12) (hρ : ∀ j, ρ j ≤ 9) : ∀ (d i m : Nat), i + d = R → d < m →
    f_X3_areTold_L2 (ra_nf M) (ra_nf ρ) m (nI i) = some (if ∀ q, q < R → i ≤ q → ρ q < ra_lim q then Sum.inr (nI R) else Sum.inl (nI 0)) := by
  intro d
  induction d with
  | zero =>
    intro i m hi hm
    obtain ⟨m, rfl⟩ : ∃ q, m = q + 1 := ⟨m - 1, by omega⟩
    obtain rfl : i = R := by omega
    rw [f_X3_areTold_L2, if_pos (fun q a b => by omega)]
    simp (disch := omega) only [↓reduceIte, ra_lit, ra_nf_ap, ra_st_lo, nI_add, nI_clamp, nI_ltI, nI_leI, nI_eq, Option.bind_some, if_true, if_false, not_false_eq_true, not_true_eq_false, ra_ltT, ra_ltF, ra_leT, ra_leF, ra_eqT, ra_eqF, or_false, false_or, or_true, true_or, and_true, true_and, and_false, false_and, hM]
  | succ d ih =>
    intro i m hi hm
    obtain ⟨m, rfl⟩ : ∃ q, m = q + 1 := ⟨m - 1, by omega⟩
    have := hρ i
    have hrem : rf_rem (nI i) (nI 2) = nI (i % 2) := pk_rem (by omega) (by decide) (by decide)
    have ih := ih (i + 1) m (by omega) (by omega)
    have e : ρ i < ra_lim i → ((∀ q, q < R → i + 1 ≤ q → ρ q < ra_lim q) ↔ (∀ q, q < R → i ≤ q → ρ q < ra_lim q)) := by
      intro c
      constructor
      · intro z q a b
        by_cases e : q = i
        · subst e; exact c
        · exact z q a (by omega)
      · intro z q a b
        exact z q a (by omega)
    rw [f_X3_areTold_L2]
    by_cases par : i % 2 = 0
    · have el : ra_lim i = 7 := if_pos par
      simp (disch := omega) only [↓reduceIte, ra_lit, ra_nf_ap, ra_st_lo, nI_add, nI_clamp, nI_ltI, nI_leI, nI_eq, Option.bind_some, if_true, if_false, not_false_eq_true, not_true_eq_false, ra_ltT, ra_ltF, ra_leT, ra_leF, ra_eqT, ra_eqF, or_false, false_or, or_true, true_or, and_true, true_and, and_false, false_and, hM, hrem]
      by_cases c : ρ i < 7
      · rw [if_pos c, ih]
        simp only [e (by omega)]
      · rw [if_neg c, if_neg (fun z => c (by have := z i (by omega) (Nat.le_refl _); omega))]
    · have el : ra_lim i = 2 := if_neg par
      simp (disch := omega) only [↓reduceIte, ra_lit, ra_nf_ap, ra_st_lo, nI_add, nI_clamp, nI_ltI, nI_leI, nI_eq, Option.bind_some, if_true, if_false, not_false_eq_true, not_true_eq_false, ra_ltT, ra_ltF, ra_leT, ra_leF, ra_eqT, ra_eqF, or_false, false_or, or_true, true_or, and_true, true_and, and_false, false_and, hM, hrem]
      by_cases c : ρ i ≤ 1
      · rw [if_pos c, ih]
        simp only [e (by omega)]
      · rw [if_neg c, if_neg (fun z => c (by have := z i (by omega) (Nat.le_refl _); omega))]
def ra_told (ρ : Nat → Nat) (R : Nat) : Prop := R % 2 = 0 ∧ ∀ q, q < R → ρ q < ra_lim q
theorem rr_areTold (M ρ : Nat → Nat) {R : Nat} (hM : M 2 = R) (hR : R ≤ 12) (hρ : ∀ j, ρ j ≤ 9) :
    (ra_told ρ R ∧ f_X3_areTold (ra_nf M) (ra_nf ρ) = some (nI 1)) ∨ (¬ ra_told ρ R ∧ f_X3_areTold (ra_nf M) (ra_nf ρ) = some (nI 0)) := by
  have h1 := rr_toL M ρ hM hR hρ R 0 rf_fu (by omega) (by unfold rf_fu; omega)
  have h1 : f_X3_areTold_L2 (ra_nf M) (ra_nf ρ) rf_fu 0 = _ := h1
  have hrem : rf_rem (ra_nf M 2) 2 = nI (R % 2) := by
    rw [ra_nf_ap, hM]
    exact pk_rem (d := 2) (by omega) (by decide) (by decide)
  unfold f_X3_areTold
  by_cases c : ∀ q, q < R → 0 ≤ q → ρ q < ra_lim q
  · rw [if_pos c] at h1
    rw [h1, Option.bind_some]
    simp only [rf_sum, hrem, Option.bind_some]
    by_cases c2 : R % 2 = 0
    · left
      refine ⟨⟨c2, fun q hq => c q hq (Nat.zero_le _)⟩, ?_⟩
      rw [c2]
      rfl
    · right
      refine ⟨fun z => c2 z.1, ?_⟩
      rw [show R % 2 = 1 by omega]
      rfl
  · rw [if_neg c] at h1
    rw [h1]
    right
    exact ⟨fun z => c (fun q hq _ => z.2 q hq), rfl⟩
theorem rc_toL (G ρ : Nat → Nat) {R : Nat} (hG : G 1 = R) (hR : R ≤ 12) (hρ : ∀ j, ρ j ≤ 9) : ∀ (d i m : Nat), i + 2 * d = R → i % 2 = 0 → d < m →
    (((∀ q, q < R → i ≤ q → ρ q < ra_lim q) ∧ f_X2_numbersTellTries_L13 (ra_nf G) (ra_nf ρ) m (nI i) = some (Sum.inr (nI R))) ∨ (¬ (∀ q, q < R → i ≤ q → ρ q < ra_lim q) ∧ f_X2_numbersTellTries_L13 (ra_nf G) (ra_nf ρ) m (nI i) = some (Sum.inl (nI 0)))) := by
  intro d
  induction d with
  | zero =>
    intro i m hi hp hm
    obtain ⟨m, rfl⟩ : ∃ q, m = q + 1 := ⟨m - 1, by omega⟩
    obtain rfl : i = R := by omega
    left
    refine ⟨fun q a b => by omega, ?_⟩
    rw [f_X2_numbersTellTries_L13]
    simp (disch := omega) only [↓reduceIte, ra_lit, ra_nf_ap, ra_st_lo, nI_add, nI_clamp, nI_ltI, nI_leI, nI_eq, Option.bind_some, if_true, if_false, not_false_eq_true, not_true_eq_false, ra_ltT, ra_ltF, ra_leT, ra_leF, ra_eqT, ra_eqF, or_false, false_or, or_true, true_or, and_true, true_and, and_false, false_and, hG]
  | succ d ih =>
    intro i m hi hp hm
    obtain ⟨m, rfl⟩ : ∃ q, m = q + 1 := ⟨m - 1, by omega⟩
    have v1 := hρ i
    have v2 := hρ (i + 1)
    have l0 : ra_lim i = 7 := if_pos hp
    have l1 : ra_lim (i + 1) = 2 := if_neg (by omega)
    rw [f_X2_numbersTellTries_L13]
    simp (disch := omega) only [↓reduceIte, ra_lit, ra_nf_ap, ra_st_lo, nI_add, nI_clamp, nI_ltI, nI_leI, nI_eq, Option.bind_some, if_true, if_false, not_false_eq_true, not_true_eq_false, ra_ltT, ra_ltF, ra_leT, ra_leF, ra_eqT, ra_eqF, or_false, false_or, or_true, true_or, and_true, true_and, and_false, false_and, hG, ra_at, rc_isTry]
    by_cases c : ρ i < 7
    · simp (disch := omega) only [↓reduceIte, ra_lit, ra_nf_ap, ra_st_lo, nI_add, nI_clamp, nI_ltI, nI_leI, nI_eq, Option.bind_some, if_true, if_false, not_false_eq_true, not_true_eq_false, ra_ltT, ra_ltF, ra_leT, ra_leF, ra_eqT, ra_eqF, or_false, false_or, or_true, true_or, and_true, true_and, and_false, false_and, if_pos c]
      by_cases c1 : ρ (i + 1) ≤ 1
      · simp (disch := omega) only [↓reduceIte, ra_lit, ra_nf_ap, ra_st_lo, nI_add, nI_clamp, nI_ltI, nI_leI, nI_eq, Option.bind_some, if_true, if_false, not_false_eq_true, not_true_eq_false, ra_ltT, ra_ltF, ra_leT, ra_leF, ra_eqT, ra_eqF, or_false, false_or, or_true, true_or, and_true, true_and, and_false, false_and, if_pos c1]
        have e : (∀ q, q < R → i + 2 ≤ q → ρ q < ra_lim q) ↔ (∀ q, q < R → i ≤ q → ρ q < ra_lim q) := by
          constructor
          · intro z q a b
            by_cases e0 : q = i
            · subst e0; omega
            · by_cases e1 : q = i + 1
              · subst e1; omega
              · exact z q a (by omega)
          · intro z q a b
            exact z q a (by omega)
        have := ih (i + 2) m (by omega) (by omega) (by omega)
        rw [e] at this
        exact this
      · simp (disch := omega) only [↓reduceIte, ra_lit, ra_nf_ap, ra_st_lo, nI_add, nI_clamp, nI_ltI, nI_leI, nI_eq, Option.bind_some, if_true, if_false, not_false_eq_true, not_true_eq_false, ra_ltT, ra_ltF, ra_leT, ra_leF, ra_eqT, ra_eqF, or_false, false_or, or_true, true_or, and_true, true_and, and_false, false_and, if_neg c1]
        right
        exact fun z => c1 (by have := z (i + 1) (by omega) (by omega); omega)
    · simp (disch := omega) only [↓reduceIte, ra_lit, ra_nf_ap, ra_st_lo, nI_add, nI_clamp, nI_ltI, nI_leI, nI_eq, Option.bind_some, if_true, if_false, not_false_eq_true, not_true_eq_false, ra_ltT, ra_ltF, ra_leT, ra_leF, ra_eqT, ra_eqF, or_false, false_or, or_true, true_or, and_true, true_and, and_false, false_and, if_neg c]
      right
      exact fun z => c (by have := z i (by omega) (by omega); omega)
theorem rc_told (G ρ : Nat → Nat) {R : Nat} (hG : G 1 = R) (hR : R ≤ 12) (hρ : ∀ j, ρ j ≤ 9) :
    (ra_told ρ R ∧ f_X2_numbersTellTries (ra_nf G) (ra_nf ρ) = some (nI 1)) ∨ (¬ ra_told ρ R ∧ f_X2_numbersTellTries (ra_nf G) (ra_nf ρ) = some (nI 0)) := by
  have hrem : rf_rem (ra_nf G 1) 2 = nI (R % 2) := by
    rw [ra_nf_ap, hG]
    exact pk_rem (d := 2) (by omega) (by decide) (by decide)
  unfold f_X2_numbersTellTries
  rw [hrem, Option.bind_some]
  by_cases c : R % 2 = 0
  · rw [c, if_pos (show nI 0 = 0 from rfl)]
    rcases rc_toL G ρ hG hR hρ (R / 2) 0 rf_fu (by omega) rfl (by unfold rf_fu; omega) with ⟨h1, h2⟩ | ⟨h1, h2⟩
    · left
      have h2 : f_X2_numbersTellTries_L13 (ra_nf G) (ra_nf ρ) rf_fu 0 = _ := h2
      rw [h2]
      exact ⟨⟨c, fun q hq => h1 q hq (Nat.zero_le _)⟩, rfl⟩
    · right
      have h2 : f_X2_numbersTellTries_L13 (ra_nf G) (ra_nf ρ) rf_fu 0 = _ := h2
      rw [h2]
      exact ⟨fun z => h1 (fun q hq _ => z.2 q hq), rfl⟩
  · right
    rw [show R % 2 = 1 by omega, if_neg (show ¬ nI 1 = 0 by decide)]
    exact ⟨fun z => c z.1, rfl⟩
/-- a part of that thickness in front: would it go over -/
abbrev ra_ot (γ κ : Nat → Nat) (k t : Nat) : Prop := ra_tk (κ (γ 3)) t (γ 4) (ra_cd k (γ 5)) (γ 7) ≤ γ 1 + ra_al k (γ 2)
theorem ra_tk_mono {k a b sw co he : Nat} (h : a ≤ b) : ra_tk k a sw co he ≤ ra_tk k b sw co he := by
  unfold ra_tk
  repeat' split
  all_goals omega
theorem ra_ot_mono {γ κ : Nat → Nat} {k a b : Nat} (h : a ≤ b) (hb : ra_ot γ κ k b) : ra_ot γ κ k a := Nat.le_trans (ra_tk_mono h) hb
theorem ra_te_s (t : Nat) : ra_te (t + 1) = nI t := by
  unfold ra_te
  rw [pk_sub (by omega)]
  rfl
theorem ra_te_p (t : Nat) : nI t + (-1) = ra_te t := by
  unfold ra_te
  rw [Int32.sub_eq_add_neg]
  rfl
theorem rc_edL {γ κ τ : Nat → Nat} {k : Nat} (hk : k < 7) (h : ra_ok γ κ τ) (ho : γ 3 < γ 0) : ∀ (n m x0 : Nat), n < m → n ≤ 241 → x0 ≤ 240 →
    ∃ x, x ≤ 240 ∧ ((∃ e, e < n ∧ ra_ot γ κ k e ∧ (∀ t, e < t → t < n → ¬ ra_ot γ κ k t) ∧ f_X0_thickestThatGoes_L4 (ra_nf γ) (ra_nf κ) (nI k) m (ra_te n) (ra_nf (ra_un τ (γ 3) x0)) = some (Sum.inl (nI e, ra_nf (ra_un τ (γ 3) x)))) ∨
      ((∀ t, t < n → ¬ ra_ot γ κ k t) ∧ ∃ y, f_X0_thickestThatGoes_L4 (ra_nf γ) (ra_nf κ) (nI k) m (ra_te n) (ra_nf (ra_un τ (γ 3) x0)) = some (Sum.inr (y, ra_nf (ra_un τ (γ 3) x))))) := by
  intro n
  induction n with
  | zero =>
    intro m x0 hm _ hx0
    obtain ⟨m, rfl⟩ : ∃ q, m = q + 1 := ⟨m - 1, by omega⟩
    refine ⟨x0, hx0, Or.inr ⟨fun t ht => absurd ht (Nat.not_lt_zero _), ra_te 0, ?_⟩⟩
    rw [f_X0_thickestThatGoes_L4, if_pos (by decide)]
  | succ n ih =>
    intro m x0 hm hn hx0
    obtain ⟨m, rfl⟩ : ∃ q, m = q + 1 := ⟨m - 1, by omega⟩
    obtain ⟨h0, h1, h2, h3, h4, h5, h6, h7, h8, h9, h10, h11⟩ := id h
    have hok : ra_ok γ κ (ra_un τ (γ 3) n) := ⟨h0, h1, h2, h3, h4, h5, h6, h7, h8, h9, h10, fun j => by
      unfold ra_un
      split
      · omega
      · exact h11 j⟩
    have hov : ra_ov γ κ (ra_un τ (γ 3) n) k ↔ ra_ot γ κ k n := by
      unfold ra_ov ra_ot
      rw [ra_us]
    have e1 : f_X2_put 6 (ra_nf (ra_un τ (γ 3) x0)) (ra_nf γ 3) (nI n) = some (ra_nf (ra_un τ (γ 3) n)) := by
      rw [ra_nf_ap, ra_put _ _ (by omega) (by decide), ra_upd, ra_unun]
    have e2 := rc_over hok (k := k) (by omega)
    rw [f_X0_thickestThatGoes_L4, ra_te_s, if_neg (nI_pos (by omega)), e1, Option.bind_some, e2, Option.bind_some]
    by_cases c : ra_ot γ κ k n
    · rw [if_pos (show γ 3 < γ 0 ∧ ra_ov γ κ (ra_un τ (γ 3) n) k from ⟨ho, hov.mpr c⟩), if_neg (show ¬ nI 1 = 0 by decide)]
      exact ⟨n, by omega, Or.inl ⟨n, by omega, c, fun t a b => by omega, rfl⟩⟩
    · rw [if_neg (show ¬ (γ 3 < γ 0 ∧ ra_ov γ κ (ra_un τ (γ 3) n) k) from fun z => c (hov.mp z.2)), if_pos (show nI 0 = 0 from rfl), Option.bind_some, ra_te_p]
      obtain ⟨x, hx, hz⟩ := ih m n (by omega) (by omega) (by omega)
      refine ⟨x, hx, ?_⟩
      rcases hz with ⟨e, z1, z2, z3, z4⟩ | ⟨z1, y, z2⟩
      · exact Or.inl ⟨e, by omega, z2, fun t a b => by
          by_cases et : t = n
          · subst et; exact c
          · exact z3 t a (by omega), z4⟩
      · exact Or.inr ⟨fun t a => by
          by_cases et : t = n
          · subst et; exact c
          · exact z1 t (by omega), y, z2⟩
theorem rc_edge {γ κ τ : Nat → Nat} {k x0 : Nat} (hk : k < 7) (h : ra_ok γ κ τ) (ho : γ 3 < γ 0) (hx0 : x0 ≤ 240) :
    ∃ e x, e ≤ 241 ∧ x ≤ 240 ∧ f_X0_thickestThatGoes (ra_nf γ) (ra_nf κ) (ra_nf (ra_un τ (γ 3) x0)) (nI k) = some (ra_te e, ra_nf (ra_un τ (γ 3) x)) ∧ ∀ t, t ≤ 240 → (ra_ot γ κ k t ↔ t < e) := by
  obtain ⟨x, hx, hz⟩ := rc_edL hk h ho 241 rf_fu x0 (by unfold rf_fu; omega) (Nat.le_refl _) hx0
  unfold f_X0_thickestThatGoes
  rcases hz with ⟨e, z1, z2, z3, z4⟩ | ⟨z1, y, z2⟩
  · have z4 : f_X0_thickestThatGoes_L4 (ra_nf γ) (ra_nf κ) (nI k) rf_fu 240 (ra_nf (ra_un τ (γ 3) x0)) = _ := z4
    refine ⟨e + 1, x, by omega, hx, ?_, fun t ht => ?_⟩
    · rw [z4, ra_te_s]
      rfl
    · constructor
      · intro a
        by_cases b : t < e + 1
        · exact b
        · exact absurd a (z3 t (by omega) (by omega))
      · intro a
        exact ra_ot_mono (by omega) z2
  · have z2 : f_X0_thickestThatGoes_L4 (ra_nf γ) (ra_nf κ) (nI k) rf_fu 240 (ra_nf (ra_un τ (γ 3) x0)) = _ := z2
    refine ⟨0, x, by omega, hx, ?_, fun t ht => ?_⟩
    · rw [z2]
      rfl
    · exact ⟨fun a => absurd a (z1 t (by omega)), fun a => absurd a (Nat.not_lt_zero _)⟩
def ra_so (κ ρ : Nat → Nat) (t : Nat) : Nat → Nat → (Nat → Nat) → Prop
  | 0, _, _ => True
  | d + 1, i, γ => (ra_ot γ κ (ρ i) t ↔ ρ (i + 1) = 1) ∧ ra_so κ ρ t d (i + 2) (ra_wear γ (ρ i))
theorem ra_te_min {a b : Nat} (ha : a < 2 ^ 29) (hb : b < 2 ^ 29) : rf_min (ra_te a) (ra_te b) = ra_te (min a b) := by
  unfold rf_min
  apply Int32.toInt_inj.mp
  rw [ra_te_toInt (by omega)]
  by_cases c : ra_te b < ra_te a
  · rw [if_pos c, ra_te_toInt (by omega)]
    have c := Int32.lt_iff_toInt_lt.mp c
    rw [ra_te_toInt (by omega), ra_te_toInt (by omega)] at c
    omega
  · rw [if_neg c, ra_te_toInt (by omega)]
    have c : ¬ (ra_te b).toInt < (ra_te a).toInt := fun z => c (Int32.lt_iff_toInt_lt.mpr z)
    rw [ra_te_toInt (by omega), ra_te_toInt (by omega)] at c
    omega
theorem ra_te_1 (m : Nat) : ra_te m + 1 = nI m := by
  unfold ra_te
  show nI m - 1 + 1 = nI m
  rw [Int32.sub_add_cancel]
theorem rc_feL {κ τ : Nat → Nat} (G ρ : Nat → Nat) (n1 n2 n3 rc : Nat → Int32) (p1 : Int32) {R : Nat} (hG : G 1 = R) (hR : R ≤ 12) (hρ : ∀ j, ρ j ≤ 9) (hto : ∀ q, q < R → ρ q < ra_lim q) : ∀ (d i m lo hi x0 : Nat) (γ : Nat → Nat), i + 2 * d = R → i % 2 = 0 → d < m → ra_ok γ κ τ → γ 3 < γ 0 → x0 ≤ 240 → lo ≤ 241 → hi ≤ 241 →
    ∃ lo' hi' y g x, lo' ≤ 241 ∧ hi' ≤ 241 ∧ f_X2_feel_L58 (ra_nf G) n1 n2 n3 (ra_nf ρ) p1 (ra_nf κ) rc m (nI lo) (ra_te hi) (nI i) (ra_nf γ) (ra_nf (ra_un τ (γ 3) x0)) = some (nI lo', ra_te hi', y, g, x) ∧ ∀ t, t ≤ 240 → ((lo' ≤ t ∧ t < hi') ↔ ((lo ≤ t ∧ t < hi) ∧ ra_so κ ρ t d i γ)) := by
  intro d
  induction d with
  | zero =>
    intro i m lo hi x0 γ he hp hm h ho hx hlo hhi
    obtain ⟨m, rfl⟩ : ∃ q, m = q + 1 := ⟨m - 1, by omega⟩
    obtain rfl : i = R := by omega
    refine ⟨lo, hi, nI i, ra_nf γ, ra_nf (ra_un τ (γ 3) x0), hlo, hhi, ?_, fun t _ => ⟨fun z => ⟨z, trivial⟩, fun z => z.1⟩⟩
    rw [f_X2_feel_L58]
    simp (disch := omega) only [↓reduceIte, ra_lit, ra_nf_ap, ra_st_lo, nI_add, nI_clamp, nI_ltI, nI_leI, nI_eq, Option.bind_some, if_true, if_false, not_false_eq_true, not_true_eq_false, ra_ltT, ra_ltF, ra_leT, ra_leF, ra_eqT, ra_eqF, or_false, false_or, or_true, true_or, and_true, true_and, and_false, false_and, hG]
  | succ d ih =>
    intro i m lo hi x0 γ he hp hm h ho hx hlo hhi
    obtain ⟨m, rfl⟩ : ∃ q, m = q + 1 := ⟨m - 1, by omega⟩
    obtain ⟨h0, h1, h2, h3, h4, h5, h6, h7, h8, h9, h10, h11⟩ := id h
    have v1 : ρ i < 7 := by
      have := hto i (by omega)
      unfold ra_lim at this
      rw [if_pos hp] at this
      exact this
    have v2 : ρ (i + 1) < 2 := by
      have := hto (i + 1) (by omega)
      unfold ra_lim at this
      rw [if_neg (by omega)] at this
      exact this
    obtain ⟨e, x, he1, hx1, e1, e2⟩ := rc_edge (x0 := x0) v1 h ho hx
    rw [f_X2_feel_L58]
    simp (disch := omega) only [↓reduceIte, ra_lit, ra_nf_ap, ra_st_lo, nI_add, nI_clamp, nI_ltI, nI_leI, nI_eq, Option.bind_some, if_true, if_false, not_false_eq_true, not_true_eq_false, ra_ltT, ra_ltF, ra_leT, ra_leF, ra_eqT, ra_eqF, or_false, false_or, or_true, true_or, and_true, true_and, and_false, false_and, hG, ra_at, e1, rc_strain]
    by_cases c : ρ (i + 1) = 1
    · simp (disch := omega) only [↓reduceIte, ra_lit, ra_nf_ap, ra_st_lo, nI_add, nI_clamp, nI_ltI, nI_leI, nI_eq, Option.bind_some, if_true, if_false, not_false_eq_true, not_true_eq_false, ra_ltT, ra_ltF, ra_leT, ra_leF, ra_eqT, ra_eqF, or_false, false_or, or_true, true_or, and_true, true_and, and_false, false_and, if_pos c, ra_te_min]
      obtain ⟨lo', hi', y, g, x', b1, b2, b3, b4⟩ := ih (i + 2) m lo (min hi e) x (ra_wear γ (ρ i)) (by omega) (by omega) (by omega) (ra_wear_ok h) ho hx1 hlo (by omega)
      refine ⟨lo', hi', y, g, x', b1, b2, b3, fun t ht => ?_⟩
      rw [b4 t ht]
      have e2 := e2 t ht
      constructor
      · intro z
        exact ⟨⟨z.1.1, by omega⟩, ⟨⟨fun _ => c, fun _ => e2.mpr (by omega)⟩, z.2⟩⟩
      · intro z
        have := e2.mp (z.2.1.mpr c)
        exact ⟨⟨z.1.1, by omega⟩, z.2.2⟩
    · simp (disch := omega) only [↓reduceIte, ra_lit, ra_nf_ap, ra_st_lo, nI_add, nI_clamp, nI_ltI, nI_leI, nI_eq, Option.bind_some, if_true, if_false, not_false_eq_true, not_true_eq_false, ra_ltT, ra_ltF, ra_leT, ra_leF, ra_eqT, ra_eqF, or_false, false_or, or_true, true_or, and_true, true_and, and_false, false_and, if_neg c, ra_te_1, ra_mxn]
      have e3 : ra_te e + nI 1 = nI e := ra_te_1 e
      rw [e3, ra_mxn (by omega) (by omega)]
      obtain ⟨lo', hi', y, g, x', b1, b2, b3, b4⟩ := ih (i + 2) m (max lo e) hi x (ra_wear γ (ρ i)) (by omega) (by omega) (by omega) (ra_wear_ok h) ho hx1 (by omega) hhi
      refine ⟨lo', hi', y, g, x', b1, b2, b3, fun t ht => ?_⟩
      rw [b4 t ht]
      have e2 := e2 t ht
      constructor
      · intro z
        exact ⟨⟨by omega, z.1.2⟩, ⟨⟨fun a => absurd (e2.mp a) (by omega), fun a => absurd a c⟩, z.2⟩⟩
      · intro z
        have : ¬ t < e := fun a => c (z.2.1.mp (e2.mpr a))
        exact ⟨⟨by omega, z.1.2⟩, z.2.2⟩
theorem rr_soL {γ0 κ τ : Nat → Nat} (M ρ : Nat → Nat) {R : Nat} (hM : M 2 = R) (hR : R ≤ 12) (hρ : ∀ j, ρ j ≤ 9) (hto : ∀ q, q < R → ρ q < ra_lim q) (h : ra_ok γ0 κ τ) (ho : γ0 3 < γ0 0) {t : Nat} (ht : t ≤ 240) : ∀ (d i m : Nat) (γ : Nat → Nat), i + 2 * d = R → i % 2 = 0 → d < m → γ 4 ≤ 30 → γ 5 ≤ 20 → γ 1 = γ0 1 → γ 2 = γ0 2 → γ 3 = γ0 3 → γ 7 = γ0 7 →
    ((ra_so κ ρ t d i γ ∧ ∃ y, f_X3_isSo_L17 (ra_nf M) (ra_st γ0 κ τ) (ra_nf ρ) (nI t) m (nI (γ 4)) (nI (γ 5)) (nI i) = some (Sum.inr y)) ∨ (¬ ra_so κ ρ t d i γ ∧ f_X3_isSo_L17 (ra_nf M) (ra_st γ0 κ τ) (ra_nf ρ) (nI t) m (nI (γ 4)) (nI (γ 5)) (nI i) = some (Sum.inl (nI 0)))) := by
  obtain ⟨h0, h1, h2, h3, h4, h5, h6, h7, h8, h9, h10, h11⟩ := id h
  intro d
  induction d with
  | zero =>
    intro i m γ hi hp hm g4 g5 g1 g2 g3 g7
    obtain ⟨m, rfl⟩ : ∃ q, m = q + 1 := ⟨m - 1, by omega⟩
    obtain rfl : i = R := by omega
    left
    refine ⟨trivial, (nI (γ 4), nI (γ 5), nI i), ?_⟩
    rw [f_X3_isSo_L17]
    simp (disch := omega) only [↓reduceIte, ra_lit, ra_nf_ap, ra_st_lo, nI_add, nI_clamp, nI_ltI, nI_leI, nI_eq, Option.bind_some, if_true, if_false, not_false_eq_true, not_true_eq_false, ra_ltT, ra_ltF, ra_leT, ra_leF, ra_eqT, ra_eqF, or_false, false_or, or_true, true_or, and_true, true_and, and_false, false_and, hM]
  | succ d ih =>
    intro i m γ hi hp hm g4 g5 g1 g2 g3 g7
    obtain ⟨m, rfl⟩ : ∃ q, m = q + 1 := ⟨m - 1, by omega⟩
    have v1 : ρ i < 7 := by
      have := hto i (by omega)
      unfold ra_lim at this
      rw [if_pos hp] at this
      exact this
    have v2 : ρ (i + 1) < 2 := by
      have := hto (i + 1) (by omega)
      unfold ra_lim at this
      rw [if_neg (by omega)] at this
      exact this
    have hk3 := h10 (γ0 3)
    have hal : f_X3_allows (ra_nf M) (ra_st γ0 κ τ) (nI (ρ i)) = some (nI (ra_al (ρ i) (γ0 2))) := ra_alR (ra_nf M) (ra_jn γ0 κ τ) (by omega) h5
    have hall := ra_al_le (ρ i) (γ0 2)
    have hcd := ra_cd_le (k := ρ i) g5
    have hsw := ra_sw_le (ρ i)
    have htk := ra_tk_le (k := κ (γ0 3)) (th := t) (sw := γ 4) (co := ra_cd (ρ i) (γ 5)) (he := γ0 7) (by omega) (by omega) (by omega)
    have ih := ih (i + 2) m (ra_wear γ (ρ i)) (by omega) (by omega) (by omega) (Nat.min_le_left _ _) hcd.1 g1 g2 g3 g7
    have hot : ra_ot γ κ (ρ i) t ↔ ¬ (γ0 1 + ra_al (ρ i) (γ0 2) < ra_tk (κ (γ0 3)) t (γ 4) (ra_cd (ρ i) (γ 5)) (γ0 7)) := by
      unfold ra_ot
      rw [g1, g2, g3, g7]
      omega
    have ih' : ((ra_so κ ρ t d (i + 2) (ra_wear γ (ρ i)) ∧ ∃ y, f_X3_isSo_L17 (ra_nf M) (ra_st γ0 κ τ) (ra_nf ρ) (nI t) m (nI (min 30 (γ 4 + ra_sw (ρ i)))) (nI (ra_cd (ρ i) (γ 5))) (nI (i + 2)) = some (Sum.inr y)) ∨ (¬ ra_so κ ρ t d (i + 2) (ra_wear γ (ρ i)) ∧ f_X3_isSo_L17 (ra_nf M) (ra_st γ0 κ τ) (ra_nf ρ) (nI t) m (nI (min 30 (γ 4 + ra_sw (ρ i)))) (nI (ra_cd (ρ i) (γ 5))) (nI (i + 2)) = some (Sum.inl (nI 0)))) := ih
    rw [f_X3_isSo_L17]
    simp (disch := omega) only [↓reduceIte, ra_lit, ra_nf_ap, ra_st_lo, nI_add, nI_clamp, nI_ltI, nI_leI, nI_eq, Option.bind_some, if_true, if_false, not_false_eq_true, not_true_eq_false, ra_ltT, ra_ltF, ra_leT, ra_leF, ra_eqT, ra_eqF, or_false, false_or, or_true, true_or, and_true, true_and, and_false, false_and, hM, ra_cdR, ra_st_k, ra_tkR, hal, ra_swR, ra_least, ra_mnn]
    show ((((ra_ot γ κ (ρ i) t ↔ ρ (i + 1) = 1) ∧ ra_so κ ρ t d (i + 2) (ra_wear γ (ρ i))) ∧ _) ∨ (¬ ((ra_ot γ κ (ρ i) t ↔ ρ (i + 1) = 1) ∧ ra_so κ ρ t d (i + 2) (ra_wear γ (ρ i))) ∧ _))
    rw [hot]
    by_cases c : γ0 1 + ra_al (ρ i) (γ0 2) < ra_tk (κ (γ0 3)) t (γ 4) (ra_cd (ρ i) (γ 5)) (γ0 7)
    · simp only [if_pos c]
      by_cases c1 : ρ (i + 1) = 1
      · simp only [if_pos c1]
        right
        exact ⟨fun z => (z.1.mpr c1) c, trivial⟩
      · simp only [if_neg c1]
        rcases ih' with ⟨a, y, b⟩ | ⟨a, b⟩
        · exact Or.inl ⟨⟨⟨fun z => absurd c z, fun z => absurd z c1⟩, a⟩, y, b⟩
        · exact Or.inr ⟨fun z => a z.2, b⟩
    · simp only [if_neg c]
      by_cases c1 : ρ (i + 1) = 1
      · simp only [if_pos c1]
        rcases ih' with ⟨a, y, b⟩ | ⟨a, b⟩
        · exact Or.inl ⟨⟨⟨fun _ => c1, fun _ => c⟩, a⟩, y, b⟩
        · exact Or.inr ⟨fun z => a z.2, b⟩
      · simp only [if_neg c1]
        right
        exact ⟨fun z => c1 (z.1.mp c), trivial⟩
theorem rr_isSo {γ κ τ : Nat → Nat} (M ρ : Nat → Nat) {R : Nat} (hM : M 2 = R) (hR : R ≤ 12) (hρ : ∀ j, ρ j ≤ 9) (hto : ra_told ρ R) (h : ra_ok γ κ τ) (ho : γ 3 < γ 0) {t : Nat} (ht : t ≤ 240) :
    (ra_so κ ρ t (R / 2) 0 γ ∧ f_X3_isSo (ra_nf M) (ra_st γ κ τ) (ra_nf ρ) (nI t) = some (nI 1)) ∨ (¬ ra_so κ ρ t (R / 2) 0 γ ∧ f_X3_isSo (ra_nf M) (ra_st γ κ τ) (ra_nf ρ) (nI t) = some (nI 0)) := by
  obtain ⟨h0, h1, h2, h3, h4, h5, h6, h7, h8, h9, h10, h11⟩ := id h
  have hpar := hto.1
  unfold f_X3_isSo
  rw [ra_st_lo _ _ _ (by decide), ra_st_lo _ _ _ (by decide), Option.bind_some, Option.bind_some]
  rcases rr_soL M ρ hM hR hρ hto.2 h ho ht (R / 2) 0 rf_fu γ (by omega) rfl (by unfold rf_fu; omega) h6 h7 rfl rfl rfl rfl with ⟨a, y, b⟩ | ⟨a, b⟩
  · have b : f_X3_isSo_L17 (ra_nf M) (ra_st γ κ τ) (ra_nf ρ) (nI t) rf_fu (nI (γ 4)) (nI (γ 5)) 0 = _ := b
    rw [b]
    exact Or.inl ⟨a, rfl⟩
  · have b : f_X3_isSo_L17 (ra_nf M) (ra_st γ κ τ) (ra_nf ρ) (nI t) rf_fu (nI (γ 4)) (nI (γ 5)) 0 = _ := b
    rw [b]
    exact Or.inr ⟨a, rfl⟩
def ra_F (lo hi t : Nat) : Int32 := if lo < min t hi then nI (min t hi - 1) else -nI 9
theorem rr_fe1 {γ κ τ : Nat → Nat} (M ρ : Nat → Nat) (rr : Nat → Int32) {R lo hi : Nat} (hM : M 2 = R) (hR : R ≤ 12) (hρ : ∀ j, ρ j ≤ 9) (hto : ra_told ρ R) (h : ra_ok γ κ τ) (ho : γ 3 < γ 0) (hhi : hi ≤ 241) (hs : ∀ t, t ≤ 240 → ((lo ≤ t ∧ t < hi) ↔ ra_so κ ρ t (R / 2) 0 γ)) : ∀ (d t m : Nat), t + d = 241 → d < m →
    ∃ y, f_X3_feel_L42 (ra_nf M) (ra_st γ κ τ) (ra_nf ρ) (nI 1) rr m (ra_F lo hi t) (nI t) = some (ra_F lo hi 241, y) := by
  intro d
  induction d with
  | zero =>
    intro t m ht hm
    obtain ⟨m, rfl⟩ : ∃ q, m = q + 1 := ⟨m - 1, by omega⟩
    obtain rfl : t = 241 := by omega
    exact ⟨nI 241, by rw [f_X3_feel_L42, if_pos (by decide)]⟩
  | succ d ih =>
    intro t m ht hm
    obtain ⟨m, rfl⟩ : ∃ q, m = q + 1 := ⟨m - 1, by omega⟩
    have ih := ih (t + 1) m (by omega) (by omega)
    have c240 : ¬ (240 : Int32) < nI t := nI_nlt (a := 240) (by omega) (by decide)
    have hst := hs t (by omega)
    rw [f_X3_feel_L42, if_neg c240, if_pos (show nI 1 = 1 from rfl)]
    rcases rr_isSo M ρ hM hR hρ hto h ho (t := t) (by omega) with ⟨a, b⟩ | ⟨a, b⟩
    · rw [b, Option.bind_some, if_neg (show ¬ nI 1 = 0 by decide), Option.bind_some, nI_1]
      have := hst.mpr a
      have e : ra_F lo hi (t + 1) = nI t := by
        unfold ra_F
        rw [if_pos (by omega), show min (t + 1) hi - 1 = t by omega]
      rw [e] at ih
      exact ih
    · rw [b, Option.bind_some, if_pos (show nI 0 = 0 from rfl), Option.bind_some, nI_1]
      have : ¬ (lo ≤ t ∧ t < hi) := fun z => a (hst.mp z)
      have e : ra_F lo hi (t + 1) = ra_F lo hi t := by
        unfold ra_F
        by_cases c : hi ≤ t
        · rw [show min (t + 1) hi = min t hi by omega]
        · rw [if_neg (by omega), if_neg (by omega)]
      rw [e] at ih
      exact ih
theorem rr_fe0 {γ κ τ : Nat → Nat} (M ρ : Nat → Nat) (rr : Nat → Int32) {R lo hi : Nat} (hM : M 2 = R) (hR : R ≤ 12) (hρ : ∀ j, ρ j ≤ 9) (hto : ra_told ρ R) (h : ra_ok γ κ τ) (ho : γ 3 < γ 0) (hhi : hi ≤ 241) (hs : ∀ t, t ≤ 240 → ((lo ≤ t ∧ t < hi) ↔ ra_so κ ρ t (R / 2) 0 γ)) : ∀ (d t m : Nat), t + d = 241 → d + 1 < m → (t ≤ lo ∨ hi ≤ lo) →
    ∃ y, f_X3_feel_L42 (ra_nf M) (ra_st γ κ τ) (ra_nf ρ) (nI 0) rr m (-nI 9) (nI t) = some (if lo < hi then nI lo else -nI 9, y) := by
  intro d
  induction d with
  | zero =>
    intro t m ht hm hl
    obtain ⟨m, rfl⟩ : ∃ q, m = q + 1 := ⟨m - 1, by omega⟩
    obtain rfl : t = 241 := by omega
    refine ⟨nI 241, ?_⟩
    rw [f_X3_feel_L42, if_pos (by decide), if_neg (by omega)]
  | succ d ih =>
    intro t m ht hm hl
    obtain ⟨m, rfl⟩ : ∃ q, m = q + 1 := ⟨m - 1, by omega⟩
    have c240 : ¬ (240 : Int32) < nI t := nI_nlt (a := 240) (by omega) (by decide)
    have hst := hs t (by omega)
    rw [f_X3_feel_L42, if_neg c240, if_neg (show ¬ nI 0 = 1 by decide), if_neg (show ¬ (0 : Int32) ≤ -nI 9 by decide)]
    rcases rr_isSo M ρ hM hR hρ hto h ho (t := t) (by omega) with ⟨a, b⟩ | ⟨a, b⟩
    · rw [b, Option.bind_some, if_neg (show ¬ nI 1 = 0 by decide), Option.bind_some, nI_1]
      have h5 := hst.mpr a
      obtain ⟨m, rfl⟩ : ∃ q, m = q + 1 := ⟨m - 1, by omega⟩
      have e : t = lo := by omega
      rw [f_X3_feel_L42, if_pos (show lo < hi by omega), ← e]
      by_cases c : (240 : Int32) < nI (t + 1)
      · rw [if_pos c]
        exact ⟨_, rfl⟩
      · rw [if_neg c, if_neg (show ¬ nI 0 = 1 by decide), if_pos (nI_pos' (by omega))]
        exact ⟨_, rfl⟩
    · rw [b, Option.bind_some, if_pos (show nI 0 = 0 from rfl), Option.bind_some, nI_1]
      have : ¬ (lo ≤ t ∧ t < hi) := fun z => a (hst.mp z)
      exact ih (t + 1) m (by omega) (by omega) (by omega)
theorem tm_feel {γ κ τ : Nat → Nat} (G M ρ φ : Nat → Nat) (ta tb tc : Nat → Int32) {R : Nat} (hG : G 1 = R) (hM : M 2 = R) (hR : R ≤ 12) (hρ : ∀ j, ρ j ≤ 9) (h : ra_ok γ κ τ) (p : Int32) :
    ∃ r a b c φ', f_X2_feel (ra_nf G) (ra_nf γ) (ra_nf κ) (ra_nf τ) ta tb tc (ra_nf ρ) (ra_nf φ) p = some (r, a, b, c, ra_nf φ') ∧ f_X3_feel (ra_nf M) (ra_st γ κ τ) (ra_nf ρ) (ra_nf φ) p = some (r, ra_nf φ') := by
  obtain ⟨h0, h1, h2, h3, h4, h5, h6, h7, h8, h9, h10, h11⟩ := id h
  unfold f_X2_feel f_X3_feel
  rcases ra_either p with ⟨hp, e1, e2⟩ | ⟨e1, e2⟩
  · rw [e1, e2, rc_isOff γ (by omega) (by omega), rr_isOff M γ κ τ (by omega) (by omega)]
    by_cases ho : γ 3 < γ 0
    · rcases rc_told G ρ hG hR hρ with ⟨ht, e3⟩ | ⟨ht, e3⟩
      · rcases rr_areTold M ρ hM hR hρ with ⟨ht', e4⟩ | ⟨ht', e4⟩
        · rw [e3, e4]
          have et : ra_nf τ = ra_nf (ra_un τ (γ 3) (τ (γ 3))) := by
            congr 1
            funext j
            unfold ra_un
            split
            · rename_i e
              rw [e]
            · rfl
          obtain ⟨lo, hi, y, g, x, b1, b2, b3, b4⟩ := rc_feL G ρ (ra_nf γ) (ra_nf κ) (ra_nf τ) (ra_nf φ) p hG hR hρ ht.2 (R / 2) 0 rf_fu 0 241 (τ (γ 3)) γ (by have := ht.1; omega) rfl (by unfold rf_fu; omega) h ho (h11 _) (by omega) (by omega)
          rw [← et] at b3
          have b3 : f_X2_feel_L58 (ra_nf G) (ra_nf γ) (ra_nf κ) (ra_nf τ) (ra_nf ρ) p (ra_nf κ) (ra_nf φ) rf_fu (nI 0) (nI 240) (nI 0) (ra_nf γ) (ra_nf τ) = some (nI lo, ra_te hi, y, g, x) := b3
          have hs : ∀ t, t ≤ 240 → ((lo ≤ t ∧ t < hi) ↔ ra_so κ ρ t (R / 2) 0 γ) := fun t ht => by
            rw [b4 t ht]
            exact ⟨fun z => z.2, fun z => ⟨⟨Nat.zero_le _, by omega⟩, z⟩⟩
          simp (disch := omega) only [↓reduceIte, ra_lit, ra_nf_ap, ra_st_lo, nI_add, nI_clamp, nI_ltI, nI_leI, nI_eq, Option.bind_some, if_true, if_false, not_false_eq_true, not_true_eq_false, ra_ltT, ra_ltF, ra_leT, ra_leF, ra_eqT, ra_eqF, or_false, false_or, or_true, true_or, and_true, true_and, and_false, false_and, rc_copy, if_pos ho, b3, ra_le_te]
          rcases hp with rfl | rfl
          · obtain ⟨y', e5⟩ := rr_fe0 M ρ (ra_nf φ) hM hR hρ ht h ho b2 hs 241 0 rf_fu rfl (by unfold rf_fu; omega) (Or.inl (Nat.zero_le _))
            rw [e5]
            by_cases c : lo < hi
            · rw [if_pos (show lo + 1 ≤ hi from c), if_pos c]
              exact ⟨_, _, _, _, _, rfl, rfl⟩
            · rw [if_neg (show ¬ lo + 1 ≤ hi from c), if_neg c]
              exact ⟨_, _, _, _, _, rfl, rfl⟩
          · obtain ⟨y', e5⟩ := rr_fe1 M ρ (ra_nf φ) hM hR hρ ht h ho b2 hs 241 0 rf_fu rfl (by unfold rf_fu; omega)
            have eF : ra_F lo hi 0 = -nI 9 := by
              unfold ra_F
              rw [if_neg (by omega)]
            rw [eF] at e5
            rw [e5]
            by_cases c : lo < hi
            · rw [if_pos (show lo + 1 ≤ hi from c)]
              have e6 : ra_F lo hi 241 = ra_te hi := by
                unfold ra_F
                rw [if_pos (by omega), show min 241 hi - 1 = hi - 1 by omega]
                obtain ⟨w, rfl⟩ : ∃ w, hi = w + 1 := ⟨hi - 1, by omega⟩
                rw [ra_te_s]
                rfl
              rw [e6]
              exact ⟨_, _, _, _, _, rfl, rfl⟩
            · rw [if_neg (show ¬ lo + 1 ≤ hi from c)]
              have e6 : ra_F lo hi 241 = -nI 9 := by
                unfold ra_F
                rw [if_neg (by omega)]
              rw [e6]
              exact ⟨_, _, _, _, _, rfl, rfl⟩
        · exact absurd ht ht'
      · rcases rr_areTold M ρ hM hR hρ with ⟨ht', e4⟩ | ⟨ht', e4⟩
        · exact absurd ht' ht
        · rw [e3, e4]
          refine ⟨-nI 3, ta, tb, tc, ra_rf φ 3, ?_, ?_⟩
          · simp (disch := omega) only [↓reduceIte, ra_lit, ra_nf_ap, ra_st_lo, nI_add, nI_clamp, nI_ltI, nI_leI, nI_eq, Option.bind_some, if_true, if_false, not_false_eq_true, not_true_eq_false, ra_ltT, ra_ltF, ra_leT, ra_leF, ra_eqT, ra_eqF, or_false, false_or, or_true, true_or, and_true, true_and, and_false, false_and, if_pos ho, rc_refuse]
          · simp (disch := omega) only [↓reduceIte, ra_lit, ra_nf_ap, ra_st_lo, nI_add, nI_clamp, nI_ltI, nI_leI, nI_eq, Option.bind_some, if_true, if_false, not_false_eq_true, not_true_eq_false, ra_ltT, ra_ltF, ra_leT, ra_leF, ra_eqT, ra_eqF, or_false, false_or, or_true, true_or, and_true, true_and, and_false, false_and, if_pos ho, rr_no]
    · refine ⟨-nI 3, ta, tb, tc, ra_rf φ 3, ?_, ?_⟩
      · simp (disch := omega) only [↓reduceIte, ra_lit, ra_nf_ap, ra_st_lo, nI_add, nI_clamp, nI_ltI, nI_leI, nI_eq, Option.bind_some, if_true, if_false, not_false_eq_true, not_true_eq_false, ra_ltT, ra_ltF, ra_leT, ra_leF, ra_eqT, ra_eqF, or_false, false_or, or_true, true_or, and_true, true_and, and_false, false_and, if_neg ho, rc_refuse]
      · simp (disch := omega) only [↓reduceIte, ra_lit, ra_nf_ap, ra_st_lo, nI_add, nI_clamp, nI_ltI, nI_leI, nI_eq, Option.bind_some, if_true, if_false, not_false_eq_true, not_true_eq_false, ra_ltT, ra_ltF, ra_leT, ra_leF, ra_eqT, ra_eqF, or_false, false_or, or_true, true_or, and_true, true_and, and_false, false_and, if_neg ho, rr_no]
  · rw [e1, e2]
    refine ⟨-nI 2, ta, tb, tc, ra_rf φ 2, ?_, ?_⟩
    · simp (disch := omega) only [↓reduceIte, ra_lit, ra_nf_ap, ra_st_lo, nI_add, nI_clamp, nI_ltI, nI_leI, nI_eq, Option.bind_some, if_true, if_false, not_false_eq_true, not_true_eq_false, ra_ltT, ra_ltF, ra_leT, ra_leF, ra_eqT, ra_eqF, or_false, false_or, or_true, true_or, and_true, true_and, and_false, false_and, rc_refuse]
    · simp (disch := omega) only [↓reduceIte, ra_lit, ra_nf_ap, ra_st_lo, nI_add, nI_clamp, nI_ltI, nI_leI, nI_eq, Option.bind_some, if_true, if_false, not_false_eq_true, not_true_eq_false, ra_ltT, ra_ltF, ra_leT, ra_leF, ra_eqT, ra_eqF, or_false, false_or, or_true, true_or, and_true, true_and, and_false, false_and, rr_no]
end RAFeel
