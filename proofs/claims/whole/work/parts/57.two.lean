/-! two sizes, what they are worth -/
section RATwo
theorem ra_nz3' {c : Nat} (h : c = 2 ∨ c = 3 ∨ c = 4 ∨ c = 6) : ¬ -nI c = 0 := by rcases h with rfl | rfl | rfl | rfl <;> decide
theorem ra_span (p0 p1 p2 p3 : Int32) :
    (∃ f t pa pb, f ≤ t ∧ t ≤ 12 ∧ pa ≤ 99 ∧ pb ≤ 99 ∧ p0 = nI f ∧ p1 = nI t ∧ p2 = nI pa ∧ p3 = nI pb ∧ f_X2_spanRange p0 p1 p2 p3 = some (nI 0) ∧ f_X3_wrongMonths p0 p1 p2 p3 = some (nI 0)) ∨
    (∃ c, (c = 4 ∨ c = 6) ∧ f_X2_spanRange p0 p1 p2 p3 = some (-nI c) ∧ f_X3_wrongMonths p0 p1 p2 p3 = some (-nI c)) := by
  unfold f_X2_spanRange f_X3_wrongMonths
  by_cases h0 : p0 < nI 0
  · right
    refine ⟨4, by omega, ?_, ?_⟩
    · simp (disch := omega) only [↓reduceIte, ra_lit, ra_nf_ap, ra_st_lo, nI_add, nI_clamp, nI_ltI, nI_leI, nI_eq, Option.bind_some, if_true, if_false, not_false_eq_true, not_true_eq_false, ra_ltT, ra_ltF, ra_leT, ra_leF, ra_eqT, ra_eqF, or_false, false_or, or_true, true_or, and_true, true_and, and_false, false_and, if_pos h0]
    · simp (disch := omega) only [↓reduceIte, ra_lit, ra_nf_ap, ra_st_lo, nI_add, nI_clamp, nI_ltI, nI_leI, nI_eq, Option.bind_some, if_true, if_false, not_false_eq_true, not_true_eq_false, ra_ltT, ra_ltF, ra_leT, ra_leF, ra_eqT, ra_eqF, or_false, false_or, or_true, true_or, and_true, true_and, and_false, false_and, if_pos h0]
  obtain ⟨f, hf, rfl⟩ := nI_of (x := p0) h0
  by_cases h1 : p1 < nI 0
  · right
    refine ⟨4, by omega, ?_, ?_⟩
    · simp (disch := omega) only [↓reduceIte, ra_lit, ra_nf_ap, ra_st_lo, nI_add, nI_clamp, nI_ltI, nI_leI, nI_eq, Option.bind_some, if_true, if_false, not_false_eq_true, not_true_eq_false, ra_ltT, ra_ltF, ra_leT, ra_leF, ra_eqT, ra_eqF, or_false, false_or, or_true, true_or, and_true, true_and, and_false, false_and, if_pos h1]
    · simp (disch := omega) only [↓reduceIte, ra_lit, ra_nf_ap, ra_st_lo, nI_add, nI_clamp, nI_ltI, nI_leI, nI_eq, Option.bind_some, if_true, if_false, not_false_eq_true, not_true_eq_false, ra_ltT, ra_ltF, ra_leT, ra_leF, ra_eqT, ra_eqF, or_false, false_or, or_true, true_or, and_true, true_and, and_false, false_and, if_pos h1]
  obtain ⟨t, ht, rfl⟩ := nI_of (x := p1) h1
  by_cases h2 : p2 < nI 0
  · right
    refine ⟨4, by omega, ?_, ?_⟩
    · simp (disch := omega) only [↓reduceIte, ra_lit, ra_nf_ap, ra_st_lo, nI_add, nI_clamp, nI_ltI, nI_leI, nI_eq, Option.bind_some, if_true, if_false, not_false_eq_true, not_true_eq_false, ra_ltT, ra_ltF, ra_leT, ra_leF, ra_eqT, ra_eqF, or_false, false_or, or_true, true_or, and_true, true_and, and_false, false_and, if_pos h2]
    · simp (disch := omega) only [↓reduceIte, ra_lit, ra_nf_ap, ra_st_lo, nI_add, nI_clamp, nI_ltI, nI_leI, nI_eq, Option.bind_some, if_true, if_false, not_false_eq_true, not_true_eq_false, ra_ltT, ra_ltF, ra_leT, ra_leF, ra_eqT, ra_eqF, or_false, false_or, or_true, true_or, and_true, true_and, and_false, false_and, if_pos h2]
  obtain ⟨pa, ha, rfl⟩ := nI_of (x := p2) h2
  by_cases h3 : p3 < nI 0
  · right
    refine ⟨4, by omega, ?_, ?_⟩
    · simp (disch := omega) only [↓reduceIte, ra_lit, ra_nf_ap, ra_st_lo, nI_add, nI_clamp, nI_ltI, nI_leI, nI_eq, Option.bind_some, if_true, if_false, not_false_eq_true, not_true_eq_false, ra_ltT, ra_ltF, ra_leT, ra_leF, ra_eqT, ra_eqF, or_false, false_or, or_true, true_or, and_true, true_and, and_false, false_and, ra_nLe h3]
    · simp (disch := omega) only [↓reduceIte, ra_lit, ra_nf_ap, ra_st_lo, nI_add, nI_clamp, nI_ltI, nI_leI, nI_eq, Option.bind_some, if_true, if_false, not_false_eq_true, not_true_eq_false, ra_ltT, ra_ltF, ra_leT, ra_leF, ra_eqT, ra_eqF, or_false, false_or, or_true, true_or, and_true, true_and, and_false, false_and, ra_nLe h3]
  obtain ⟨pb, hb, rfl⟩ := nI_of (x := p3) h3
  by_cases c1 : 12 < t
  · right
    refine ⟨6, by omega, ?_, ?_⟩
    · simp (disch := omega) only [↓reduceIte, ra_lit, ra_nf_ap, ra_st_lo, nI_add, nI_clamp, nI_ltI, nI_leI, nI_eq, Option.bind_some, if_true, if_false, not_false_eq_true, not_true_eq_false, ra_ltT, ra_ltF, ra_leT, ra_leF, ra_eqT, ra_eqF, or_false, false_or, or_true, true_or, and_true, true_and, and_false, false_and]
    · by_cases c0 : 12 < f
      · simp (disch := omega) only [↓reduceIte, ra_lit, ra_nf_ap, ra_st_lo, nI_add, nI_clamp, nI_ltI, nI_leI, nI_eq, Option.bind_some, if_true, if_false, not_false_eq_true, not_true_eq_false, ra_ltT, ra_ltF, ra_leT, ra_leF, ra_eqT, ra_eqF, or_false, false_or, or_true, true_or, and_true, true_and, and_false, false_and]
      · simp (disch := omega) only [↓reduceIte, ra_lit, ra_nf_ap, ra_st_lo, nI_add, nI_clamp, nI_ltI, nI_leI, nI_eq, Option.bind_some, if_true, if_false, not_false_eq_true, not_true_eq_false, ra_ltT, ra_ltF, ra_leT, ra_leF, ra_eqT, ra_eqF, or_false, false_or, or_true, true_or, and_true, true_and, and_false, false_and]
  by_cases c2 : t < f
  · right
    refine ⟨6, by omega, ?_, ?_⟩
    · simp (disch := omega) only [↓reduceIte, ra_lit, ra_nf_ap, ra_st_lo, nI_add, nI_clamp, nI_ltI, nI_leI, nI_eq, Option.bind_some, if_true, if_false, not_false_eq_true, not_true_eq_false, ra_ltT, ra_ltF, ra_leT, ra_leF, ra_eqT, ra_eqF, or_false, false_or, or_true, true_or, and_true, true_and, and_false, false_and]
    · by_cases c0 : 12 < f
      · simp (disch := omega) only [↓reduceIte, ra_lit, ra_nf_ap, ra_st_lo, nI_add, nI_clamp, nI_ltI, nI_leI, nI_eq, Option.bind_some, if_true, if_false, not_false_eq_true, not_true_eq_false, ra_ltT, ra_ltF, ra_leT, ra_leF, ra_eqT, ra_eqF, or_false, false_or, or_true, true_or, and_true, true_and, and_false, false_and]
      · simp (disch := omega) only [↓reduceIte, ra_lit, ra_nf_ap, ra_st_lo, nI_add, nI_clamp, nI_ltI, nI_leI, nI_eq, Option.bind_some, if_true, if_false, not_false_eq_true, not_true_eq_false, ra_ltT, ra_ltF, ra_leT, ra_leF, ra_eqT, ra_eqF, or_false, false_or, or_true, true_or, and_true, true_and, and_false, false_and]
  rcases ra_price (nI pa) (nI pb) with ⟨a, b, qa, qb, e1, e2, e3⟩ | ⟨hn, e3⟩ | ⟨a, b, hc, qa, qb, e1, e2, e3⟩
  · have e1 := (nI_eq (by omega) (by omega)).mp e1
    have e2 := (nI_eq (by omega) (by omega)).mp e2
    subst e1 e2
    left
    refine ⟨f, t, pa, pb, by omega, by omega, qa, qb, rfl, rfl, rfl, rfl, ?_, ?_⟩
    · simp (disch := omega) only [↓reduceIte, ra_lit, ra_nf_ap, ra_st_lo, nI_add, nI_clamp, nI_ltI, nI_leI, nI_eq, Option.bind_some, if_true, if_false, not_false_eq_true, not_true_eq_false, ra_ltT, ra_ltF, ra_leT, ra_leF, ra_eqT, ra_eqF, or_false, false_or, or_true, true_or, and_true, true_and, and_false, false_and, e3]
    · simp (disch := omega) only [↓reduceIte, ra_lit, ra_nf_ap, ra_st_lo, nI_add, nI_clamp, nI_ltI, nI_leI, nI_eq, Option.bind_some, if_true, if_false, not_false_eq_true, not_true_eq_false, ra_ltT, ra_ltF, ra_leT, ra_leF, ra_eqT, ra_eqF, or_false, false_or, or_true, true_or, and_true, true_and, and_false, false_and]
  · rcases hn with z | z
    · exact absurd z h2
    · exact absurd z h3
  · have e1 := (nI_eq (by omega) (by omega)).mp e1
    have e2 := (nI_eq (by omega) (by omega)).mp e2
    subst e1 e2
    right
    refine ⟨6, by omega, ?_, ?_⟩
    · simp (disch := omega) only [↓reduceIte, ra_lit, ra_nf_ap, ra_st_lo, nI_add, nI_clamp, nI_ltI, nI_leI, nI_eq, Option.bind_some, if_true, if_false, not_false_eq_true, not_true_eq_false, ra_ltT, ra_ltF, ra_leT, ra_leF, ra_eqT, ra_eqF, or_false, false_or, or_true, true_or, and_true, true_and, and_false, false_and, e3]
    · by_cases c0 : 99 < pa
      · simp (disch := omega) only [↓reduceIte, ra_lit, ra_nf_ap, ra_st_lo, nI_add, nI_clamp, nI_ltI, nI_leI, nI_eq, Option.bind_some, if_true, if_false, not_false_eq_true, not_true_eq_false, ra_ltT, ra_ltF, ra_leT, ra_leF, ra_eqT, ra_eqF, or_false, false_or, or_true, true_or, and_true, true_and, and_false, false_and]
      · simp (disch := omega) only [↓reduceIte, ra_lit, ra_nf_ap, ra_st_lo, nI_add, nI_clamp, nI_ltI, nI_leI, nI_eq, Option.bind_some, if_true, if_false, not_false_eq_true, not_true_eq_false, ra_ltT, ra_ltF, ra_leT, ra_leF, ra_eqT, ra_eqF, or_false, false_or, or_true, true_or, and_true, true_and, and_false, false_and]
theorem ra_moLe {f t : Nat} (h : f ≤ t) (ht : t ≤ 12) : 2 ^ f ≤ 2 ^ t ∧ 2 ^ t - 2 ^ f ≤ 4095 ∧ 2 ^ t ≤ 4096 := by
  have h1 : 2 ^ f ≤ 2 ^ t := Nat.pow_le_pow_right (by decide) h
  have h2 := ra_p2 ht
  have h3 := Nat.two_pow_pos f
  omega
theorem rc_span {f t : Nat} (h : f ≤ t) (ht : t ≤ 12) : f_X2_monthSpan (nI f) (nI t) = some (nI (2 ^ t - 2 ^ f)) := by
  have := ra_moLe h ht
  unfold f_X2_monthSpan
  rw [ra_sh f (by omega), ra_sh t (by omega), pk_sub this.1]
theorem rr_span {f t : Nat} (h : f ≤ t) (ht : t ≤ 12) : f_X3_monthsOf (nI f) (nI t) = some (nI (2 ^ t - 2 ^ f)) := rc_span h ht
theorem ra_else : ∀ f, f < 13 → ∀ t, t < 13 → f ≤ t → (4095 : Int32) &&& (nI (2 ^ t - 2 ^ f) ^^^ (-1)) = nI (4095 - (2 ^ t - 2 ^ f)) := by decide
theorem tm_two {γ κ τ : Nat → Nat} (G M ρ φ : Nat → Nat) (ta tb tc th : Nat → Int32) {R : Nat} (hG : G 1 = R) (hM : M 2 = R) (hR : R ≤ 12) (hρ : ∀ j, ρ j ≤ 9) (h : ra_ok γ κ τ) (p1 p2 p3 p4 p5 : Int32) :
    ∃ r a b c th' x y φ', f_X2_two (ra_nf G) (ra_nf γ) (ra_nf κ) (ra_nf τ) ta tb tc (ra_nf ρ) th (ra_nf φ) p1 p2 p3 p4 p5 = some (r, a, b, c, th', ra_nf φ') ∧ f_X3_two (ra_nf M) (ra_st γ κ τ) (ra_nf ρ) (ra_nf φ) p1 p2 p3 p4 p5 = some (r, ra_nf (ra_un (ra_un M 4 x) 5 y), ra_nf φ') := by
  unfold f_X2_two f_X3_two
  rcases ra_span p1 p2 p3 p4 with ⟨f, t, pa, pb, hft, ht, ha, hb, rfl, rfl, rfl, rfl, e1, e2⟩ | ⟨c, hc, e1, e2⟩
  · rw [e1, e2, Option.bind_some, Option.bind_some, if_pos (show nI 0 = 0 from rfl), if_pos (show nI 0 = 0 from rfl)]
    have hmo := ra_moLe hft ht
    have hel := ra_else f (by omega) t (by omega) hft
    have hsub : (4095 : Int32) - nI (2 ^ t - 2 ^ f) = nI (4095 - (2 ^ t - 2 ^ f)) := pk_sub (a := 4095) hmo.2.1
    by_cases h5 : p5 < nI 0
    · refine ⟨-nI 2, ta, tb, tc, th, M 4, M 5, ra_rf φ 2, ?_, ?_⟩
      · simp (disch := omega) only [↓reduceIte, ra_lit, ra_nf_ap, ra_st_lo, nI_add, nI_clamp, nI_ltI, nI_leI, nI_eq, Option.bind_some, if_true, if_false, not_false_eq_true, not_true_eq_false, ra_ltT, ra_ltF, ra_leT, ra_leF, ra_eqT, ra_eqF, or_false, false_or, or_true, true_or, and_true, true_and, and_false, false_and, if_pos h5, rc_refuse]
      · rw [ra_unself, show f_X3_isIn p5 0 2 = some (nI 0) from rr_isInN (lo := 0) h5 (by decide), Option.bind_some, if_pos (show nI 0 = 0 from rfl)]
        simp (disch := omega) only [↓reduceIte, ra_lit, ra_nf_ap, ra_st_lo, nI_add, nI_clamp, nI_ltI, nI_leI, nI_eq, Option.bind_some, if_true, if_false, not_false_eq_true, not_true_eq_false, ra_ltT, ra_ltF, ra_leT, ra_leF, ra_eqT, ra_eqF, or_false, false_or, or_true, true_or, and_true, true_and, and_false, false_and, rr_no]
    obtain ⟨w, hw, rfl⟩ := nI_of (x := p5) h5
    have ein : f_X3_isIn (nI w) 0 2 = some (nI (if 0 ≤ w ∧ w ≤ 2 then 1 else 0)) := rr_isIn hw (lo := 0) (hi := 2) (by decide) (by decide)
    rw [ein, Option.bind_some]
    by_cases c2 : 2 < w
    · refine ⟨-nI 2, ta, tb, tc, th, M 4, M 5, ra_rf φ 2, ?_, ?_⟩
      · simp (disch := omega) only [↓reduceIte, ra_lit, ra_nf_ap, ra_st_lo, nI_add, nI_clamp, nI_ltI, nI_leI, nI_eq, Option.bind_some, if_true, if_false, not_false_eq_true, not_true_eq_false, ra_ltT, ra_ltF, ra_leT, ra_leF, ra_eqT, ra_eqF, or_false, false_or, or_true, true_or, and_true, true_and, and_false, false_and, rc_refuse]
      · rw [ra_unself, if_neg (show ¬ (0 ≤ w ∧ w ≤ 2) by omega), if_pos (show nI 0 = 0 from rfl)]
        simp (disch := omega) only [↓reduceIte, ra_lit, ra_nf_ap, ra_st_lo, nI_add, nI_clamp, nI_ltI, nI_leI, nI_eq, Option.bind_some, if_true, if_false, not_false_eq_true, not_true_eq_false, ra_ltT, ra_ltF, ra_leT, ra_leF, ra_eqT, ra_eqF, or_false, false_or, or_true, true_or, and_true, true_and, and_false, false_and, rr_no]
    rw [if_pos (show 0 ≤ w ∧ w ≤ 2 by omega), if_neg (show ¬ nI 1 = 0 by decide), if_pos (show nI 0 = 0 from rfl), rr_areHeats M ρ hM hR hρ, Option.bind_some]
    by_cases c12 : R = 12
    · obtain ⟨b, th', h1, h2⟩ := rc_measure ρ (ra_nf G) ta tb tc th h hρ
      have f1 := rc_bestSize (ra_nf G) th' h hρ h2 (mo := 2 ^ t - 2 ^ f) (pa := pa) (pb := pb) (by omega) ha hb
      have f2 := rc_bestSize (ra_nf G) th' h hρ h2 (mo := 4095 - (2 ^ t - 2 ^ f)) (pa := pa) (pb := pb) (by omega) ha hb
      have f3 := rc_leastCost (ra_nf G) th' h hρ h2 (mo := 2 ^ t - 2 ^ f) (pa := pa) (pb := pb) (by omega) ha hb
      have f4 := rc_leastCost (ra_nf G) th' h hρ h2 (mo := 4095 - (2 ^ t - 2 ^ f)) (pa := pa) (pb := pb) (by omega) ha hb
      have f5 := fun M' => rr_finds M' h hρ (mo := 2 ^ t - 2 ^ f) (pa := pa) (pb := pb) (by omega) ha hb
      have f6 := fun M' => rr_finds M' h hρ (mo := 4095 - (2 ^ t - 2 ^ f)) (pa := pa) (pb := pb) (by omega) ha hb
      rw [if_pos c12, if_neg (show ¬ nI 1 = 0 by decide), if_pos (show nI 0 = 0 from rfl), rr_span hft ht, rc_span hft ht, h1]
      simp only [Option.bind_some, f5, hel, f6, hsub, f1, f2]
      unfold f_X2_twoCost
      simp only [hsub, f3, f4, Option.bind_some]
      have w3 : w = 0 ∨ w = 1 ∨ w = 2 := by omega
      generalize ra_be γ κ τ ρ (2 ^ t - 2 ^ f) pa pb = B1
      generalize ra_be γ κ τ ρ (4095 - (2 ^ t - 2 ^ f)) pa pb = B2
      rcases w3 with rfl | rfl | rfl
      · refine ⟨nI B1.1, b, ra_nf κ, ra_nf τ, th', B1.1, B1.2, φ, ?_, ?_⟩
        · simp (disch := omega) only [↓reduceIte, ra_lit, ra_nf_ap, ra_st_lo, nI_add, nI_clamp, nI_ltI, nI_leI, nI_eq, Option.bind_some, if_true, if_false, not_false_eq_true, not_true_eq_false, ra_ltT, ra_ltF, ra_leT, ra_leF, ra_eqT, ra_eqF, or_false, false_or, or_true, true_or, and_true, true_and, and_false, false_and, hG]
        · simp (disch := omega) only [↓reduceIte, ra_lit, ra_nf_ap, ra_st_lo, nI_add, nI_clamp, nI_ltI, nI_leI, nI_eq, Option.bind_some, if_true, if_false, not_false_eq_true, not_true_eq_false, ra_ltT, ra_ltF, ra_leT, ra_leF, ra_eqT, ra_eqF, or_false, false_or, or_true, true_or, and_true, true_and, and_false, false_and]
          rfl
      · refine ⟨nI B2.1, b, ra_nf κ, ra_nf τ, th', B2.1, B2.2, φ, ?_, ?_⟩
        · simp (disch := omega) only [↓reduceIte, ra_lit, ra_nf_ap, ra_st_lo, nI_add, nI_clamp, nI_ltI, nI_leI, nI_eq, Option.bind_some, if_true, if_false, not_false_eq_true, not_true_eq_false, ra_ltT, ra_ltF, ra_leT, ra_leF, ra_eqT, ra_eqF, or_false, false_or, or_true, true_or, and_true, true_and, and_false, false_and, hG]
        · simp (disch := omega) only [↓reduceIte, ra_lit, ra_nf_ap, ra_st_lo, nI_add, nI_clamp, nI_ltI, nI_leI, nI_eq, Option.bind_some, if_true, if_false, not_false_eq_true, not_true_eq_false, ra_ltT, ra_ltF, ra_leT, ra_leF, ra_eqT, ra_eqF, or_false, false_or, or_true, true_or, and_true, true_and, and_false, false_and, ra_unu]
          rfl
      · refine ⟨nI (B1.2 + B2.2), b, ra_nf κ, ra_nf τ, th', B2.1, B2.2, φ, ?_, ?_⟩
        · simp (disch := omega) only [↓reduceIte, ra_lit, ra_nf_ap, ra_st_lo, nI_add, nI_clamp, nI_ltI, nI_leI, nI_eq, Option.bind_some, if_true, if_false, not_false_eq_true, not_true_eq_false, ra_ltT, ra_ltF, ra_leT, ra_leF, ra_eqT, ra_eqF, or_false, false_or, or_true, true_or, and_true, true_and, and_false, false_and, hG]
        · simp (disch := omega) only [↓reduceIte, ra_lit, ra_nf_ap, ra_st_lo, nI_add, nI_clamp, nI_ltI, nI_leI, nI_eq, Option.bind_some, if_true, if_false, not_false_eq_true, not_true_eq_false, ra_ltT, ra_ltF, ra_leT, ra_leF, ra_eqT, ra_eqF, or_false, false_or, or_true, true_or, and_true, true_and, and_false, false_and, ra_unu]
          rfl
    · refine ⟨-nI 3, ta, tb, tc, th, M 4, M 5, ra_rf φ 3, ?_, ?_⟩
      · simp (disch := omega) only [↓reduceIte, ra_lit, ra_nf_ap, ra_st_lo, nI_add, nI_clamp, nI_ltI, nI_leI, nI_eq, Option.bind_some, if_true, if_false, not_false_eq_true, not_true_eq_false, ra_ltT, ra_ltF, ra_leT, ra_leF, ra_eqT, ra_eqF, or_false, false_or, or_true, true_or, and_true, true_and, and_false, false_and, hG, rc_refuse]
      · rw [ra_unself, if_neg c12, if_pos (show nI 0 = 0 from rfl)]
        simp (disch := omega) only [↓reduceIte, ra_lit, ra_nf_ap, ra_st_lo, nI_add, nI_clamp, nI_ltI, nI_leI, nI_eq, Option.bind_some, if_true, if_false, not_false_eq_true, not_true_eq_false, ra_ltT, ra_ltF, ra_leT, ra_leF, ra_eqT, ra_eqF, or_false, false_or, or_true, true_or, and_true, true_and, and_false, false_and, rr_no]
  · have hz : ¬ -nI c = 0 := ra_nz3' (by omega)
    have : c < 7 := by omega
    refine ⟨-nI c, ta, tb, tc, th, M 4, M 5, ra_rf φ c, ?_, ?_⟩
    · rw [e1, Option.bind_some, if_neg hz, rc_refuse _ _ this]
      rfl
    · rw [ra_unself, e2, Option.bind_some, if_neg hz]
      simp only [if_neg hz, rr_no _ _ this, Option.bind_some]
theorem tm_worth {γ κ τ : Nat → Nat} (G M ρ φ : Nat → Nat) (ta tb tc th : Nat → Int32) {R : Nat} (hG : G 1 = R) (hM : M 2 = R) (hR : R ≤ 12) (hρ : ∀ j, ρ j ≤ 9) (h : ra_ok γ κ τ) (p1 p2 p3 p4 : Int32) :
    ∃ r a b c th' x y φ', f_X2_worth (ra_nf G) (ra_nf γ) (ra_nf κ) (ra_nf τ) ta tb tc (ra_nf ρ) th (ra_nf φ) p1 p2 p3 p4 = some (r, a, b, c, th', ra_nf φ') ∧ f_X3_worth (ra_nf M) (ra_st γ κ τ) (ra_nf ρ) (ra_nf φ) p1 p2 p3 p4 = some (r, ra_nf (ra_un (ra_un M 4 x) 5 y), ra_nf φ') := by
  unfold f_X2_worth f_X3_worth f_X3_far
  rcases ra_span p1 p2 p3 p4 with ⟨f, t, pa, pb, hft, ht, ha, hb, rfl, rfl, rfl, rfl, e1, e2⟩ | ⟨c, hc, e1, e2⟩
  · rw [e1, e2, Option.bind_some, Option.bind_some, if_pos (show nI 0 = 0 from rfl), if_pos (show nI 0 = 0 from rfl), rr_areHeats M ρ hM hR hρ, Option.bind_some]
    have hmo := ra_moLe hft ht
    have hel := ra_else f (by omega) t (by omega) hft
    have hsub : (4095 : Int32) - nI (2 ^ t - 2 ^ f) = nI (4095 - (2 ^ t - 2 ^ f)) := pk_sub (a := 4095) hmo.2.1
    by_cases c12 : R = 12
    · obtain ⟨b, th', h1, h2⟩ := rc_measure ρ (ra_nf G) ta tb tc th h hρ
      have f0 := rc_leastCost (ra_nf G) th' h hρ h2 (mo := 4095) (pa := pa) (pb := pb) (by omega) ha hb
      have f0 : f_X2_leastCost (ra_nf G) th' 4095 (nI pa) (nI pb) = _ := f0
      have f3 := rc_leastCost (ra_nf G) th' h hρ h2 (mo := 2 ^ t - 2 ^ f) (pa := pa) (pb := pb) (by omega) ha hb
      have f4 := rc_leastCost (ra_nf G) th' h hρ h2 (mo := 4095 - (2 ^ t - 2 ^ f)) (pa := pa) (pb := pb) (by omega) ha hb
      have f7 := fun M' => rr_finds M' h hρ (mo := 4095) (pa := pa) (pb := pb) (by omega) ha hb
      have f7 : ∀ M', f_X3_finds (ra_nf M') (ra_st γ κ τ) (ra_nf ρ) 4095 (nI pa) (nI pb) = _ := f7
      have f5 := fun M' => rr_finds M' h hρ (mo := 2 ^ t - 2 ^ f) (pa := pa) (pb := pb) (by omega) ha hb
      have f6 := fun M' => rr_finds M' h hρ (mo := 4095 - (2 ^ t - 2 ^ f)) (pa := pa) (pb := pb) (by omega) ha hb
      rw [if_pos c12, if_neg (show ¬ nI 1 = 0 by decide), if_pos (show nI 0 = 0 from rfl), rr_span hft ht, rc_span hft ht, h1]
      unfold f_X2_twoCost
      simp only [Option.bind_some, f7, f5, hel, f6, hsub, f0, f3, f4]
      generalize ra_be γ κ τ ρ (2 ^ t - 2 ^ f) pa pb = B1
      generalize ra_be γ κ τ ρ (4095 - (2 ^ t - 2 ^ f)) pa pb = B2
      generalize ra_be γ κ τ ρ 4095 pa pb = B0
      refine ⟨nI B0.2 - (nI B1.2 + nI B2.2), b, ra_nf κ, ra_nf τ, th', B2.1, B2.2, φ, ?_, ?_⟩
      · rw [ra_nf_ap, hG, c12, if_pos (show nI 12 = 12 from rfl)]
      · simp only [ra_unu]
        show some (nI B0.2 - nI B1.2 - nI B2.2, _, _) = _
        rw [Int32.sub_sub]
    · refine ⟨1000000000 - -nI 3, ta, tb, tc, th, M 4, M 5, ra_rf φ 3, ?_, ?_⟩
      · simp (disch := omega) only [↓reduceIte, ra_lit, ra_nf_ap, ra_st_lo, nI_add, nI_clamp, nI_ltI, nI_leI, nI_eq, Option.bind_some, if_true, if_false, not_false_eq_true, not_true_eq_false, ra_ltT, ra_ltF, ra_leT, ra_leF, ra_eqT, ra_eqF, or_false, false_or, or_true, true_or, and_true, true_and, and_false, false_and, hG, rc_refuse]
      · rw [ra_unself, if_neg c12, if_pos (show nI 0 = 0 from rfl)]
        simp (disch := omega) only [↓reduceIte, ra_lit, ra_nf_ap, ra_st_lo, nI_add, nI_clamp, nI_ltI, nI_leI, nI_eq, Option.bind_some, if_true, if_false, not_false_eq_true, not_true_eq_false, ra_ltT, ra_ltF, ra_leT, ra_leF, ra_eqT, ra_eqF, or_false, false_or, or_true, true_or, and_true, true_and, and_false, false_and, rr_no]
  · have hz : ¬ -nI c = 0 := ra_nz3' (by omega)
    have : c < 7 := by omega
    refine ⟨1000000000 - -nI c, ta, tb, tc, th, M 4, M 5, ra_rf φ c, ?_, ?_⟩
    · rw [e1, Option.bind_some, if_neg hz, rc_refuse _ _ this]
      rfl
    · rw [ra_unself, e2, Option.bind_some, if_neg hz]
      simp only [if_neg hz, rr_no _ _ this, Option.bind_some]
end RATwo
