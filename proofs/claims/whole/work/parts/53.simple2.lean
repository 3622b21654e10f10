/-! more calls without a loop -/
section RASimple2
theorem ra_nLe {p : Int32} {a : Nat} (h : p < nI 0) (ha : a < 2 ^ 31) : (nI a ≤ p) = False := eq_false fun z => by
  have h1 := Int32.lt_iff_toInt_lt.mp h
  have h2 := Int32.le_iff_toInt_le.mp z
  rw [nI_toInt ha] at h2
  have h3 : (nI 0).toInt = 0 := by decide
  omega
theorem ra_nLt {p : Int32} {a : Nat} (h : p < nI 0) (ha : a < 2 ^ 31) : (nI a < p) = False := eq_false fun z => by
  have h1 := Int32.lt_iff_toInt_lt.mp h
  have h2 := Int32.lt_iff_toInt_lt.mp z
  rw [nI_toInt ha] at h2
  have h3 : (nI 0).toInt = 0 := by decide
  omega
theorem ra_pLe {p : Int32} {a : Nat} (h : p < nI 0) (ha : a < 2 ^ 31) : (p ≤ nI a) = True := eq_true (by
  have h1 := Int32.lt_iff_toInt_lt.mp h
  apply Int32.le_iff_toInt_le.mpr
  rw [nI_toInt ha]
  have h3 : (nI 0).toInt = 0 := by decide
  omega)
theorem ra_pLt {p : Int32} {a : Nat} (h : p < nI 0) (ha : a < 2 ^ 31) : (p < nI a) = True := eq_true (by
  have h1 := Int32.lt_iff_toInt_lt.mp h
  apply Int32.lt_iff_toInt_lt.mpr
  rw [nI_toInt ha]
  have h3 : (nI 0).toInt = 0 := by decide
  omega)
theorem ra_pEq {p : Int32} {a : Nat} (h : p < nI 0) (ha : a < 2 ^ 31) : (p = nI a) = False := eq_false fun z => by
  subst z
  exact absurd h (nI_nlt (by omega) ha)
theorem ra_a00 : rf_a0 0 = nI 100 := rfl
theorem ra_a01 : rf_a0 1 = nI 1 := rfl
theorem ra_a02 : rf_a0 2 = nI 0 := rfl
theorem ra_a03 : rf_a0 3 = nI 0 := rfl
theorem ra_a04 : rf_a0 4 = nI 0 := rfl
theorem ra_a10 : rf_a1 0 = nI 250 := rfl
theorem ra_a11 : rf_a1 1 = nI 9 := rfl
theorem ra_a12 : rf_a1 2 = nI 30 := rfl
theorem ra_a13 : rf_a1 3 = nI 20 := rfl
theorem ra_a14 : rf_a1 4 = nI 9 := rfl
/-- a number of the finger set -/
def ra_pl (k : Nat) : Nat := if k = 0 then 1 else if k = 1 then 2 else if k = 2 then 4 else if k = 3 then 5 else 7
theorem tm_set {γ κ τ : Nat → Nat} (G M φ : Nat → Nat) (h : ra_ok γ κ τ) (p1 p2 : Int32) :
    ∃ r γ' φ', f_X2_set (ra_nf G) (ra_nf γ) (ra_nf φ) p1 p2 = some (r, ra_nf γ', ra_nf φ') ∧ f_X3_set (ra_nf M) (ra_st γ κ τ) (ra_nf φ) p1 p2 = some (r, ra_st γ' κ τ, ra_nf φ') ∧ ra_ok γ' κ τ ∧ γ' 8 = γ 8 := by
  have h' := h
  obtain ⟨h0, h1, h2, h3, h4, h5, h6, h7, h8, h9, h10, h11⟩ := h
  unfold f_X2_set f_X3_set
  by_cases hp : p1 < nI 0
  · refine ⟨-nI 2, γ, ra_rf φ 2, ?_, ?_, h', rfl⟩
    · simp (disch := omega) only [↓reduceIte, ra_lit, ra_nf_ap, ra_st_lo, nI_add, nI_clamp, nI_ltI, nI_leI, nI_eq, Option.bind_some, if_true, if_false, not_false_eq_true, not_true_eq_false, ra_ltT, ra_ltF, ra_leT, ra_leF, ra_eqT, ra_eqF, or_false, false_or, or_true, true_or, and_true, true_and, and_false, false_and, if_pos hp, rc_refuse]
    · rw [show f_X3_isIn p1 0 4 = some (nI 0) from rr_isInN (lo := 0) hp (by decide), Option.bind_some, if_pos (show nI 0 = 0 from rfl)]
      simp (disch := omega) only [↓reduceIte, ra_lit, ra_nf_ap, ra_st_lo, nI_add, nI_clamp, nI_ltI, nI_leI, nI_eq, Option.bind_some, if_true, if_false, not_false_eq_true, not_true_eq_false, ra_ltT, ra_ltF, ra_leT, ra_leF, ra_eqT, ra_eqF, or_false, false_or, or_true, true_or, and_true, true_and, and_false, false_and, rr_no]
  · obtain ⟨k, hk, rfl⟩ := nI_of (x := p1) hp
    by_cases hk5 : k < 5
    · have hk5 : k = 0 ∨ k = 1 ∨ k = 2 ∨ k = 3 ∨ k = 4 := by omega
      by_cases hq : p2 < nI 0
      · refine ⟨-nI 4, γ, ra_rf φ 4, ?_, ?_, h', rfl⟩
        · rcases hk5 with rfl | rfl | rfl | rfl | rfl
          all_goals first | omega | simp (disch := omega) only [↓reduceIte, ra_lit, ra_nf_ap, ra_st_lo, nI_add, nI_clamp, nI_ltI, nI_leI, nI_eq, Option.bind_some, if_true, if_false, not_false_eq_true, not_true_eq_false, ra_ltT, ra_ltF, ra_leT, ra_leF, ra_eqT, ra_eqF, or_false, false_or, or_true, true_or, and_true, true_and, and_false, false_and, ra_at, ra_a00, ra_a01, ra_a02, ra_a03, ra_a04, ra_nLe hq, rc_refuse]
        · rcases hk5 with rfl | rfl | rfl | rfl | rfl
          all_goals first | omega | simp (disch := omega) only [↓reduceIte, ra_lit, ra_nf_ap, ra_st_lo, nI_add, nI_clamp, nI_ltI, nI_leI, nI_eq, Option.bind_some, if_true, if_false, not_false_eq_true, not_true_eq_false, ra_ltT, ra_ltF, ra_leT, ra_leF, ra_eqT, ra_eqF, or_false, false_or, or_true, true_or, and_true, true_and, and_false, false_and, rr_isIn, ra_nLe hq, rr_no]
      · obtain ⟨v, hv, rfl⟩ := nI_of (x := p2) hq
        have hlo : ∃ lo hi, (k = 0 → lo = 100 ∧ hi = 250) ∧ (k = 1 → lo = 1 ∧ hi = 9) ∧ (k = 2 → lo = 0 ∧ hi = 30) ∧ (k = 3 → lo = 0 ∧ hi = 20) ∧ (k = 4 → lo = 0 ∧ hi = 9) := by
          rcases hk5 with rfl | rfl | rfl | rfl | rfl
          · exact ⟨100, 250, by omega, by omega, by omega, by omega, by omega⟩
          · exact ⟨1, 9, by omega, by omega, by omega, by omega, by omega⟩
          · exact ⟨0, 30, by omega, by omega, by omega, by omega, by omega⟩
          · exact ⟨0, 20, by omega, by omega, by omega, by omega, by omega⟩
          · exact ⟨0, 9, by omega, by omega, by omega, by omega, by omega⟩
        obtain ⟨lo, hi, b0, b1, b2, b3, b4⟩ := hlo
        by_cases cl : v < lo
        · refine ⟨-nI 4, γ, ra_rf φ 4, ?_, ?_, h', rfl⟩
          · rcases hk5 with rfl | rfl | rfl | rfl | rfl
            all_goals first | omega | simp (disch := omega) only [↓reduceIte, ra_lit, ra_nf_ap, ra_st_lo, nI_add, nI_clamp, nI_ltI, nI_leI, nI_eq, Option.bind_some, if_true, if_false, not_false_eq_true, not_true_eq_false, ra_ltT, ra_ltF, ra_leT, ra_leF, ra_eqT, ra_eqF, or_false, false_or, or_true, true_or, and_true, true_and, and_false, false_and, ra_at, ra_a00, ra_a01, ra_a02, ra_a03, ra_a04, rc_refuse]
          · rcases hk5 with rfl | rfl | rfl | rfl | rfl
            all_goals first | omega | simp (disch := omega) only [↓reduceIte, ra_lit, ra_nf_ap, ra_st_lo, nI_add, nI_clamp, nI_ltI, nI_leI, nI_eq, Option.bind_some, if_true, if_false, not_false_eq_true, not_true_eq_false, ra_ltT, ra_ltF, ra_leT, ra_leF, ra_eqT, ra_eqF, or_false, false_or, or_true, true_or, and_true, true_and, and_false, false_and, rr_isIn, rr_no]
        by_cases ch : hi < v
        · refine ⟨-nI 6, γ, ra_rf φ 6, ?_, ?_, h', rfl⟩
          · rcases hk5 with rfl | rfl | rfl | rfl | rfl
            all_goals first | omega | simp (disch := omega) only [↓reduceIte, ra_lit, ra_nf_ap, ra_st_lo, nI_add, nI_clamp, nI_ltI, nI_leI, nI_eq, Option.bind_some, if_true, if_false, not_false_eq_true, not_true_eq_false, ra_ltT, ra_ltF, ra_leT, ra_leF, ra_eqT, ra_eqF, or_false, false_or, or_true, true_or, and_true, true_and, and_false, false_and, ra_at, ra_a00, ra_a01, ra_a02, ra_a03, ra_a04, ra_a10, ra_a11, ra_a12, ra_a13, ra_a14, rc_refuse]
          · rcases hk5 with rfl | rfl | rfl | rfl | rfl
            all_goals first | omega | simp (disch := omega) only [↓reduceIte, ra_lit, ra_nf_ap, ra_st_lo, nI_add, nI_clamp, nI_ltI, nI_leI, nI_eq, Option.bind_some, if_true, if_false, not_false_eq_true, not_true_eq_false, ra_ltT, ra_ltF, ra_leT, ra_leF, ra_eqT, ra_eqF, or_false, false_or, or_true, true_or, and_true, true_and, and_false, false_and, rr_isIn, rr_no]
        refine ⟨nI (γ (ra_pl k)), ra_un γ (ra_pl k) v, φ, ?_, ?_, ?_, ?_⟩
        · rcases hk5 with rfl | rfl | rfl | rfl | rfl
          all_goals first | omega | simp (disch := omega) only [↓reduceIte, ra_lit, ra_nf_ap, ra_st_lo, nI_add, nI_clamp, nI_ltI, nI_leI, nI_eq, Option.bind_some, if_true, if_false, not_false_eq_true, not_true_eq_false, ra_ltT, ra_ltF, ra_leT, ra_leF, ra_eqT, ra_eqF, or_false, false_or, or_true, true_or, and_true, true_and, and_false, false_and, ra_at, ra_a00, ra_a01, ra_a02, ra_a03, ra_a04, ra_a10, ra_a11, ra_a12, ra_a13, ra_a14, f_X0_setting, f_X0_change, ra_upd, ra_pl]
        · rcases hk5 with rfl | rfl | rfl | rfl | rfl
          all_goals first | omega | simp (disch := omega) only [↓reduceIte, ra_lit, ra_nf_ap, ra_st_lo, nI_add, nI_clamp, nI_ltI, nI_leI, nI_eq, Option.bind_some, if_true, if_false, not_false_eq_true, not_true_eq_false, ra_ltT, ra_ltF, ra_leT, ra_leF, ra_eqT, ra_eqF, or_false, false_or, or_true, true_or, and_true, true_and, and_false, false_and, rr_isIn, f_X3_placeOf, ra_st_u, ra_pl]
        · rcases hk5 with rfl | rfl | rfl | rfl | rfl
          · exact ⟨h0, h1, by show 100 ≤ v; omega, by show v ≤ 250; omega, h4, h5, h6, h7, h8, h9, h10, h11⟩
          · exact ⟨h0, h1, h2, h3, by show 1 ≤ v; omega, by show v ≤ 9; omega, h6, h7, h8, h9, h10, h11⟩
          · exact ⟨h0, h1, h2, h3, h4, h5, by show v ≤ 30; omega, h7, h8, h9, h10, h11⟩
          · exact ⟨h0, h1, h2, h3, h4, h5, h6, by show v ≤ 20; omega, h8, h9, h10, h11⟩
          · exact ⟨h0, h1, h2, h3, h4, h5, h6, h7, h8, by show v ≤ 9; omega, h10, h11⟩
        · rcases hk5 with rfl | rfl | rfl | rfl | rfl
          all_goals rfl
    · refine ⟨-nI 2, γ, ra_rf φ 2, ?_, ?_, h', rfl⟩
      · simp (disch := omega) only [↓reduceIte, ra_lit, ra_nf_ap, ra_st_lo, nI_add, nI_clamp, nI_ltI, nI_leI, nI_eq, Option.bind_some, if_true, if_false, not_false_eq_true, not_true_eq_false, ra_ltT, ra_ltF, ra_leT, ra_leF, ra_eqT, ra_eqF, or_false, false_or, or_true, true_or, and_true, true_and, and_false, false_and, rc_refuse]
      · simp (disch := omega) only [↓reduceIte, ra_lit, ra_nf_ap, ra_st_lo, nI_add, nI_clamp, nI_ltI, nI_leI, nI_eq, Option.bind_some, if_true, if_false, not_false_eq_true, not_true_eq_false, ra_ltT, ra_ltF, ra_leT, ra_leF, ra_eqT, ra_eqF, or_false, false_or, or_true, true_or, and_true, true_and, and_false, false_and, rr_isIn, rr_no]
theorem tm_back {γ κ τ : Nat → Nat} (G M : Nat → Nat) (h : ra_ok γ κ τ) :
    ∃ γ', f_X2_back (ra_nf G) (ra_nf γ) = some (nI (γ 3), ra_nf γ') ∧ f_X3_back (ra_nf M) (ra_st γ κ τ) = some (nI (γ 3), ra_st γ' κ τ) ∧ ra_ok γ' κ τ ∧ γ' 8 = γ 8 := by
  obtain ⟨h0, h1, h2⟩ := h
  refine ⟨ra_un γ 3 0, ?_, ?_, ⟨h0, Nat.zero_le _, h2⟩, rfl⟩
  · unfold f_X2_back
    simp (disch := omega) only [↓reduceIte, ra_lit, ra_nf_ap, ra_st_lo, nI_add, nI_clamp, nI_ltI, nI_leI, nI_eq, Option.bind_some, if_true, if_false, not_false_eq_true, not_true_eq_false, ra_ltT, ra_ltF, ra_leT, ra_leF, ra_eqT, ra_eqF, or_false, false_or, or_true, true_or, and_true, true_and, and_false, false_and, ra_upd]
  · unfold f_X3_back
    simp (disch := omega) only [↓reduceIte, ra_lit, ra_nf_ap, ra_st_lo, nI_add, nI_clamp, nI_ltI, nI_leI, nI_eq, Option.bind_some, if_true, if_false, not_false_eq_true, not_true_eq_false, ra_ltT, ra_ltF, ra_leT, ra_leF, ra_eqT, ra_eqF, or_false, false_or, or_true, true_or, and_true, true_and, and_false, false_and, ra_st_u]
theorem tm_kind {γ κ τ : Nat → Nat} (G M φ : Nat → Nat) (h : ra_ok γ κ τ) (p1 p2 : Int32) :
    ∃ r φ', f_X2_kind (ra_nf G) (ra_nf γ) (ra_nf φ) p1 p2 = some (r, ra_nf φ') ∧ f_X3_kind (ra_nf M) (ra_st γ κ τ) (ra_nf φ) p1 p2 = some (r, ra_nf φ') := by
  have h' := h
  obtain ⟨h0, h1, h2, h3, h4, h5, h6, h7, h8, h9, h10, h11⟩ := h
  have hal : ∀ k, k < 7 → f_X3_allows (ra_nf M) (ra_st γ κ τ) (nI k) = some (nI (ra_al k (γ 2))) := fun k hk => ra_alR (ra_nf M) (ra_jn γ κ τ) (by omega) h5
  unfold f_X2_kind f_X3_kind
  rcases ra_try p1 with ⟨k, hk, rfl, e1, e2⟩ | ⟨e1, e2⟩
  · rw [e1, e2]
    by_cases hq : p2 < nI 0
    · refine ⟨-nI 2, ra_rf φ 2, ?_, ?_⟩
      · simp (disch := omega) only [↓reduceIte, ra_lit, ra_nf_ap, ra_st_lo, nI_add, nI_clamp, nI_ltI, nI_leI, nI_eq, Option.bind_some, if_true, if_false, not_false_eq_true, not_true_eq_false, ra_ltT, ra_ltF, ra_leT, ra_leF, ra_eqT, ra_eqF, or_false, false_or, or_true, true_or, and_true, true_and, and_false, false_and, ra_pEq hq, rc_refuse]
      · simp (disch := omega) only [↓reduceIte, ra_lit, ra_nf_ap, ra_st_lo, nI_add, nI_clamp, nI_ltI, nI_leI, nI_eq, Option.bind_some, if_true, if_false, not_false_eq_true, not_true_eq_false, ra_ltT, ra_ltF, ra_leT, ra_leF, ra_eqT, ra_eqF, or_false, false_or, or_true, true_or, and_true, true_and, and_false, false_and, rr_isInN hq, rr_no]
    · obtain ⟨v, hv, rfl⟩ := nI_of (x := p2) hq
      by_cases v4 : v < 4
      · have v4 : v = 0 ∨ v = 1 ∨ v = 2 ∨ v = 3 := by omega
        refine ⟨nI (if v = 0 then ra_al k (γ 2) else if v = 1 then ra_mi k else if v = 2 then ra_sw k else ra_hm k), φ, ?_, ?_⟩
        · rcases v4 with rfl | rfl | rfl | rfl
          all_goals first | omega | simp (disch := omega) only [↓reduceIte, ra_lit, ra_nf_ap, ra_st_lo, nI_add, nI_clamp, nI_ltI, nI_leI, nI_eq, Option.bind_some, if_true, if_false, not_false_eq_true, not_true_eq_false, ra_ltT, ra_ltF, ra_leT, ra_leF, ra_eqT, ra_eqF, or_false, false_or, or_true, true_or, and_true, true_and, and_false, false_and, ra_alC, ra_at, ra_a2, ra_a3, ra_a4]
        · rcases v4 with rfl | rfl | rfl | rfl
          all_goals first | omega | simp (disch := omega) only [↓reduceIte, ra_lit, ra_nf_ap, ra_st_lo, nI_add, nI_clamp, nI_ltI, nI_leI, nI_eq, Option.bind_some, if_true, if_false, not_false_eq_true, not_true_eq_false, ra_ltT, ra_ltF, ra_leT, ra_leF, ra_eqT, ra_eqF, or_false, false_or, or_true, true_or, and_true, true_and, and_false, false_and, rr_isIn, hal, ra_miR, ra_swR, ra_hmR]
      · refine ⟨-nI 2, ra_rf φ 2, ?_, ?_⟩
        · simp (disch := omega) only [↓reduceIte, ra_lit, ra_nf_ap, ra_st_lo, nI_add, nI_clamp, nI_ltI, nI_leI, nI_eq, Option.bind_some, if_true, if_false, not_false_eq_true, not_true_eq_false, ra_ltT, ra_ltF, ra_leT, ra_leF, ra_eqT, ra_eqF, or_false, false_or, or_true, true_or, and_true, true_and, and_false, false_and, rc_refuse]
        · simp (disch := omega) only [↓reduceIte, ra_lit, ra_nf_ap, ra_st_lo, nI_add, nI_clamp, nI_ltI, nI_leI, nI_eq, Option.bind_some, if_true, if_false, not_false_eq_true, not_true_eq_false, ra_ltT, ra_ltF, ra_leT, ra_leF, ra_eqT, ra_eqF, or_false, false_or, or_true, true_or, and_true, true_and, and_false, false_and, rr_isIn, rr_no]
  · rw [e1, e2]
    refine ⟨-nI 2, ra_rf φ 2, ?_, ?_⟩
    · simp (disch := omega) only [↓reduceIte, ra_lit, ra_nf_ap, ra_st_lo, nI_add, nI_clamp, nI_ltI, nI_leI, nI_eq, Option.bind_some, if_true, if_false, not_false_eq_true, not_true_eq_false, ra_ltT, ra_ltF, ra_leT, ra_leF, ra_eqT, ra_eqF, or_false, false_or, or_true, true_or, and_true, true_and, and_false, false_and, rc_refuse]
    · simp (disch := omega) only [↓reduceIte, ra_lit, ra_nf_ap, ra_st_lo, nI_add, nI_clamp, nI_ltI, nI_leI, nI_eq, Option.bind_some, if_true, if_false, not_false_eq_true, not_true_eq_false, ra_ltT, ra_ltF, ra_leT, ra_leF, ra_eqT, ra_eqF, or_false, false_or, or_true, true_or, and_true, true_and, and_false, false_and, rr_no]
theorem ra_nzF {c : Nat} (h : c = 2 ∨ c = 3) : (-nI c = nI 0) = False := eq_false (ra_nz h)
theorem tm_would {γ κ τ : Nat → Nat} (G M φ : Nat → Nat) (h : ra_ok γ κ τ) (p : Int32) :
    ∃ r φ', f_X2_would (ra_nf G) (ra_nf γ) (ra_nf κ) (ra_nf τ) (ra_nf φ) p = some (r, ra_nf φ') ∧ f_X3_would (ra_nf M) (ra_st γ κ τ) (ra_nf φ) p = some (r, ra_nf φ') := by
  unfold f_X2_would f_X3_would
  rcases ra_wrong G M φ h p with ⟨k, hk, rfl, ho, e1, e2⟩ | ⟨c, hc, e1, e2⟩
  · refine ⟨nI (if ra_ov γ κ τ k then 1 else 0), φ, ?_, ?_⟩
    · rw [e1]
      simp (disch := omega) only [↓reduceIte, ra_lit, ra_nf_ap, ra_st_lo, nI_add, nI_clamp, nI_ltI, nI_leI, nI_eq, Option.bind_some, if_true, if_false, not_false_eq_true, not_true_eq_false, ra_ltT, ra_ltF, ra_leT, ra_leF, ra_eqT, ra_eqF, or_false, false_or, or_true, true_or, and_true, true_and, and_false, false_and, rc_over h]
      split <;> rfl
    · rw [e2]
      simp (disch := omega) only [↓reduceIte, ra_lit, ra_nf_ap, ra_st_lo, nI_add, nI_clamp, nI_ltI, nI_leI, nI_eq, Option.bind_some, if_true, if_false, not_false_eq_true, not_true_eq_false, ra_ltT, ra_ltF, ra_leT, ra_leF, ra_eqT, ra_eqF, or_false, false_or, or_true, true_or, and_true, true_and, and_false, false_and, rr_would h (k := k) (by omega) ho]
      split <;> rfl
  · refine ⟨-nI c, ra_rf φ c, ?_, ?_⟩
    · rw [e1]
      simp (disch := omega) only [↓reduceIte, ra_lit, ra_nf_ap, ra_st_lo, nI_add, nI_clamp, nI_ltI, nI_leI, nI_eq, Option.bind_some, if_true, if_false, not_false_eq_true, not_true_eq_false, ra_ltT, ra_ltF, ra_leT, ra_leF, ra_eqT, ra_eqF, or_false, false_or, or_true, true_or, and_true, true_and, and_false, false_and, ra_nzF hc]
    · rw [e2]
      have : c < 7 := by omega
      simp (disch := omega) only [↓reduceIte, ra_lit, ra_nf_ap, ra_st_lo, nI_add, nI_clamp, nI_ltI, nI_leI, nI_eq, Option.bind_some, if_true, if_false, not_false_eq_true, not_true_eq_false, ra_ltT, ra_ltF, ra_leT, ra_leF, ra_eqT, ra_eqF, or_false, false_or, or_true, true_or, and_true, true_and, and_false, false_and, ra_nzF hc, rr_no]
theorem tm_tries {γ κ τ : Nat → Nat} (G M φ : Nat → Nat) (h : ra_ok γ κ τ) (hm : γ 8 ≤ 999) (p : Int32) :
    ∃ r γ' φ', f_X2_tries (ra_nf G) (ra_nf γ) (ra_nf κ) (ra_nf τ) (ra_nf φ) p = some (r, ra_nf γ', ra_nf φ') ∧ f_X3_tries (ra_nf M) (ra_st γ κ τ) (ra_nf φ) p = some (r, ra_st γ' κ τ, ra_nf φ') ∧ ra_ok γ' κ τ ∧ γ' 8 ≤ 999 := by
  unfold f_X2_tries f_X3_tries
  rcases ra_wrong G M φ h p with ⟨k, hk, rfl, ho, e1, e2⟩ | ⟨c, hc, e1, e2⟩
  · have hmi := ra_mi_le k
    rw [e1, e2]
    by_cases hmm : γ 8 + ra_mi k ≤ 999
    · refine ⟨nI (if ra_ov γ κ τ k then 1 else 0), ra_tr γ κ τ k, φ, ?_, ?_, ra_tr_ok h ho, ?_⟩
      · simp (disch := omega) only [↓reduceIte, ra_lit, ra_nf_ap, ra_st_lo, nI_add, nI_clamp, nI_ltI, nI_leI, nI_eq, Option.bind_some, if_true, if_false, not_false_eq_true, not_true_eq_false, ra_ltT, ra_ltF, ra_leT, ra_leF, ra_eqT, ra_eqF, or_false, false_or, or_true, true_or, and_true, true_and, and_false, false_and, ra_at, ra_a2, rc_hasMin, if_pos hmm, rc_attempt h hk ho]
        split <;> rfl
      · simp (disch := omega) only [↓reduceIte, ra_lit, ra_nf_ap, ra_st_lo, nI_add, nI_clamp, nI_ltI, nI_leI, nI_eq, Option.bind_some, if_true, if_false, not_false_eq_true, not_true_eq_false, ra_ltT, ra_ltF, ra_leT, ra_leF, ra_eqT, ra_eqF, or_false, false_or, or_true, true_or, and_true, true_and, and_false, false_and, ra_miR, if_pos hmm, rr_tried h hk ho]
        split <;> rfl
      · unfold ra_tr
        split
        · exact hmm
        · exact hmm
    · refine ⟨-nI 6, γ, ra_rf φ 6, ?_, ?_, h, hm⟩
      · simp (disch := omega) only [↓reduceIte, ra_lit, ra_nf_ap, ra_st_lo, nI_add, nI_clamp, nI_ltI, nI_leI, nI_eq, Option.bind_some, if_true, if_false, not_false_eq_true, not_true_eq_false, ra_ltT, ra_ltF, ra_leT, ra_leF, ra_eqT, ra_eqF, or_false, false_or, or_true, true_or, and_true, true_and, and_false, false_and, ra_at, ra_a2, rc_hasMin, if_neg hmm, rc_refuse]
      · simp (disch := omega) only [↓reduceIte, ra_lit, ra_nf_ap, ra_st_lo, nI_add, nI_clamp, nI_ltI, nI_leI, nI_eq, Option.bind_some, if_true, if_false, not_false_eq_true, not_true_eq_false, ra_ltT, ra_ltF, ra_leT, ra_leF, ra_eqT, ra_eqF, or_false, false_or, or_true, true_or, and_true, true_and, and_false, false_and, ra_miR, if_neg hmm, rr_no]
  · refine ⟨-nI c, γ, ra_rf φ c, ?_, ?_, h, hm⟩
    · rw [e1]
      simp (disch := omega) only [↓reduceIte, ra_lit, ra_nf_ap, ra_st_lo, nI_add, nI_clamp, nI_ltI, nI_leI, nI_eq, Option.bind_some, if_true, if_false, not_false_eq_true, not_true_eq_false, ra_ltT, ra_ltF, ra_leT, ra_leF, ra_eqT, ra_eqF, or_false, false_or, or_true, true_or, and_true, true_and, and_false, false_and, ra_nzF hc]
    · rw [e2]
      have : c < 7 := by omega
      simp (disch := omega) only [↓reduceIte, ra_lit, ra_nf_ap, ra_st_lo, nI_add, nI_clamp, nI_ltI, nI_leI, nI_eq, Option.bind_some, if_true, if_false, not_false_eq_true, not_true_eq_false, ra_ltT, ra_ltF, ra_leT, ra_leF, ra_eqT, ra_eqF, or_false, false_or, or_true, true_or, and_true, true_and, and_false, false_and, ra_nzF hc, rr_no]
theorem tm_pause {γ κ τ : Nat → Nat} (G M φ : Nat → Nat) (h : ra_ok γ κ τ) (hm : γ 8 ≤ 999) (p : Int32) :
    ∃ r γ' φ', f_X2_pause (ra_nf G) (ra_nf γ) (ra_nf φ) p = some (r, ra_nf γ', ra_nf φ') ∧ f_X3_pause (ra_nf M) (ra_st γ κ τ) (ra_nf φ) p = some (r, ra_st γ' κ τ, ra_nf φ') ∧ ra_ok γ' κ τ ∧ γ' 8 ≤ 999 := by
  have h' := h
  obtain ⟨h0, h1, h2, h3, h4, h5, h6, h7, h8, h9, h10, h11⟩ := h
  unfold f_X2_pause f_X3_pause
  by_cases hp : p < nI 0
  · refine ⟨-nI 4, γ, ra_rf φ 4, ?_, ?_, h', hm⟩
    · simp (disch := omega) only [↓reduceIte, ra_lit, ra_nf_ap, ra_st_lo, nI_add, nI_clamp, nI_ltI, nI_leI, nI_eq, Option.bind_some, if_true, if_false, not_false_eq_true, not_true_eq_false, ra_ltT, ra_ltF, ra_leT, ra_leF, ra_eqT, ra_eqF, or_false, false_or, or_true, true_or, and_true, true_and, and_false, false_and, ra_nLe hp, rc_refuse]
    · simp (disch := omega) only [↓reduceIte, ra_lit, ra_nf_ap, ra_st_lo, nI_add, nI_clamp, nI_ltI, nI_leI, nI_eq, Option.bind_some, if_true, if_false, not_false_eq_true, not_true_eq_false, ra_ltT, ra_ltF, ra_leT, ra_leF, ra_eqT, ra_eqF, or_false, false_or, or_true, true_or, and_true, true_and, and_false, false_and, ra_nLe hp, rr_no]
  · obtain ⟨v, hv, rfl⟩ := nI_of (x := p) hp
    by_cases v1 : v < 1
    · refine ⟨-nI 4, γ, ra_rf φ 4, ?_, ?_, h', hm⟩
      · simp (disch := omega) only [↓reduceIte, ra_lit, ra_nf_ap, ra_st_lo, nI_add, nI_clamp, nI_ltI, nI_leI, nI_eq, Option.bind_some, if_true, if_false, not_false_eq_true, not_true_eq_false, ra_ltT, ra_ltF, ra_leT, ra_leF, ra_eqT, ra_eqF, or_false, false_or, or_true, true_or, and_true, true_and, and_false, false_and, rc_refuse]
      · simp (disch := omega) only [↓reduceIte, ra_lit, ra_nf_ap, ra_st_lo, nI_add, nI_clamp, nI_ltI, nI_leI, nI_eq, Option.bind_some, if_true, if_false, not_false_eq_true, not_true_eq_false, ra_ltT, ra_ltF, ra_leT, ra_leF, ra_eqT, ra_eqF, or_false, false_or, or_true, true_or, and_true, true_and, and_false, false_and, rr_no]
    by_cases v60 : 60 < v
    · refine ⟨-nI 6, γ, ra_rf φ 6, ?_, ?_, h', hm⟩
      · simp (disch := omega) only [↓reduceIte, ra_lit, ra_nf_ap, ra_st_lo, nI_add, nI_clamp, nI_ltI, nI_leI, nI_eq, Option.bind_some, if_true, if_false, not_false_eq_true, not_true_eq_false, ra_ltT, ra_ltF, ra_leT, ra_leF, ra_eqT, ra_eqF, or_false, false_or, or_true, true_or, and_true, true_and, and_false, false_and, rc_refuse]
      · simp (disch := omega) only [↓reduceIte, ra_lit, ra_nf_ap, ra_st_lo, nI_add, nI_clamp, nI_ltI, nI_leI, nI_eq, Option.bind_some, if_true, if_false, not_false_eq_true, not_true_eq_false, ra_ltT, ra_ltF, ra_leT, ra_leF, ra_eqT, ra_eqF, or_false, false_or, or_true, true_or, and_true, true_and, and_false, false_and, rr_no]
    by_cases hmm : γ 8 + v ≤ 999
    · refine ⟨nI (γ 8 + v), ra_wt γ v, φ, ?_, ?_, ra_wt_ok h', hmm⟩
      · simp (disch := omega) only [↓reduceIte, ra_lit, ra_nf_ap, ra_st_lo, nI_add, nI_clamp, nI_ltI, nI_leI, nI_eq, Option.bind_some, if_true, if_false, not_false_eq_true, not_true_eq_false, ra_ltT, ra_ltF, ra_leT, ra_leF, ra_eqT, ra_eqF, or_false, false_or, or_true, true_or, and_true, true_and, and_false, false_and, rc_hasMin, if_pos hmm, rc_rest]
        rfl
      · simp (disch := omega) only [↓reduceIte, ra_lit, ra_nf_ap, ra_st_lo, nI_add, nI_clamp, nI_ltI, nI_leI, nI_eq, Option.bind_some, if_true, if_false, not_false_eq_true, not_true_eq_false, ra_ltT, ra_ltF, ra_leT, ra_leF, ra_eqT, ra_eqF, or_false, false_or, or_true, true_or, and_true, true_and, and_false, false_and, if_pos hmm, rr_waits]
        rfl
    · refine ⟨-nI 6, γ, ra_rf φ 6, ?_, ?_, h', hm⟩
      · simp (disch := omega) only [↓reduceIte, ra_lit, ra_nf_ap, ra_st_lo, nI_add, nI_clamp, nI_ltI, nI_leI, nI_eq, Option.bind_some, if_true, if_false, not_false_eq_true, not_true_eq_false, ra_ltT, ra_ltF, ra_leT, ra_leF, ra_eqT, ra_eqF, or_false, false_or, or_true, true_or, and_true, true_and, and_false, false_and, rc_hasMin, if_neg hmm, rc_refuse]
      · simp (disch := omega) only [↓reduceIte, ra_lit, ra_nf_ap, ra_st_lo, nI_add, nI_clamp, nI_ltI, nI_leI, nI_eq, Option.bind_some, if_true, if_false, not_false_eq_true, not_true_eq_false, ra_ltT, ra_ltF, ra_leT, ra_leF, ra_eqT, ra_eqF, or_false, false_or, or_true, true_or, and_true, true_and, and_false, false_and, if_neg hmm, rr_no]
theorem tm_holds {γ κ τ : Nat → Nat} (G M : Nat → Nat) (h : ra_ok γ κ τ) :
    ∃ r, f_X2_holds (ra_nf G) (ra_nf γ) (ra_nf κ) (ra_nf τ) = some r ∧ f_X3_holds (ra_nf M) (ra_st γ κ τ) = some r := by
  have h' := h
  obtain ⟨h0, h1, h2, h3, h4, h5, h6, h7, h8, h9, h10, h11⟩ := h
  unfold f_X2_holds f_X3_holds
  rw [rc_isOff γ (by omega) (by omega), rr_isOff M γ κ τ (by omega) (by omega)]
  by_cases ho : γ 3 < γ 0
  · simp (disch := omega) only [↓reduceIte, ra_lit, ra_nf_ap, ra_st_lo, nI_add, nI_clamp, nI_ltI, nI_leI, nI_eq, Option.bind_some, if_true, if_false, not_false_eq_true, not_true_eq_false, ra_ltT, ra_ltF, ra_leT, ra_leF, ra_eqT, ra_eqF, or_false, false_or, or_true, true_or, and_true, true_and, and_false, false_and, if_pos ho, rc_thickNow h', rr_nowOf h']
    exact ⟨_, rfl, rfl⟩
  · simp (disch := omega) only [↓reduceIte, ra_lit, ra_nf_ap, ra_st_lo, nI_add, nI_clamp, nI_ltI, nI_leI, nI_eq, Option.bind_some, if_true, if_false, not_false_eq_true, not_true_eq_false, ra_ltT, ra_ltF, ra_leT, ra_leF, ra_eqT, ra_eqF, or_false, false_or, or_true, true_or, and_true, true_and, and_false, false_and, if_neg ho]
    exact ⟨_, rfl, rfl⟩
theorem tm_danger {γ κ τ : Nat → Nat} (G M φ : Nat → Nat) (h : ra_ok γ κ τ) (p : Int32) :
    ∃ r φ', f_X2_danger (ra_nf G) (ra_nf γ) (ra_nf φ) p = some (r, ra_nf φ') ∧ f_X3_danger (ra_nf M) (ra_st γ κ τ) (ra_nf φ) p = some (r, ra_nf φ') := by
  have h' := h
  obtain ⟨h0, h1, h2, h3, h4, h5, h6, h7, h8, h9, h10, h11⟩ := h
  unfold f_X2_danger f_X3_danger
  by_cases hp : p < nI 0
  · refine ⟨-nI 4, ra_rf φ 4, ?_, ?_⟩
    · simp (disch := omega) only [↓reduceIte, ra_lit, ra_nf_ap, ra_st_lo, nI_add, nI_clamp, nI_ltI, nI_leI, nI_eq, Option.bind_some, if_true, if_false, not_false_eq_true, not_true_eq_false, ra_ltT, ra_ltF, ra_leT, ra_leF, ra_eqT, ra_eqF, or_false, false_or, or_true, true_or, and_true, true_and, and_false, false_and, ra_nLe hp, rc_refuse]
    · simp (disch := omega) only [↓reduceIte, ra_lit, ra_nf_ap, ra_st_lo, nI_add, nI_clamp, nI_ltI, nI_leI, nI_eq, Option.bind_some, if_true, if_false, not_false_eq_true, not_true_eq_false, ra_ltT, ra_ltF, ra_leT, ra_leF, ra_eqT, ra_eqF, or_false, false_or, or_true, true_or, and_true, true_and, and_false, false_and, ra_nLe hp, rr_no]
  · obtain ⟨v, hv, rfl⟩ := nI_of (x := p) hp
    by_cases v9 : v ≤ 9
    · refine ⟨nI (min 99 (γ 6 + v * 5) - 9), φ, ?_, ?_⟩
      · simp (disch := omega) only [↓reduceIte, ra_lit, ra_nf_ap, ra_st_lo, nI_add, nI_clamp, nI_ltI, nI_leI, nI_eq, Option.bind_some, if_true, if_false, not_false_eq_true, not_true_eq_false, ra_ltT, ra_ltF, ra_leT, ra_leF, ra_eqT, ra_eqF, or_false, false_or, or_true, true_or, and_true, true_and, and_false, false_and, pk_mul, ra_mnn, ra_mx0]
      · simp (disch := omega) only [↓reduceIte, ra_lit, ra_nf_ap, ra_st_lo, nI_add, nI_clamp, nI_ltI, nI_leI, nI_eq, Option.bind_some, if_true, if_false, not_false_eq_true, not_true_eq_false, ra_ltT, ra_ltF, ra_leT, ra_leF, ra_eqT, ra_eqF, or_false, false_or, or_true, true_or, and_true, true_and, and_false, false_and, pk_mul, ra_least, ra_most, ra_mnn, ra_mx0, Nat.mul_comm 5 v]
    · refine ⟨-nI 6, ra_rf φ 6, ?_, ?_⟩
      · simp (disch := omega) only [↓reduceIte, ra_lit, ra_nf_ap, ra_st_lo, nI_add, nI_clamp, nI_ltI, nI_leI, nI_eq, Option.bind_some, if_true, if_false, not_false_eq_true, not_true_eq_false, ra_ltT, ra_ltF, ra_leT, ra_leF, ra_eqT, ra_eqF, or_false, false_or, or_true, true_or, and_true, true_and, and_false, false_and, rc_refuse]
      · simp (disch := omega) only [↓reduceIte, ra_lit, ra_nf_ap, ra_st_lo, nI_add, nI_clamp, nI_ltI, nI_leI, nI_eq, Option.bind_some, if_true, if_false, not_false_eq_true, not_true_eq_false, ra_ltT, ra_ltF, ra_leT, ra_leF, ra_eqT, ra_eqF, or_false, false_or, or_true, true_or, and_true, true_and, and_false, false_and, rr_no]
theorem tm_image {γ κ τ : Nat → Nat} (G M : Nat → Nat) (a b c d : Nat → Int32) :
    f_X2_image (ra_nf G) (ra_nf γ) (ra_nf κ) (ra_nf τ) a b c = some (nI (γ 8), ra_nf (ra_un G 2 1), ra_nf γ, ra_nf κ, ra_nf τ) ∧ f_X3_image (ra_nf M) (ra_st γ κ τ) d = some (nI (γ 8), ra_nf (ra_un M 0 1), ra_st γ κ τ) := by
  unfold f_X2_image f_X3_image
  constructor
  · simp (disch := omega) only [↓reduceIte, ra_lit, ra_nf_ap, ra_st_lo, nI_add, nI_clamp, nI_ltI, nI_leI, nI_eq, Option.bind_some, if_true, if_false, not_false_eq_true, not_true_eq_false, ra_ltT, ra_ltF, ra_leT, ra_leF, ra_eqT, ra_eqF, or_false, false_or, or_true, true_or, and_true, true_and, and_false, false_and, rc_copy, ra_upd]
  · simp (disch := omega) only [↓reduceIte, ra_lit, ra_nf_ap, ra_st_lo, nI_add, nI_clamp, nI_ltI, nI_leI, nI_eq, Option.bind_some, if_true, if_false, not_false_eq_true, not_true_eq_false, ra_ltT, ra_ltF, ra_leT, ra_leF, ra_eqT, ra_eqF, or_false, false_or, or_true, true_or, and_true, true_and, and_false, false_and, rr_lays, ra_upd]
theorem tm_on (G M φ : Nat → Nat) (a b c d e f s m : Nat → Int32) {I : Nat} (hG : G 2 = I) (hM : M 0 = I) (hI : I ≤ 1) :
    (I = 0 ∧ f_X2_on (ra_nf G) a b c d e f (ra_nf φ) = some (-nI 3, a, b, c, ra_nf (ra_rf φ 3)) ∧ f_X3_on (ra_nf M) s m (ra_nf φ) = some (-nI 3, s, ra_nf (ra_rf φ 3))) ∨
    (I = 1 ∧ f_X2_on (ra_nf G) a b c d e f (ra_nf φ) = some (d 8, d, e, f, ra_nf φ) ∧ f_X3_on (ra_nf M) s m (ra_nf φ) = some (m 8, m, ra_nf φ)) := by
  unfold f_X2_on f_X3_on
  have hI : I = 0 ∨ I = 1 := by omega
  rcases hI with rfl | rfl
  · left
    refine ⟨rfl, ?_, ?_⟩
    · simp (disch := omega) only [↓reduceIte, ra_lit, ra_nf_ap, ra_st_lo, nI_add, nI_clamp, nI_ltI, nI_leI, nI_eq, Option.bind_some, if_true, if_false, not_false_eq_true, not_true_eq_false, ra_ltT, ra_ltF, ra_leT, ra_leF, ra_eqT, ra_eqF, or_false, false_or, or_true, true_or, and_true, true_and, and_false, false_and, hG, rc_refuse]
    · simp (disch := omega) only [↓reduceIte, ra_lit, ra_nf_ap, ra_st_lo, nI_add, nI_clamp, nI_ltI, nI_leI, nI_eq, Option.bind_some, if_true, if_false, not_false_eq_true, not_true_eq_false, ra_ltT, ra_ltF, ra_leT, ra_leF, ra_eqT, ra_eqF, or_false, false_or, or_true, true_or, and_true, true_and, and_false, false_and, hM, rr_no]
  · right
    refine ⟨rfl, ?_, ?_⟩
    · simp (disch := omega) only [↓reduceIte, ra_lit, ra_nf_ap, ra_st_lo, nI_add, nI_clamp, nI_ltI, nI_leI, nI_eq, Option.bind_some, if_true, if_false, not_false_eq_true, not_true_eq_false, ra_ltT, ra_ltF, ra_leT, ra_leF, ra_eqT, ra_eqF, or_false, false_or, or_true, true_or, and_true, true_and, and_false, false_and, hG, rc_copy]
    · simp (disch := omega) only [↓reduceIte, ra_lit, ra_nf_ap, ra_st_lo, nI_add, nI_clamp, nI_ltI, nI_leI, nI_eq, Option.bind_some, if_true, if_false, not_false_eq_true, not_true_eq_false, ra_ltT, ra_ltF, ra_leT, ra_leF, ra_eqT, ra_eqF, or_false, false_or, or_true, true_or, and_true, true_and, and_false, false_and, hM, rr_lays]
theorem tm_count {γ κ τ : Nat → Nat} (G M φ : Nat → Nat) (h0 : G 0 = M 1) (h1 : G 1 = M 2) (p : Int32) :
    ∃ r, f_X2_count (ra_nf G) (ra_nf γ) (ra_nf φ) p = some r ∧ f_X3_count (ra_nf M) (ra_st γ κ τ) (ra_nf φ) p = some r := by
  unfold f_X2_count f_X3_count
  by_cases hp : p < nI 0
  · refine ⟨-nI 9, ?_, ?_⟩
    · simp (disch := omega) only [↓reduceIte, ra_lit, ra_nf_ap, ra_st_lo, nI_add, nI_clamp, nI_ltI, nI_leI, nI_eq, Option.bind_some, if_true, if_false, not_false_eq_true, not_true_eq_false, ra_ltT, ra_ltF, ra_leT, ra_leF, ra_eqT, ra_eqF, or_false, false_or, or_true, true_or, and_true, true_and, and_false, false_and, ra_pLe hp, ra_pEq hp]
    · simp (disch := omega) only [↓reduceIte, ra_lit, ra_nf_ap, ra_st_lo, nI_add, nI_clamp, nI_ltI, nI_leI, nI_eq, Option.bind_some, if_true, if_false, not_false_eq_true, not_true_eq_false, ra_ltT, ra_ltF, ra_leT, ra_leF, ra_eqT, ra_eqF, or_false, false_or, or_true, true_or, and_true, true_and, and_false, false_and, rr_isInN hp, ra_pEq hp]
  · obtain ⟨v, hv, rfl⟩ := nI_of (x := p) hp
    by_cases c : 11 ≤ v ∧ v ≤ 16
    · obtain ⟨c1, c2⟩ := c
      refine ⟨nI (φ (v - 10)), ?_, ?_⟩
      · simp (disch := omega) only [↓reduceIte, ra_lit, ra_nf_ap, ra_st_lo, nI_add, nI_clamp, nI_ltI, nI_leI, nI_eq, Option.bind_some, if_true, if_false, not_false_eq_true, not_true_eq_false, ra_ltT, ra_ltF, ra_leT, ra_leF, ra_eqT, ra_eqF, or_false, false_or, or_true, true_or, and_true, true_and, and_false, false_and, pk_sub, ra_at]
      · simp (disch := omega) only [↓reduceIte, ra_lit, ra_nf_ap, ra_st_lo, nI_add, nI_clamp, nI_ltI, nI_leI, nI_eq, Option.bind_some, if_true, if_false, not_false_eq_true, not_true_eq_false, ra_ltT, ra_ltF, ra_leT, ra_leF, ra_eqT, ra_eqF, or_false, false_or, or_true, true_or, and_true, true_and, and_false, false_and, rr_isIn, pk_sub]
    · by_cases c10 : v ≤ 10
      · have hv : v = 0 ∨ v = 1 ∨ v = 2 ∨ v = 3 ∨ v = 4 ∨ v = 5 ∨ v = 6 ∨ v = 7 ∨ v = 8 ∨ v = 9 ∨ v = 10 := by omega
        rcases hv with rfl | rfl | rfl | rfl | rfl | rfl | rfl | rfl | rfl | rfl | rfl
        all_goals
          simp (disch := omega) only [↓reduceIte, ra_lit, ra_nf_ap, ra_st_lo, nI_add, nI_clamp, nI_ltI, nI_leI, nI_eq, Option.bind_some, if_true, if_false, not_false_eq_true, not_true_eq_false, ra_ltT, ra_ltF, ra_leT, ra_leF, ra_eqT, ra_eqF, or_false, false_or, or_true, true_or, and_true, true_and, and_false, false_and, rr_isIn, h0, h1]
          exact ⟨_, rfl, rfl⟩
      · by_cases c17 : v = 17
        · subst c17
          simp (disch := omega) only [↓reduceIte, ra_lit, ra_nf_ap, ra_st_lo, nI_add, nI_clamp, nI_ltI, nI_leI, nI_eq, Option.bind_some, if_true, if_false, not_false_eq_true, not_true_eq_false, ra_ltT, ra_ltF, ra_leT, ra_leF, ra_eqT, ra_eqF, or_false, false_or, or_true, true_or, and_true, true_and, and_false, false_and, rr_isIn]
          exact ⟨_, rfl, rfl⟩
        · simp (disch := omega) only [↓reduceIte, ra_lit, ra_nf_ap, ra_st_lo, nI_add, nI_clamp, nI_ltI, nI_leI, nI_eq, Option.bind_some, if_true, if_false, not_false_eq_true, not_true_eq_false, ra_ltT, ra_ltF, ra_leT, ra_leF, ra_eqT, ra_eqF, or_false, false_or, or_true, true_or, and_true, true_and, and_false, false_and, rr_isIn]
          exact ⟨_, rfl, rfl⟩
end RASimple2
