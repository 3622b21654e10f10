/-! the calls without a loop, both sides at once -/
section RASimple
def ra_rf (φ : Nat → Nat) (c : Nat) : Nat → Nat := ra_un φ c (φ c + 1)
theorem ra_neg_neg (x : Int32) : - -x = x := Int32.neg_neg
theorem rc_refuse (g : Nat → Int32) (φ : Nat → Nat) {c : Nat} (hc : c < 7) : f_X2_refuse g (ra_nf φ) (-nI c) = some (-nI c, ra_nf (ra_rf φ c)) := by
  unfold f_X2_refuse
  simp (disch := omega) only [ra_neg_neg, ra_at, Option.bind_some, ra_nf_ap, ra_lit, nI_add, ra_put, ra_upd]
  rfl
theorem rr_no (g : Nat → Int32) (φ : Nat → Nat) {c : Nat} (hc : c < 7) : f_X3_no g (ra_nf φ) (-nI c) = some (-nI c, ra_nf (ra_rf φ c)) := by
  unfold f_X3_no
  simp (disch := omega) only [ra_neg_neg, nI_clamp, nI_ltI, ra_ifin, Option.bind_some, ra_nf_ap, ra_lit, nI_add, ra_upd]
  rfl
theorem rr_lays (a b : Nat → Int32) : f_X3_lays 22 22 a b = some a := by
  unfold f_X3_lays
  rw [if_pos ⟨rfl, rfl⟩]
theorem rc_copy (a b c d e f : Nat → Int32) : f_X0_copyFrom a b c d e f = some (d, e, f) := rfl
theorem ra_try (p : Int32) : (∃ k, k < 7 ∧ p = nI k ∧ f_X2_isTry p = some (nI 1) ∧ f_X3_isIn p 0 6 = some (nI 1)) ∨ (f_X2_isTry p = some (nI 0) ∧ f_X3_isIn p 0 6 = some (nI 0)) := by
  unfold f_X2_isTry f_X3_isIn
  by_cases h : p < 0
  · right
    simp only [if_pos h]
    exact ⟨rfl, rfl⟩
  · obtain ⟨k, hk, rfl⟩ := nI_of h
    simp only [if_neg h]
    by_cases h6 : k < 7
    · left
      refine ⟨k, h6, rfl, ?_, ?_⟩
      · rw [if_neg (show ¬ (6 : Int32) < nI k from nI_nlt (a := 6) (b := k) (by omega) (by decide))]
        rfl
      · rw [if_neg (show ¬ (6 : Int32) < nI k from nI_nlt (a := 6) (b := k) (by omega) (by decide))]
        rfl
    · right
      have : (6 : Int32) < nI k := nI_lt (a := 6) (by omega) hk
      simp only [if_pos this]
      exact ⟨rfl, rfl⟩
theorem ra_either (p : Int32) : ((p = nI 0 ∨ p = nI 1) ∧ f_X2_isEither p = some (nI 1) ∧ f_X3_isIn p 0 1 = some (nI 1)) ∨ (f_X2_isEither p = some (nI 0) ∧ f_X3_isIn p 0 1 = some (nI 0)) := by
  unfold f_X2_isEither f_X3_isIn
  by_cases h : p < 0
  · right
    have h0 : ¬ p = 0 := fun e => by subst e; exact absurd h (by decide)
    have h1 : ¬ p = 1 := fun e => by subst e; exact absurd h (by decide)
    simp only [if_pos h, if_neg h0, if_neg h1]
    exact ⟨rfl, rfl⟩
  · obtain ⟨k, hk, rfl⟩ := nI_of h
    by_cases h1 : k < 2
    · left
      have : k = 0 ∨ k = 1 := by omega
      rcases this with rfl | rfl
      · exact ⟨Or.inl rfl, rfl, rfl⟩
      · exact ⟨Or.inr rfl, rfl, rfl⟩
    · right
      have h2 : (1 : Int32) < nI k := nI_lt (a := 1) (by omega) hk
      have h3 : ¬ nI k = 0 := fun e => by have := (nI_eq (b := 0) hk (by decide)).mp e; omega
      have h4 : ¬ nI k = 1 := fun e => by have := (nI_eq (b := 1) hk (by decide)).mp e; omega
      simp only [if_neg h, if_pos h2, if_neg h3, if_neg h4]
      exact ⟨rfl, rfl⟩
theorem ra_wrong {γ κ τ : Nat → Nat} (G M φ : Nat → Nat) (h : ra_ok γ κ τ) (p : Int32) :
    (∃ k, k < 7 ∧ p = nI k ∧ γ 3 < γ 0 ∧ f_X2_tryRefusal (ra_nf G) (ra_nf γ) (ra_nf φ) p = some (nI 0, ra_nf φ) ∧ f_X3_wrongTry (ra_nf M) (ra_st γ κ τ) p = some (nI 0)) ∨
    (∃ c, (c = 2 ∨ c = 3) ∧ f_X2_tryRefusal (ra_nf G) (ra_nf γ) (ra_nf φ) p = some (-nI c, ra_nf (ra_rf φ c)) ∧ f_X3_wrongTry (ra_nf M) (ra_st γ κ τ) p = some (-nI c)) := by
  obtain ⟨h0, h1, h2⟩ := h
  unfold f_X2_tryRefusal f_X3_wrongTry
  rcases ra_try p with ⟨k, hk, e, e1, e2⟩ | ⟨e1, e2⟩
  · rw [e1, e2, rc_isOff γ (by omega) (by omega), rr_isOff M γ κ τ (by omega) (by omega)]
    by_cases ho : γ 3 < γ 0
    · left
      refine ⟨k, hk, e, ho, ?_, ?_⟩
      · simp only [Option.bind_some, if_pos ho]
        rfl
      · simp only [Option.bind_some, if_pos ho]
        rfl
    · right
      refine ⟨3, Or.inr rfl, ?_, ?_⟩
      · simp only [Option.bind_some, if_neg ho]
        rw [if_neg (by decide), if_neg (by decide), show (-3 : Int32) = -nI 3 from rfl, rc_refuse _ _ (by decide)]
        rfl
      · simp only [Option.bind_some, if_neg ho]
        rw [if_neg (by decide), if_neg (by decide)]
        rfl
  · right
    refine ⟨2, Or.inl rfl, ?_, ?_⟩
    · rw [e1, Option.bind_some, if_pos (show nI 0 = 0 from rfl), show (-2 : Int32) = -nI 2 from rfl, rc_refuse _ _ (by decide)]
      rfl
    · rw [e2, Option.bind_some, if_pos (show nI 0 = 0 from rfl)]
      rfl
theorem rc_hasMin (γ : Nat → Nat) {m : Nat} (h8 : γ 8 < 100000) (hm : m < 100000) : f_X0_hasMinutes (ra_nf γ) (nI m) = some (nI (if γ 8 + m ≤ 999 then 1 else 0)) := by
  unfold f_X0_hasMinutes
  simp (disch := omega) only [ra_nf_ap, nI_add, ra_lit, nI_ltI]
  split
  · rw [if_neg (by omega)]
  · rw [if_pos (by omega)]
theorem ra_nz {c : Nat} (h : c = 2 ∨ c = 3) : ¬ -nI c = 0 := by
  rcases h with rfl | rfl <;> decide
theorem ra_nz' {c : Nat} (h : c = 2 ∨ c = 3) : ¬ -nI c = nI 0 := ra_nz h
theorem tm_letter (G M lt φ : Nat → Nat) {L : Nat} (hG : G 0 = L) (hM : M 1 = L) (hL : L ≤ 96) (p : Int32) :
    (∃ c, (c = 4 ∨ c = 6) ∧ f_X2_letter (ra_nf G) (ra_nf lt) (ra_nf φ) p = some (-nI c, ra_nf G, ra_nf lt, ra_nf (ra_rf φ c)) ∧ f_X3_letter (ra_nf M) (ra_nf lt) (ra_nf φ) p = some (-nI c, ra_nf M, ra_nf lt, ra_nf (ra_rf φ c))) ∨
    (∃ v, v < 256 ∧ L < 96 ∧ f_X2_letter (ra_nf G) (ra_nf lt) (ra_nf φ) p = some (nI (L + 1), ra_nf (ra_un G 0 (L + 1)), ra_nf (ra_un lt L v), ra_nf φ) ∧ f_X3_letter (ra_nf M) (ra_nf lt) (ra_nf φ) p = some (nI (L + 1), ra_nf (ra_un M 1 (L + 1)), ra_nf (ra_un lt L v), ra_nf φ)) := by
  unfold f_X2_letter f_X3_letter
  by_cases h : p < 0
  · left
    have h0 : ¬ 0 ≤ p := fun z => by
      have h1 := Int32.lt_iff_toInt_lt.mp h
      have h2 := Int32.le_iff_toInt_le.mp z
      omega
    refine ⟨4, Or.inl rfl, ?_, ?_⟩
    · rw [if_neg h0, show (-4 : Int32) = -nI 4 from rfl, rc_refuse _ _ (by decide)]
      rfl
    · rw [if_neg h0, show (-4 : Int32) = -nI 4 from rfl, rr_no _ _ (by decide)]
      rfl
  · obtain ⟨v, hv, rfl⟩ := nI_of h
    have h0 : (0 : Int32) ≤ nI v := nI_pos' hv
    simp only [if_pos h0]
    by_cases h255 : v < 256
    · have h2 : ¬ (255 : Int32) < nI v := nI_nlt (a := 255) (by omega) (by decide)
      simp only [if_neg h2]
      by_cases hl : L < 96
      · right
        refine ⟨v, h255, hl, ?_, ?_⟩
        · simp (disch := omega) only [ra_nf_ap, hG, ra_lit, nI_ltI, if_pos hl, ra_put, Option.bind_some, nI_add, ra_upd]
        · simp (disch := omega) only [ra_nf_ap, hM, ra_lit, nI_eq, nI_clamp, nI_ltI, ra_ifin, Option.bind_some, nI_add, ra_upd]
          rw [if_neg (by omega)]
      · left
        have e96 : L = 96 := by omega
        refine ⟨6, Or.inr rfl, ?_, ?_⟩
        · simp (disch := omega) only [ra_nf_ap, hG, ra_lit, nI_ltI, if_neg hl, rc_refuse, Option.bind_some]
        · simp (disch := omega) only [ra_nf_ap, hM, ra_lit, nI_eq, if_pos e96, rr_no, Option.bind_some]
    · left
      have h2 : (255 : Int32) < nI v := nI_lt (a := 255) (by omega) hv
      simp only [if_pos h2]
      refine ⟨6, Or.inr rfl, ?_, ?_⟩
      · simp (disch := omega) only [ra_lit, rc_refuse, Option.bind_some]
      · simp (disch := omega) only [ra_lit, rr_no, Option.bind_some]
theorem tm_row (G M ro φ : Nat → Nat) {R : Nat} (hG : G 1 = R) (hM : M 2 = R) (hR : R ≤ 12) (p : Int32) :
    (∃ c, (c = 4 ∨ c = 6) ∧ f_X2_row (ra_nf G) (ra_nf ro) (ra_nf φ) p = some (-nI c, ra_nf G, ra_nf ro, ra_nf (ra_rf φ c)) ∧ f_X3_row (ra_nf M) (ra_nf ro) (ra_nf φ) p = some (-nI c, ra_nf M, ra_nf ro, ra_nf (ra_rf φ c))) ∨
    (∃ v, v < 10 ∧ R < 12 ∧ f_X2_row (ra_nf G) (ra_nf ro) (ra_nf φ) p = some (nI (R + 1), ra_nf (ra_un G 1 (R + 1)), ra_nf (ra_un ro R v), ra_nf φ) ∧ f_X3_row (ra_nf M) (ra_nf ro) (ra_nf φ) p = some (nI (R + 1), ra_nf (ra_un M 2 (R + 1)), ra_nf (ra_un ro R v), ra_nf φ)) := by
  unfold f_X2_row f_X3_row
  by_cases h : p < 0
  · left
    have h0 : ¬ 0 ≤ p := fun z => by
      have h1 := Int32.lt_iff_toInt_lt.mp h
      have h2 := Int32.le_iff_toInt_le.mp z
      omega
    refine ⟨4, Or.inl rfl, ?_, ?_⟩
    · rw [if_neg h0, show (-4 : Int32) = -nI 4 from rfl, rc_refuse _ _ (by decide)]
      rfl
    · rw [if_neg h0, show (-4 : Int32) = -nI 4 from rfl, rr_no _ _ (by decide)]
      rfl
  · obtain ⟨v, hv, rfl⟩ := nI_of h
    have h0 : (0 : Int32) ≤ nI v := nI_pos' hv
    simp only [if_pos h0]
    by_cases h255 : v < 10
    · have h2 : ¬ (9 : Int32) < nI v := nI_nlt (a := 9) (by omega) (by decide)
      simp only [if_neg h2]
      by_cases hl : R < 12
      · right
        refine ⟨v, h255, hl, ?_, ?_⟩
        · simp (disch := omega) only [ra_nf_ap, hG, ra_lit, nI_ltI, if_pos hl, ra_put, Option.bind_some, nI_add, ra_upd]
        · simp (disch := omega) only [ra_nf_ap, hM, ra_lit, nI_eq, nI_clamp, nI_ltI, ra_ifin, Option.bind_some, nI_add, ra_upd]
          rw [if_neg (by omega)]
      · left
        have e96 : R = 12 := by omega
        refine ⟨6, Or.inr rfl, ?_, ?_⟩
        · simp (disch := omega) only [ra_nf_ap, hG, ra_lit, nI_ltI, if_neg hl, rc_refuse, Option.bind_some]
        · simp (disch := omega) only [ra_nf_ap, hM, ra_lit, nI_eq, if_pos e96, rr_no, Option.bind_some]
    · left
      have h2 : (9 : Int32) < nI v := nI_lt (a := 9) (by omega) hv
      simp only [if_pos h2]
      refine ⟨6, Or.inr rfl, ?_, ?_⟩
      · simp (disch := omega) only [ra_lit, rc_refuse, Option.bind_some]
      · simp (disch := omega) only [ra_lit, rr_no, Option.bind_some]
theorem rr_nowOf {g γ κ τ : Nat → Nat} (h : ra_ok γ κ τ) {j : Nat} (hj : j < 6) : f_X3_nowOf (ra_nf g) (ra_st γ κ τ) (nI j) = some (nI (ra_tk (κ j) (τ j) (γ 4) (γ 5) (γ 7))) := by
  have h' := h
  obtain ⟨h0, h1, h2, h3, h4, h5, h6, h7, h8, h9, h10, h11⟩ := h
  unfold f_X3_nowOf
  simp (disch := omega) only [ra_st_lo, rr_partBy h', Option.bind_some]
theorem rr_isIn {v lo hi : Nat} (hv : v < 2 ^ 31) (h1 : lo < 2 ^ 31) (h2 : hi < 2 ^ 31) : f_X3_isIn (nI v) (nI lo) (nI hi) = some (nI (if lo ≤ v ∧ v ≤ hi then 1 else 0)) := by
  unfold f_X3_isIn
  by_cases c1 : lo ≤ v
  · by_cases c2 : v ≤ hi
    · rw [if_neg (nI_nlt c1 hv), if_neg (nI_nlt c2 h2), if_pos ⟨c1, c2⟩]
      rfl
    · rw [if_neg (nI_nlt c1 hv), if_pos (nI_lt (by omega) hv), if_neg (fun z => c2 z.2)]
      rfl
  · rw [if_pos (nI_lt (by omega) h1), if_neg (fun z => c1 z.1)]
    rfl
theorem rr_isInN {p x : Int32} {lo : Nat} (h : p < nI 0) (h1 : lo < 2 ^ 31) : f_X3_isIn p (nI lo) x = some (nI 0) := by
  unfold f_X3_isIn
  have h3 := Int32.lt_iff_toInt_lt.mp h
  have h4 : (nI 0).toInt = 0 := by decide
  rw [if_pos (Int32.lt_iff_toInt_lt.mpr (by rw [nI_toInt h1]; omega))]
  rfl
theorem rr_isInP {j n : Nat} (hj : j < 2 ^ 31) (hn : n < 1000) : f_X3_isIn (nI j) (nI 0) (nI n - nI 1) = some (nI (if j < n then 1 else 0)) := by
  unfold f_X3_isIn
  rw [if_neg (nI_nlt (by omega) hj)]
  by_cases h : j < n
  · rw [pk_sub (by omega), if_neg (nI_nlt (by omega) (by omega)), if_pos h]
    rfl
  · have e : nI n - nI 1 < nI j := by
      by_cases z : n = 0
      · rw [z]
        have a1 : nI 0 - nI 1 < 0 := by decide
        have a1 := Int32.lt_iff_toInt_lt.mp a1
        apply Int32.lt_iff_toInt_lt.mpr
        rw [nI_toInt hj]
        have a0 : (0 : Int32).toInt = 0 := by decide
        omega
      · rw [pk_sub (by omega)]
        exact nI_lt (by omega) (by omega)
    rw [if_pos e, if_neg h]
    rfl
theorem tm_part {γ κ τ : Nat → Nat} (G M φ : Nat → Nat) (h : ra_ok γ κ τ) (p1 p2 : Int32) :
    ∃ r φ', f_X2_part (ra_nf G) (ra_nf γ) (ra_nf κ) (ra_nf τ) (ra_nf φ) p1 p2 = some (r, ra_nf φ') ∧ f_X3_part (ra_nf M) (ra_st γ κ τ) (ra_nf φ) p1 p2 = some (r, ra_nf φ') := by
  have h' := h
  obtain ⟨h0, h1, h2, h3, h4, h5, h6, h7, h8, h9, h10, h11⟩ := h
  unfold f_X2_part f_X3_part
  by_cases hp : p1 < nI 0
  · refine ⟨-nI 1, ra_rf φ 1, ?_, ?_⟩
    · simp (disch := omega) only [ra_lit, if_pos hp, rc_refuse, Option.bind_some]
    · simp (disch := omega) only [ra_lit, rr_isInN hp, rr_no, Option.bind_some, ra_00, if_true]
  · obtain ⟨j, hj, rfl⟩ := nI_of (x := p1) hp
    by_cases hj0 : j < γ 0
    · simp (disch := omega) only [↓reduceIte, ra_lit, ra_nf_ap, ra_st_lo, nI_add, nI_clamp, nI_ltI, nI_leI, nI_eq, Option.bind_some, if_true, if_false, not_false_eq_true, not_true_eq_false, ra_ltT, ra_ltF, ra_leT, ra_leF, ra_eqT, ra_eqF, or_false, false_or, or_true, true_or, and_true, true_and, and_false, false_and, rr_isInP, if_pos hj0]
      by_cases c0 : p2 = nI 0
      · refine ⟨nI (κ j), φ, ?_, ?_⟩
        · simp (disch := omega) only [↓reduceIte, ra_lit, ra_nf_ap, ra_st_lo, nI_add, nI_clamp, nI_ltI, nI_leI, nI_eq, Option.bind_some, if_true, if_false, not_false_eq_true, not_true_eq_false, ra_ltT, ra_ltF, ra_leT, ra_leF, ra_eqT, ra_eqF, or_false, false_or, or_true, true_or, and_true, true_and, and_false, false_and, if_pos c0, ra_at]
        · simp (disch := omega) only [↓reduceIte, ra_lit, ra_nf_ap, ra_st_lo, nI_add, nI_clamp, nI_ltI, nI_leI, nI_eq, Option.bind_some, if_true, if_false, not_false_eq_true, not_true_eq_false, ra_ltT, ra_ltF, ra_leT, ra_leF, ra_eqT, ra_eqF, or_false, false_or, or_true, true_or, and_true, true_and, and_false, false_and, if_pos c0, ra_st_k]
      simp only [if_neg c0]
      by_cases c1 : p2 = nI 1
      · refine ⟨nI (τ j), φ, ?_, ?_⟩
        · simp (disch := omega) only [↓reduceIte, ra_lit, ra_nf_ap, ra_st_lo, nI_add, nI_clamp, nI_ltI, nI_leI, nI_eq, Option.bind_some, if_true, if_false, not_false_eq_true, not_true_eq_false, ra_ltT, ra_ltF, ra_leT, ra_leF, ra_eqT, ra_eqF, or_false, false_or, or_true, true_or, and_true, true_and, and_false, false_and, if_pos c1, ra_at]
        · simp (disch := omega) only [↓reduceIte, ra_lit, ra_nf_ap, ra_st_lo, nI_add, nI_clamp, nI_ltI, nI_leI, nI_eq, Option.bind_some, if_true, if_false, not_false_eq_true, not_true_eq_false, ra_ltT, ra_ltF, ra_leT, ra_leF, ra_eqT, ra_eqF, or_false, false_or, or_true, true_or, and_true, true_and, and_false, false_and, if_pos c1, ra_st_t]
      simp only [if_neg c1]
      by_cases c2 : p2 = nI 2
      · refine ⟨nI (ra_tk (κ j) (τ j) (γ 4) (γ 5) (γ 7)), φ, ?_, ?_⟩
        · simp (disch := omega) only [↓reduceIte, ra_lit, ra_nf_ap, ra_st_lo, nI_add, nI_clamp, nI_ltI, nI_leI, nI_eq, Option.bind_some, if_true, if_false, not_false_eq_true, not_true_eq_false, ra_ltT, ra_ltF, ra_leT, ra_leF, ra_eqT, ra_eqF, or_false, false_or, or_true, true_or, and_true, true_and, and_false, false_and, if_pos c2, rc_thickNow h']
        · simp (disch := omega) only [↓reduceIte, ra_lit, ra_nf_ap, ra_st_lo, nI_add, nI_clamp, nI_ltI, nI_leI, nI_eq, Option.bind_some, if_true, if_false, not_false_eq_true, not_true_eq_false, ra_ltT, ra_ltF, ra_leT, ra_leF, ra_eqT, ra_eqF, or_false, false_or, or_true, true_or, and_true, true_and, and_false, false_and, if_pos c2, rr_nowOf h']
      simp only [if_neg c2]
      exact ⟨-nI 2, ra_rf φ 2, by simp (disch := omega) only [↓reduceIte, ra_lit, ra_nf_ap, ra_st_lo, nI_add, nI_clamp, nI_ltI, nI_leI, nI_eq, Option.bind_some, if_true, if_false, not_false_eq_true, not_true_eq_false, ra_ltT, ra_ltF, ra_leT, ra_leF, ra_eqT, ra_eqF, or_false, false_or, or_true, true_or, and_true, true_and, and_false, false_and, rc_refuse], by simp (disch := omega) only [↓reduceIte, ra_lit, ra_nf_ap, ra_st_lo, nI_add, nI_clamp, nI_ltI, nI_leI, nI_eq, Option.bind_some, if_true, if_false, not_false_eq_true, not_true_eq_false, ra_ltT, ra_ltF, ra_leT, ra_leF, ra_eqT, ra_eqF, or_false, false_or, or_true, true_or, and_true, true_and, and_false, false_and, rr_no]⟩
    · refine ⟨-nI 1, ra_rf φ 1, ?_, ?_⟩
      · simp (disch := omega) only [↓reduceIte, ra_lit, ra_nf_ap, ra_st_lo, nI_add, nI_clamp, nI_ltI, nI_leI, nI_eq, Option.bind_some, if_true, if_false, not_false_eq_true, not_true_eq_false, ra_ltT, ra_ltF, ra_leT, ra_leF, ra_eqT, ra_eqF, or_false, false_or, or_true, true_or, and_true, true_and, and_false, false_and, rc_refuse]
      · simp (disch := omega) only [↓reduceIte, ra_lit, ra_nf_ap, ra_st_lo, nI_add, nI_clamp, nI_ltI, nI_leI, nI_eq, Option.bind_some, if_true, if_false, not_false_eq_true, not_true_eq_false, ra_ltT, ra_ltF, ra_leT, ra_leF, ra_eqT, ra_eqF, or_false, false_or, or_true, true_or, and_true, true_and, and_false, false_and, rr_isInP, if_neg hj0, rr_no]
end RASimple
