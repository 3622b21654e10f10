/-! goes, stop, waited, judge, lots -/
section RALoops
def ra_fail (κ τ : Nat → Nat) (k : Nat) : Nat → Nat → (Nat → Nat) → Nat
  | 0, n, _ => n
  | d + 1, n, γ => if ra_ov γ κ τ k then n else ra_fail κ τ k d (n + 1) (ra_wear γ k)
def ra_enc (r : Nat) : Int32 := if r < 13 then nI r else -nI 9
theorem ra_fail_le (κ τ : Nat → Nat) (k : Nat) : ∀ (d n : Nat) (γ : Nat → Nat), n ≤ ra_fail κ τ k d n γ ∧ ra_fail κ τ k d n γ ≤ n + d := by
  intro d
  induction d with
  | zero => intro n γ; exact ⟨Nat.le_refl _, Nat.le_refl _⟩
  | succ d ih =>
    intro n γ
    unfold ra_fail
    have := ih (n + 1) (ra_wear γ k)
    split <;> omega
theorem rc_faL {κ τ : Nat → Nat} (a b c e : Nat → Int32) {k : Nat} (hk : k < 7) : ∀ (d n m : Nat) (γ : Nat → Nat), n + d = 13 → d < m → ra_ok γ κ τ → γ 3 < γ 0 →
    ∃ γ', f_X2_failuresAhead_L13 a b c e (nI k) (ra_nf κ) (ra_nf τ) m (nI n) (ra_nf γ) = some (if ra_fail κ τ k d n γ < 13 then Sum.inl (nI (ra_fail κ τ k d n γ), ra_nf γ', ra_nf κ, ra_nf τ) else Sum.inr (nI 13, ra_nf γ')) := by
  intro d
  induction d with
  | zero =>
    intro n m γ hn hm h ho
    obtain ⟨m, rfl⟩ : ∃ q, m = q + 1 := ⟨m - 1, by omega⟩
    obtain rfl : n = 13 := by omega
    refine ⟨γ, ?_⟩
    rw [f_X2_failuresAhead_L13]
    simp (disch := omega) only [↓reduceIte, ra_lit, ra_nf_ap, ra_st_lo, nI_add, nI_clamp, nI_ltI, nI_leI, nI_eq, Option.bind_some, if_true, if_false, not_false_eq_true, not_true_eq_false, ra_ltT, ra_ltF, ra_leT, ra_leF, ra_eqT, ra_eqF, or_false, false_or, or_true, true_or, and_true, true_and, and_false, false_and, ra_fail]
  | succ d ih =>
    intro n m γ hn hm h ho
    obtain ⟨m, rfl⟩ : ∃ q, m = q + 1 := ⟨m - 1, by omega⟩
    have hf := ra_fail_le κ τ k d (n + 1) (ra_wear γ k)
    by_cases hov : ra_ov γ κ τ k
    · refine ⟨γ, ?_⟩
      rw [f_X2_failuresAhead_L13]
      simp (disch := omega) only [↓reduceIte, ra_lit, ra_nf_ap, ra_st_lo, nI_add, nI_clamp, nI_ltI, nI_leI, nI_eq, Option.bind_some, if_true, if_false, not_false_eq_true, not_true_eq_false, ra_ltT, ra_ltF, ra_leT, ra_leF, ra_eqT, ra_eqF, or_false, false_or, or_true, true_or, and_true, true_and, and_false, false_and, ra_fail, rc_over h, ho, if_pos hov]
    · obtain ⟨γ', h1⟩ := ih (n + 1) m (ra_wear γ k) (by omega) (by omega) (ra_wear_ok h) ho
      refine ⟨γ', ?_⟩
      rw [f_X2_failuresAhead_L13]
      obtain ⟨h0, h1', h2, h3, h4, h5, h6, h7, h8, h9, h10, h11⟩ := h
      simp (disch := omega) only [↓reduceIte, ra_lit, ra_nf_ap, ra_st_lo, nI_add, nI_clamp, nI_ltI, nI_leI, nI_eq, Option.bind_some, if_true, if_false, not_false_eq_true, not_true_eq_false, ra_ltT, ra_ltF, ra_leT, ra_leF, ra_eqT, ra_eqF, or_false, false_or, or_true, true_or, and_true, true_and, and_false, false_and, ra_fail, rc_over (show ra_ok γ κ τ from ⟨h0, h1', h2, h3, h4, h5, h6, h7, h8, h9, h10, h11⟩), ho, if_neg hov, rc_strain]
      exact h1
theorem rc_fa {γ κ τ : Nat → Nat} (a ta tb tc : Nat → Int32) {k : Nat} (hk : k < 7) (h : ra_ok γ κ τ) (ho : γ 3 < γ 0) :
    ∃ γ', f_X2_failuresAhead a (ra_nf γ) (ra_nf κ) (ra_nf τ) ta tb tc (nI k) = some (ra_enc (ra_fail κ τ k 13 0 γ), ra_nf γ', ra_nf κ, ra_nf τ) := by
  obtain ⟨γ', h1⟩ := rc_faL a (ra_nf γ) (ra_nf κ) (ra_nf τ) hk 13 0 rf_fu γ rfl (by unfold rf_fu; omega) h ho
  refine ⟨γ', ?_⟩
  unfold f_X2_failuresAhead
  rw [rc_copy, Option.bind_some]
  have h1 : f_X2_failuresAhead_L13 a (ra_nf γ) (ra_nf κ) (ra_nf τ) (nI k) (ra_nf κ) (ra_nf τ) rf_fu 0 (ra_nf γ) = _ := h1
  simp only [h1, Option.bind_some]
  unfold ra_enc
  split <;> rfl
theorem rr_goL {κ τ : Nat → Nat} (M : Nat → Nat) (mi : Nat → Int32) {k : Nat} (hk : k < 7) : ∀ (d n m : Nat) (γ : Nat → Nat), n + d = 13 → d + 1 < m → ra_ok γ κ τ → γ 3 < γ 0 →
    ∃ x γ', f_X3_goesBy_L9 (ra_nf M) (nI k) mi m (-nI 9) (nI n) (ra_st γ κ τ) = some (ra_enc (ra_fail κ τ k d n γ), x, ra_st γ' κ τ) := by
  intro d
  induction d with
  | zero =>
    intro n m γ hn hm h ho
    obtain ⟨m, rfl⟩ : ∃ q, m = q + 1 := ⟨m - 1, by omega⟩
    obtain rfl : n = 13 := by omega
    refine ⟨nI 13, γ, ?_⟩
    rw [f_X3_goesBy_L9]
    simp (disch := omega) only [↓reduceIte, ra_lit, ra_nf_ap, ra_st_lo, nI_add, nI_clamp, nI_ltI, nI_leI, nI_eq, Option.bind_some, if_true, if_false, not_false_eq_true, not_true_eq_false, ra_ltT, ra_ltF, ra_leT, ra_leF, ra_eqT, ra_eqF, or_false, false_or, or_true, true_or, and_true, true_and, and_false, false_and, ra_fail, ra_enc]
  | succ d ih =>
    intro n m γ hn hm h ho
    obtain ⟨m, rfl⟩ : ∃ q, m = q + 1 := ⟨m - 1, by omega⟩
    obtain ⟨h0, h1', h2, h3, h4, h5, h6, h7, h8, h9, h10, h11⟩ := id h
    have e9 : ¬ (0 : Int32) ≤ -nI 9 := by decide
    by_cases hov : ra_ov γ κ τ k
    · refine ⟨nI (n + 1), ra_wear γ k, ?_⟩
      obtain ⟨m, rfl⟩ : ∃ q, m = q + 1 := ⟨m - 1, by omega⟩
      rw [f_X3_goesBy_L9, if_neg (show ¬ (12 : Int32) < nI n from nI_nlt (a := 12) (by omega) (by decide)), if_neg e9]
      simp (disch := omega) only [↓reduceIte, ra_lit, ra_nf_ap, ra_st_lo, nI_add, nI_clamp, nI_ltI, nI_leI, nI_eq, Option.bind_some, if_true, if_false, not_false_eq_true, not_true_eq_false, ra_ltT, ra_ltF, ra_leT, ra_leF, ra_eqT, ra_eqF, or_false, false_or, or_true, true_or, and_true, true_and, and_false, false_and, rr_would h, ho, if_pos hov, rr_wears]
      rw [f_X3_goesBy_L9]
      by_cases c : n + 1 ≤ 12
      · simp (disch := omega) only [↓reduceIte, ra_lit, ra_nf_ap, ra_st_lo, nI_add, nI_clamp, nI_ltI, nI_leI, nI_eq, Option.bind_some, if_true, if_false, not_false_eq_true, not_true_eq_false, ra_ltT, ra_ltF, ra_leT, ra_leF, ra_eqT, ra_eqF, or_false, false_or, or_true, true_or, and_true, true_and, and_false, false_and, ra_fail, ra_enc, if_pos hov]
      · simp (disch := omega) only [↓reduceIte, ra_lit, ra_nf_ap, ra_st_lo, nI_add, nI_clamp, nI_ltI, nI_leI, nI_eq, Option.bind_some, if_true, if_false, not_false_eq_true, not_true_eq_false, ra_ltT, ra_ltF, ra_leT, ra_leF, ra_eqT, ra_eqF, or_false, false_or, or_true, true_or, and_true, true_and, and_false, false_and, ra_fail, ra_enc, if_pos hov]
    · obtain ⟨x, γ', h1⟩ := ih (n + 1) m (ra_wear γ k) (by omega) (by omega) (ra_wear_ok h) ho
      refine ⟨x, γ', ?_⟩
      rw [f_X3_goesBy_L9, if_neg (show ¬ (12 : Int32) < nI n from nI_nlt (a := 12) (by omega) (by decide)), if_neg e9]
      simp (disch := omega) only [↓reduceIte, ra_lit, ra_nf_ap, ra_st_lo, nI_add, nI_clamp, nI_ltI, nI_leI, nI_eq, Option.bind_some, if_true, if_false, not_false_eq_true, not_true_eq_false, ra_ltT, ra_ltF, ra_leT, ra_leF, ra_eqT, ra_eqF, or_false, false_or, or_true, true_or, and_true, true_and, and_false, false_and, rr_would h, ho, if_neg hov, rr_wears, ra_fail]
      exact h1
theorem rr_goesBy {γ κ τ : Nat → Nat} (M : Nat → Nat) (mi : Nat → Int32) {k : Nat} (hk : k < 7) (h : ra_ok γ κ τ) (ho : γ 3 < γ 0) :
    f_X3_goesBy (ra_nf M) (ra_st γ κ τ) mi (nI k) = some (ra_enc (ra_fail κ τ k 13 0 γ), ra_st γ κ τ, ra_st γ κ τ) := by
  obtain ⟨x, γ', h1⟩ := rr_goL M (ra_st γ κ τ) hk 13 0 rf_fu γ rfl (by unfold rf_fu; omega) h ho
  have h1 : f_X3_goesBy_L9 (ra_nf M) (nI k) (ra_st γ κ τ) rf_fu (-9) 0 (ra_st γ κ τ) = _ := h1
  unfold f_X3_goesBy f_X3_begins f_X3_ends
  simp only [rr_lays, Option.bind_some, h1]
theorem tm_goes {γ κ τ : Nat → Nat} (G M φ : Nat → Nat) (ta tb tc mi : Nat → Int32) (h : ra_ok γ κ τ) (p : Int32) :
    ∃ r a b c φ' mi', f_X2_goes (ra_nf G) (ra_nf γ) (ra_nf κ) (ra_nf τ) ta tb tc (ra_nf φ) p = some (r, a, b, c, ra_nf φ') ∧ f_X3_goes (ra_nf M) (ra_st γ κ τ) mi (ra_nf φ) p = some (r, ra_st γ κ τ, mi', ra_nf φ') := by
  unfold f_X2_goes f_X3_goes
  rcases ra_wrong G M φ h p with ⟨k, hk, rfl, ho, e1, e2⟩ | ⟨c, hc, e1, e2⟩
  · obtain ⟨γ', h1⟩ := rc_fa (ra_nf G) ta tb tc hk h ho
    refine ⟨ra_enc (ra_fail κ τ k 13 0 γ), ra_nf γ', ra_nf κ, ra_nf τ, φ, ra_st γ κ τ, ?_, ?_⟩
    · rw [e1]
      simp (disch := omega) only [↓reduceIte, ra_lit, ra_nf_ap, ra_st_lo, nI_add, nI_clamp, nI_ltI, nI_leI, nI_eq, Option.bind_some, if_true, if_false, not_false_eq_true, not_true_eq_false, ra_ltT, ra_ltF, ra_leT, ra_leF, ra_eqT, ra_eqF, or_false, false_or, or_true, true_or, and_true, true_and, and_false, false_and, h1]
    · rw [e2]
      simp (disch := omega) only [↓reduceIte, ra_lit, ra_nf_ap, ra_st_lo, nI_add, nI_clamp, nI_ltI, nI_leI, nI_eq, Option.bind_some, if_true, if_false, not_false_eq_true, not_true_eq_false, ra_ltT, ra_ltF, ra_leT, ra_leF, ra_eqT, ra_eqF, or_false, false_or, or_true, true_or, and_true, true_and, and_false, false_and, rr_goesBy M mi hk h ho]
  · refine ⟨-nI c, ta, tb, tc, ra_rf φ c, mi, ?_, ?_⟩
    · rw [e1]
      simp (disch := omega) only [↓reduceIte, ra_lit, ra_nf_ap, ra_st_lo, nI_add, nI_clamp, nI_ltI, nI_leI, nI_eq, Option.bind_some, if_true, if_false, not_false_eq_true, not_true_eq_false, ra_ltT, ra_ltF, ra_leT, ra_leF, ra_eqT, ra_eqF, or_false, false_or, or_true, true_or, and_true, true_and, and_false, false_and, ra_nzF hc]
    · rw [e2]
      have : c < 7 := by omega
      simp (disch := omega) only [↓reduceIte, ra_lit, ra_nf_ap, ra_st_lo, nI_add, nI_clamp, nI_ltI, nI_leI, nI_eq, Option.bind_some, if_true, if_false, not_false_eq_true, not_true_eq_false, ra_ltT, ra_ltF, ra_leT, ra_leF, ra_eqT, ra_eqF, or_false, false_or, or_true, true_or, and_true, true_and, and_false, false_and, ra_nzF hc, rr_no]
theorem ra_stopL {γ κ τ : Nat → Nat} (G M : Nat → Nat) (rc rr : Nat → Int32) (h : ra_ok γ κ τ) (ho : γ 3 < γ 0) : ∀ (d k m m' : Nat) (b fc fr : Int32) (ta tb tc mi : Nat → Int32), k + d = 7 → d < m → d < m' → ((fc = 13 ∧ fr = 1000000000) ∨ ∃ f, f ≤ 12 ∧ fc = nI f ∧ fr = nI f) →
    ∃ r x1 x2 y1 y2 a b' c mi', f_X2_stop_L25 (ra_nf G) (ra_nf γ) (ra_nf κ) (ra_nf τ) rc m b fc (nI k) ta tb tc = some (r, x1, x2, a, b', c) ∧ f_X3_stop_L22 (ra_nf M) rr m' b fr (nI k) (ra_st γ κ τ) mi = some (r, y1, y2, ra_st γ κ τ, mi') := by
  intro d
  induction d with
  | zero =>
    intro k m m' b fc fr ta tb tc mi hk hm hm' hf
    obtain ⟨m, rfl⟩ : ∃ q, m = q + 1 := ⟨m - 1, by omega⟩
    obtain ⟨m', rfl⟩ : ∃ q, m' = q + 1 := ⟨m' - 1, by omega⟩
    obtain rfl : k = 7 := by omega
    refine ⟨b, fc, nI 7, fr, nI 7, ta, tb, tc, mi, ?_, ?_⟩
    · rw [f_X2_stop_L25, if_pos (by decide)]
    · rw [f_X3_stop_L22, if_pos (by decide)]
  | succ d ih =>
    intro k m m' b fc fr ta tb tc mi hk hm hm' hf
    obtain ⟨m, rfl⟩ : ∃ q, m = q + 1 := ⟨m - 1, by omega⟩
    obtain ⟨m', rfl⟩ : ∃ q, m' = q + 1 := ⟨m' - 1, by omega⟩
    have hk7 : k < 7 := by omega
    obtain ⟨γ', h1⟩ := rc_fa (ra_nf G) ta tb tc hk7 h ho
    have h2 := rr_goesBy M mi hk7 h ho
    rw [f_X2_stop_L25, f_X3_stop_L22, if_neg (show ¬ (6 : Int32) < nI k from nI_nlt (a := 6) (by omega) (by decide)), if_neg (show ¬ (7 : Int32) ≤ nI k from nI_ge (b := 7) (by omega) (by decide)), h1, h2]
    simp only [Option.bind_some]
    rw [nI_1]
    unfold ra_enc
    by_cases c : ra_fail κ τ k 13 0 γ < 13
    · simp only [if_pos c]
      rw [if_neg (nI_pos (by omega)), if_neg (nI_pos (by omega))]
      generalize ra_fail κ τ k 13 0 γ = v at c
      have key : ((fc ≤ nI v) ↔ ¬ (nI v < fr)) := by
        rcases hf with ⟨rfl, rfl⟩ | ⟨f, hf, rfl, rfl⟩
        · have a1 : ¬ (13 : Int32) ≤ nI v := nI_ge (b := 13) (by omega) (by decide)
          have a2 : nI v < (1000000000 : Int32) := nI_lt (b := 1000000000) (by omega) (by decide)
          exact ⟨fun z => absurd z a1, fun z => absurd a2 z⟩
        · rw [nI_leI (by omega) (by omega), nI_ltI (by omega) (by omega)]
          omega
      by_cases c2 : nI v < fr
      · rw [if_neg (fun z => key.mp z c2), if_pos c2]
        exact ih (k + 1) m m' (nI k) (nI v) (nI v) _ _ _ _ (by omega) (by omega) (by omega) (Or.inr ⟨v, by omega, rfl, rfl⟩)
      · rw [if_pos (key.mpr c2), if_neg c2]
        exact ih (k + 1) m m' b fc fr _ _ _ _ (by omega) (by omega) (by omega) hf
    · simp only [if_neg c]
      rw [if_pos (by decide), if_pos (by decide)]
      exact ih (k + 1) m m' b fc fr _ _ _ _ (by omega) (by omega) (by omega) hf
theorem tm_stop {γ κ τ : Nat → Nat} (G M φ : Nat → Nat) (ta tb tc mi : Nat → Int32) (h : ra_ok γ κ τ) :
    ∃ r a b c φ' mi', f_X2_stop (ra_nf G) (ra_nf γ) (ra_nf κ) (ra_nf τ) ta tb tc (ra_nf φ) = some (r, a, b, c, ra_nf φ') ∧ f_X3_stop (ra_nf M) (ra_st γ κ τ) mi (ra_nf φ) = some (r, ra_st γ κ τ, mi', ra_nf φ') := by
  obtain ⟨h0, h1, h2⟩ := id h
  unfold f_X2_stop f_X3_stop
  rw [rc_isOff γ (by omega) (by omega), rr_isOff M γ κ τ (by omega) (by omega)]
  by_cases ho : γ 3 < γ 0
  · obtain ⟨r, x1, x2, y1, y2, a, b', c, mi', e1, e2⟩ := ra_stopL G M (ra_nf φ) (ra_nf φ) h ho 7 0 rf_fu rf_fu (-9) 13 1000000000 ta tb tc mi rfl (by unfold rf_fu; omega) (by unfold rf_fu; omega) (Or.inl ⟨rfl, rfl⟩)
    have e1 : f_X2_stop_L25 (ra_nf G) (ra_nf γ) (ra_nf κ) (ra_nf τ) (ra_nf φ) rf_fu (-9) 13 0 ta tb tc = _ := e1
    have e2 : f_X3_stop_L22 (ra_nf M) (ra_nf φ) rf_fu (-9) 1000000000 0 (ra_st γ κ τ) mi = _ := e2
    refine ⟨r, a, b', c, φ, mi', ?_, ?_⟩
    · rw [if_pos ho, Option.bind_some, if_pos (show nI 0 = 0 from rfl), e1]
      rfl
    · rw [if_pos ho, Option.bind_some, if_pos (show nI 0 = 0 from rfl), e2]
      rfl
  · refine ⟨-nI 3, ta, tb, tc, ra_rf φ 3, mi, ?_, ?_⟩
    · simp (disch := omega) only [↓reduceIte, ra_lit, ra_nf_ap, ra_st_lo, nI_add, nI_clamp, nI_ltI, nI_leI, nI_eq, Option.bind_some, if_true, if_false, not_false_eq_true, not_true_eq_false, ra_ltT, ra_ltF, ra_leT, ra_leF, ra_eqT, ra_eqF, or_false, false_or, or_true, true_or, and_true, true_and, and_false, false_and, if_neg ho, rc_refuse]
    · simp (disch := omega) only [↓reduceIte, ra_lit, ra_nf_ap, ra_st_lo, nI_add, nI_clamp, nI_ltI, nI_leI, nI_eq, Option.bind_some, if_true, if_false, not_false_eq_true, not_true_eq_false, ra_ltT, ra_ltF, ra_leT, ra_leF, ra_eqT, ra_eqF, or_false, false_or, or_true, true_or, and_true, true_and, and_false, false_and, if_neg ho, rr_no]
theorem ra_waL {γ κ τ : Nat → Nat} (G M φ : Nat → Nat) {k : Nat} (hk : k < 7) (h : ra_ok γ κ τ) (ho : γ 3 < γ 0) : ∀ (d i m m' : Nat) (ta tb tc : Nat → Int32), i + d = 61 → d < m → d < m' →
    ∃ a b c, (∃ r, f_X2_waited_L14 (ra_nf G) (ra_nf γ) (ra_nf κ) (ra_nf τ) (nI k) (ra_nf φ) m (nI i) ta tb tc = some (Sum.inl (r, a, b, c, ra_nf φ)) ∧ f_X3_waited_L18 (ra_nf M) (ra_st γ κ τ) (nI k) (ra_nf φ) m' (nI i) = some (Sum.inl (r, ra_nf φ))) ∨
      (∃ x y, f_X2_waited_L14 (ra_nf G) (ra_nf γ) (ra_nf κ) (ra_nf τ) (nI k) (ra_nf φ) m (nI i) ta tb tc = some (Sum.inr (x, a, b, c)) ∧ f_X3_waited_L18 (ra_nf M) (ra_st γ κ τ) (nI k) (ra_nf φ) m' (nI i) = some (Sum.inr y)) := by
  intro d
  induction d with
  | zero =>
    intro i m m' ta tb tc hi hm hm'
    obtain ⟨m, rfl⟩ : ∃ q, m = q + 1 := ⟨m - 1, by omega⟩
    obtain ⟨m', rfl⟩ : ∃ q, m' = q + 1 := ⟨m' - 1, by omega⟩
    obtain rfl : i = 61 := by omega
    refine ⟨ta, tb, tc, Or.inr ⟨nI 61, nI 61, ?_, ?_⟩⟩
    · rw [f_X2_waited_L14, if_pos (by decide)]
    · rw [f_X3_waited_L18, if_pos (by decide)]
  | succ d ih =>
    intro i m m' ta tb tc hi hm hm'
    obtain ⟨m, rfl⟩ : ∃ q, m = q + 1 := ⟨m - 1, by omega⟩
    obtain ⟨m', rfl⟩ : ∃ q, m' = q + 1 := ⟨m' - 1, by omega⟩
    obtain ⟨h0, h1, h2, h3, h4, h5, h6, h7, h8, h9, h10, h11⟩ := id h
    have hw := ra_wt_ok (m := i) h
    have e1 : f_X0_goesOver (ra_nf (ra_wt γ i)) (ra_nf κ) (ra_nf τ) (nI k) = some (nI (if ra_ov (ra_wt γ i) κ τ k then 1 else 0)) := by
      rw [rc_over hw (by omega)]
      have : (ra_wt γ i) 3 < (ra_wt γ i) 0 := ho
      simp only [this, true_and]
    have e2 : f_X3_goesOver (ra_nf M) (ra_st γ κ τ) (nI (γ 3)) (nI k) (nI (γ 4 - i / 2)) (nI (γ 5 - i / 3)) = some (nI (if ra_ov (ra_wt γ i) κ τ k then 1 else 0)) :=
      rr_over h (by omega) (by omega) (by omega) (by omega)
    rw [f_X2_waited_L14, f_X3_waited_L18]
    simp (disch := omega) only [↓reduceIte, ra_lit, ra_nf_ap, ra_st_lo, nI_add, nI_clamp, nI_ltI, nI_leI, nI_eq, Option.bind_some, if_true, if_false, not_false_eq_true, not_true_eq_false, ra_ltT, ra_ltF, ra_leT, ra_leF, ra_eqT, ra_eqF, or_false, false_or, or_true, true_or, and_true, true_and, and_false, false_and, rc_copy, rc_rest, e1, ra_most, pk_div, ra_mx0, e2]
    by_cases c : ra_ov (ra_wt γ i) κ τ k
    · simp (disch := omega) only [↓reduceIte, ra_lit, ra_nf_ap, ra_st_lo, nI_add, nI_clamp, nI_ltI, nI_leI, nI_eq, Option.bind_some, if_true, if_false, not_false_eq_true, not_true_eq_false, ra_ltT, ra_ltF, ra_leT, ra_leF, ra_eqT, ra_eqF, or_false, false_or, or_true, true_or, and_true, true_and, and_false, false_and, if_pos c]
      exact ⟨_, _, _, Or.inl ⟨_, rfl, rfl⟩⟩
    · simp (disch := omega) only [↓reduceIte, ra_lit, ra_nf_ap, ra_st_lo, nI_add, nI_clamp, nI_ltI, nI_leI, nI_eq, Option.bind_some, if_true, if_false, not_false_eq_true, not_true_eq_false, ra_ltT, ra_ltF, ra_leT, ra_leF, ra_eqT, ra_eqF, or_false, false_or, or_true, true_or, and_true, true_and, and_false, false_and, if_neg c]
      exact ih (i + 1) m m' _ _ _ (by omega) (by omega) (by omega)
theorem tm_waited {γ κ τ : Nat → Nat} (G M φ : Nat → Nat) (ta tb tc : Nat → Int32) (h : ra_ok γ κ τ) (p : Int32) :
    ∃ r a b c φ', f_X2_waited (ra_nf G) (ra_nf γ) (ra_nf κ) (ra_nf τ) ta tb tc (ra_nf φ) p = some (r, a, b, c, ra_nf φ') ∧ f_X3_waited (ra_nf M) (ra_st γ κ τ) (ra_nf φ) p = some (r, ra_nf φ') := by
  unfold f_X2_waited f_X3_waited
  rcases ra_wrong G M φ h p with ⟨k, hk, rfl, ho, e1, e2⟩ | ⟨c, hc, e1, e2⟩
  · rw [e1, e2]
    obtain ⟨a, b, c, h1⟩ := ra_waL G M φ hk h ho 61 0 rf_fu rf_fu ta tb tc rfl (by unfold rf_fu; omega) (by unfold rf_fu; omega)
    simp (disch := omega) only [↓reduceIte, ra_lit, ra_nf_ap, ra_st_lo, nI_add, nI_clamp, nI_ltI, nI_leI, nI_eq, Option.bind_some, if_true, if_false, not_false_eq_true, not_true_eq_false, ra_ltT, ra_ltF, ra_leT, ra_leF, ra_eqT, ra_eqF, or_false, false_or, or_true, true_or, and_true, true_and, and_false, false_and]
    rcases h1 with ⟨r, h1, h2⟩ | ⟨x, y, h1, h2⟩
    · rw [h1, h2]
      exact ⟨r, a, b, c, φ, rfl, rfl⟩
    · rw [h1, h2]
      exact ⟨_, a, b, c, φ, rfl, rfl⟩
  · rw [e1, e2]
    have : c < 7 := by omega
    simp (disch := omega) only [↓reduceIte, ra_lit, ra_nf_ap, ra_st_lo, nI_add, nI_clamp, nI_ltI, nI_leI, nI_eq, Option.bind_some, if_true, if_false, not_false_eq_true, not_true_eq_false, ra_ltT, ra_ltF, ra_leT, ra_leF, ra_eqT, ra_eqF, or_false, false_or, or_true, true_or, and_true, true_and, and_false, false_and, ra_nzF hc, rr_no]
    exact ⟨_, _, _, _, _, rfl, rfl⟩
/-- a move: a try, a wait of five, nothing -/
def ra_mv (γ κ τ : Nat → Nat) (v : Nat) : Nat → Nat := if v < 7 then ra_tr γ κ τ v else if v = 7 then ra_wt γ 5 else γ
theorem ra_mv_ok {γ κ τ : Nat → Nat} {v : Nat} (h : ra_ok γ κ τ) (ho : γ 3 < γ 0) : ra_ok (ra_mv γ κ τ v) κ τ := by
  unfold ra_mv
  split
  · exact ra_tr_ok h ho
  · split
    · exact ra_wt_ok h
    · exact h
theorem rc_isTry {v : Nat} (hv : v < 1000) : f_X2_isTry (nI v) = some (nI (if v < 7 then 1 else 0)) := by
  unfold f_X2_isTry
  by_cases c : v < 7
  · simp (disch := omega) only [↓reduceIte, ra_lit, ra_nf_ap, ra_st_lo, nI_add, nI_clamp, nI_ltI, nI_leI, nI_eq, Option.bind_some, if_true, if_false, not_false_eq_true, not_true_eq_false, ra_ltT, ra_ltF, ra_leT, ra_leF, ra_eqT, ra_eqF, or_false, false_or, or_true, true_or, and_true, true_and, and_false, false_and]
  · simp (disch := omega) only [↓reduceIte, ra_lit, ra_nf_ap, ra_st_lo, nI_add, nI_clamp, nI_ltI, nI_leI, nI_eq, Option.bind_some, if_true, if_false, not_false_eq_true, not_true_eq_false, ra_ltT, ra_ltF, ra_leT, ra_leF, ra_eqT, ra_eqF, or_false, false_or, or_true, true_or, and_true, true_and, and_false, false_and]
theorem rc_move {γ κ τ : Nat → Nat} {v : Nat} (h : ra_ok γ κ τ) (ho : γ 3 < γ 0) (hv : v < 1000) : f_X0_move (ra_nf γ) (ra_nf κ) (ra_nf τ) (nI v) = some (ra_nf (ra_mv γ κ τ v)) := by
  obtain ⟨h0, h1, h2, h3, h4, h5, h6, h7, h8, h9, h10, h11⟩ := id h
  unfold f_X0_move ra_mv
  rw [rc_isTry hv]
  by_cases c : v < 7
  · simp (disch := omega) only [↓reduceIte, ra_lit, ra_nf_ap, ra_st_lo, nI_add, nI_clamp, nI_ltI, nI_leI, nI_eq, Option.bind_some, if_true, if_false, not_false_eq_true, not_true_eq_false, ra_ltT, ra_ltF, ra_leT, ra_leF, ra_eqT, ra_eqF, or_false, false_or, or_true, true_or, and_true, true_and, and_false, false_and, rc_attempt h c ho]
  · by_cases c7 : v = 7
    · subst c7
      simp (disch := omega) only [↓reduceIte, ra_lit, ra_nf_ap, ra_st_lo, nI_add, nI_clamp, nI_ltI, nI_leI, nI_eq, Option.bind_some, if_true, if_false, not_false_eq_true, not_true_eq_false, ra_ltT, ra_ltF, ra_leT, ra_leF, ra_eqT, ra_eqF, or_false, false_or, or_true, true_or, and_true, true_and, and_false, false_and, rc_rest]
    · simp (disch := omega) only [↓reduceIte, ra_lit, ra_nf_ap, ra_st_lo, nI_add, nI_clamp, nI_ltI, nI_leI, nI_eq, Option.bind_some, if_true, if_false, not_false_eq_true, not_true_eq_false, ra_ltT, ra_ltF, ra_leT, ra_leF, ra_eqT, ra_eqF, or_false, false_or, or_true, true_or, and_true, true_and, and_false, false_and]
theorem ra_juL {κ τ : Nat → Nat} (na nb nc ygc : Nat → Int32) (M ρ : Nat → Nat) (mi : Nat → Int32) {R : Nat} (hM : M 2 = R) (hR : R ≤ 12) (hρ : ∀ j, ρ j ≤ 9) : ∀ (d i m m' : Nat) (γ : Nat → Nat), i + d = R → d < m → d + 1 < m' → ra_ok γ κ τ → γ 3 < γ 0 →
    ∃ γ', (∃ r y, f_X2_judge_L36 na nb nc (ra_nf ρ) (nI R) ygc (ra_nf κ) (ra_nf τ) m (nI i) (ra_nf γ) = some (Sum.inl (r, ygc, ra_nf γ', ra_nf κ, ra_nf τ)) ∧ f_X3_judge_L9 (ra_nf ρ) (ra_nf M) mi m' (-nI 9) (nI i) (ra_st γ κ τ) = some (r, y, ra_st γ' κ τ)) ∨
      (∃ x y, f_X2_judge_L36 na nb nc (ra_nf ρ) (nI R) ygc (ra_nf κ) (ra_nf τ) m (nI i) (ra_nf γ) = some (Sum.inr (x, ra_nf γ')) ∧ f_X3_judge_L9 (ra_nf ρ) (ra_nf M) mi m' (-nI 9) (nI i) (ra_st γ κ τ) = some (-nI 9, y, ra_st γ' κ τ)) := by
  intro d
  induction d with
  | zero =>
    intro i m m' γ hi hm hm' h ho
    obtain ⟨m, rfl⟩ : ∃ q, m = q + 1 := ⟨m - 1, by omega⟩
    obtain ⟨m', rfl⟩ : ∃ q, m' = q + 1 := ⟨m' - 1, by omega⟩
    obtain rfl : i = R := by omega
    refine ⟨γ, Or.inr ⟨nI i, nI i, ?_, ?_⟩⟩
    · rw [f_X2_judge_L36]
      simp (disch := omega) only [↓reduceIte, ra_lit, ra_nf_ap, ra_st_lo, nI_add, nI_clamp, nI_ltI, nI_leI, nI_eq, Option.bind_some, if_true, if_false, not_false_eq_true, not_true_eq_false, ra_ltT, ra_ltF, ra_leT, ra_leF, ra_eqT, ra_eqF, or_false, false_or, or_true, true_or, and_true, true_and, and_false, false_and]
    · rw [f_X3_judge_L9]
      simp (disch := omega) only [↓reduceIte, ra_lit, ra_nf_ap, ra_st_lo, nI_add, nI_clamp, nI_ltI, nI_leI, nI_eq, Option.bind_some, if_true, if_false, not_false_eq_true, not_true_eq_false, ra_ltT, ra_ltF, ra_leT, ra_leF, ra_eqT, ra_eqF, or_false, false_or, or_true, true_or, and_true, true_and, and_false, false_and, hM]
  | succ d ih =>
    intro i m m' γ hi hm hm' h ho
    obtain ⟨m, rfl⟩ : ∃ q, m = q + 1 := ⟨m - 1, by omega⟩
    obtain ⟨m', rfl⟩ : ∃ q, m' = q + 1 := ⟨m' - 1, by omega⟩
    obtain ⟨h0, h1, h2, h3, h4, h5, h6, h7, h8, h9, h10, h11⟩ := id h
    have hv := hρ i
    have hmv := ra_mv_ok (v := ρ i) h ho
    obtain ⟨g0, g1, -⟩ := id hmv
    have e9 : (nI 0 ≤ -nI 9) = False := eq_false (by decide)
    have eoff := rc_isOff (ra_mv γ κ τ (ρ i)) (by omega) (by omega)
    have eoffr := rr_isOff M (ra_mv γ κ τ (ρ i)) κ τ (by omega) (by omega)
    rw [f_X2_judge_L36, f_X3_judge_L9]
    simp (disch := omega) only [↓reduceIte, ra_lit, ra_nf_ap, ra_st_lo, nI_add, nI_clamp, nI_ltI, nI_leI, nI_eq, Option.bind_some, if_true, if_false, not_false_eq_true, not_true_eq_false, ra_ltT, ra_ltF, ra_leT, ra_leF, ra_eqT, ra_eqF, or_false, false_or, or_true, true_or, and_true, true_and, and_false, false_and, hM, ra_at, rc_move h ho, eoff, e9, rr_isOff, ho]
    by_cases c7 : ρ i < 7
    · have em : ra_mv γ κ τ (ρ i) = ra_tr γ κ τ (ρ i) := if_pos c7
      rw [em] at eoffr g0 g1 hmv ⊢
      simp (disch := omega) only [↓reduceIte, ra_lit, ra_nf_ap, ra_st_lo, nI_add, nI_clamp, nI_ltI, nI_leI, nI_eq, Option.bind_some, if_true, if_false, not_false_eq_true, not_true_eq_false, ra_ltT, ra_ltF, ra_leT, ra_leF, ra_eqT, ra_eqF, or_false, false_or, or_true, true_or, and_true, true_and, and_false, false_and, rr_tried h c7 ho, eoffr]
      by_cases co : (ra_tr γ κ τ (ρ i)) 3 < (ra_tr γ κ τ (ρ i)) 0
      · simp (disch := omega) only [↓reduceIte, ra_lit, ra_nf_ap, ra_st_lo, nI_add, nI_clamp, nI_ltI, nI_leI, nI_eq, Option.bind_some, if_true, if_false, not_false_eq_true, not_true_eq_false, ra_ltT, ra_ltF, ra_leT, ra_leF, ra_eqT, ra_eqF, or_false, false_or, or_true, true_or, and_true, true_and, and_false, false_and, if_pos co]
        exact ih (i + 1) m m' _ (by omega) (by omega) (by omega) hmv co
      · simp (disch := omega) only [↓reduceIte, ra_lit, ra_nf_ap, ra_st_lo, nI_add, nI_clamp, nI_ltI, nI_leI, nI_eq, Option.bind_some, if_true, if_false, not_false_eq_true, not_true_eq_false, ra_ltT, ra_ltF, ra_leT, ra_leF, ra_eqT, ra_eqF, or_false, false_or, or_true, true_or, and_true, true_and, and_false, false_and, if_neg co]
        obtain ⟨m', rfl⟩ : ∃ q, m' = q + 1 := ⟨m' - 1, by omega⟩
        refine ⟨_, Or.inl ⟨nI i, nI (i + 1), rfl, ?_⟩⟩
        rw [f_X3_judge_L9]
        by_cases cR : R ≤ i + 1
        · simp (disch := omega) only [↓reduceIte, ra_lit, ra_nf_ap, ra_st_lo, nI_add, nI_clamp, nI_ltI, nI_leI, nI_eq, Option.bind_some, if_true, if_false, not_false_eq_true, not_true_eq_false, ra_ltT, ra_ltF, ra_leT, ra_leF, ra_eqT, ra_eqF, or_false, false_or, or_true, true_or, and_true, true_and, and_false, false_and, hM]
        · simp (disch := omega) only [↓reduceIte, ra_lit, ra_nf_ap, ra_st_lo, nI_add, nI_clamp, nI_ltI, nI_leI, nI_eq, Option.bind_some, if_true, if_false, not_false_eq_true, not_true_eq_false, ra_ltT, ra_ltF, ra_leT, ra_leF, ra_eqT, ra_eqF, or_false, false_or, or_true, true_or, and_true, true_and, and_false, false_and, hM]
    · by_cases e7 : ρ i = 7
      · have em : ra_mv γ κ τ (ρ i) = ra_wt γ 5 := by
          unfold ra_mv
          rw [if_neg c7, if_pos e7]
        rw [em] at hmv ⊢
        have co : (ra_wt γ 5) 3 < (ra_wt γ 5) 0 := ho
        simp (disch := omega) only [↓reduceIte, ra_lit, ra_nf_ap, ra_st_lo, nI_add, nI_clamp, nI_ltI, nI_leI, nI_eq, Option.bind_some, if_true, if_false, not_false_eq_true, not_true_eq_false, ra_ltT, ra_ltF, ra_leT, ra_leF, ra_eqT, ra_eqF, or_false, false_or, or_true, true_or, and_true, true_and, and_false, false_and, if_pos co, e7, rr_waits]
        exact ih (i + 1) m m' _ (by omega) (by omega) (by omega) hmv co
      · have em : ra_mv γ κ τ (ρ i) = γ := by
          unfold ra_mv
          rw [if_neg c7, if_neg e7]
        rw [em]
        simp (disch := omega) only [↓reduceIte, ra_lit, ra_nf_ap, ra_st_lo, nI_add, nI_clamp, nI_ltI, nI_leI, nI_eq, Option.bind_some, if_true, if_false, not_false_eq_true, not_true_eq_false, ra_ltT, ra_ltF, ra_leT, ra_leF, ra_eqT, ra_eqF, or_false, false_or, or_true, true_or, and_true, true_and, and_false, false_and, if_pos ho]
        exact ih (i + 1) m m' _ (by omega) (by omega) (by omega) h ho
theorem tm_judge {γ κ τ : Nat → Nat} (G M ρ : Nat → Nat) (ta tb tc mi : Nat → Int32) {R : Nat} (hG : G 1 = R) (hM : M 2 = R) (hR : R ≤ 12) (hρ : ∀ j, ρ j ≤ 9) (h : ra_ok γ κ τ) :
    ∃ r a b c mi', f_X2_judge (ra_nf G) (ra_nf γ) (ra_nf κ) (ra_nf τ) ta tb tc (ra_nf ρ) = some (r, ra_nf (ra_un G 1 0), a, b, c) ∧ f_X3_judge (ra_nf M) (ra_st γ κ τ) mi (ra_nf ρ) = some (r, ra_nf (ra_un M 2 0), ra_st γ κ τ, mi') := by
  obtain ⟨h0, h1, h2⟩ := id h
  unfold f_X2_judge f_X3_judge f_X3_begins f_X3_ends
  rw [rc_isOff γ (by omega) (by omega)]
  by_cases ho : γ 3 < γ 0
  · obtain ⟨γ', h3⟩ := ra_juL (ra_nf γ) (ra_nf κ) (ra_nf τ) (ra_nf (ra_un G 1 0)) M ρ (ra_st γ κ τ) hM hR hρ R 0 rf_fu rf_fu γ (by omega) (by unfold rf_fu; omega) (by unfold rf_fu; omega) h ho
    simp (disch := omega) only [↓reduceIte, ra_lit, ra_nf_ap, ra_st_lo, nI_add, nI_clamp, nI_ltI, nI_leI, nI_eq, Option.bind_some, if_true, if_false, not_false_eq_true, not_true_eq_false, ra_ltT, ra_ltF, ra_leT, ra_leF, ra_eqT, ra_eqF, or_false, false_or, or_true, true_or, and_true, true_and, and_false, false_and, if_pos ho, rc_copy, rr_lays, hG, ra_upd]
    rcases h3 with ⟨r, y, e1, e2⟩ | ⟨x, y, e1, e2⟩
    · rw [e1, e2]
      exact ⟨r, _, _, _, _, rfl, rfl⟩
    · rw [e1, e2]
      exact ⟨_, _, _, _, _, rfl, rfl⟩
  · refine ⟨-nI 9, ta, tb, tc, ra_st γ κ τ, ?_, ?_⟩
    · simp (disch := omega) only [↓reduceIte, ra_lit, ra_nf_ap, ra_st_lo, nI_add, nI_clamp, nI_ltI, nI_leI, nI_eq, Option.bind_some, if_true, if_false, not_false_eq_true, not_true_eq_false, ra_ltT, ra_ltF, ra_leT, ra_leF, ra_eqT, ra_eqF, or_false, false_or, or_true, true_or, and_true, true_and, and_false, false_and, if_neg ho, ra_upd]
    · have e : ∃ y, f_X3_judge_L9 (ra_nf ρ) (ra_nf M) (ra_st γ κ τ) rf_fu (-9) 0 (ra_st γ κ τ) = some (-9, y, ra_st γ κ τ) := by
        obtain ⟨m, hm⟩ : ∃ q, rf_fu = q + 1 := ⟨19999, rfl⟩
        rw [hm, f_X3_judge_L9]
        have e9 : ¬ (0 : Int32) ≤ -9 := by decide
        have eoffr := rr_isOff M γ κ τ (by omega) (by omega)
        by_cases cR : R ≤ 0
        · rw [if_pos (show ra_nf M 2 ≤ 0 by rw [ra_nf_ap, hM]; exact nI_le (b := 0) cR (by decide))]
          exact ⟨_, rfl⟩
        · rw [if_neg (show ¬ ra_nf M 2 ≤ 0 by rw [ra_nf_ap, hM]; exact nI_nle (by omega) (by omega)), if_neg e9, eoffr, if_neg ho, Option.bind_some, if_neg (by decide)]
          exact ⟨_, rfl⟩
      obtain ⟨y, e⟩ := e
      simp only [rr_lays, Option.bind_some, e]
      simp (disch := omega) only [↓reduceIte, ra_lit, ra_nf_ap, ra_st_lo, nI_add, nI_clamp, nI_ltI, nI_leI, nI_eq, Option.bind_some, if_true, if_false, not_false_eq_true, not_true_eq_false, ra_ltT, ra_ltF, ra_leT, ra_leF, ra_eqT, ra_eqF, or_false, false_or, or_true, true_or, and_true, true_and, and_false, false_and, ra_upd]
theorem ra_unun (f : Nat → Nat) (k a b : Nat) : ra_un (ra_un f k a) k b = ra_un f k b := by
  funext j
  unfold ra_un
  split <;> rfl
theorem ra_drw (G M : Nat → Nat) (hGM : nI (G 3) = nI (M 6)) {m : Nat} (hm0 : 0 < m) (hm : m < 2 ^ 31) :
    ∃ s v, v < m ∧ f_X2_draw (ra_nf G) (nI m) = some (nI v, ra_nf (ra_un G 3 s)) ∧ f_X3_drawn (ra_nf M) (nI m) = some (nI v, ra_nf (ra_un M 6 s)) := by
  obtain ⟨s, hs, es⟩ := ra_int (nI (M 6) * 1664525 + 1013904223)
  obtain ⟨j, hj, ej⟩ := pk_andE (nI s) (m := 2147483647) 31 (by decide)
  have e0 : ¬ nI m ≤ 0 := nI_nle hm0 hm
  have e1 : ¬ nI m = 0 := nI_ne0 hm0 hm
  have e2 : rf_rem ((nI s &&& 2147483647) / 256) (nI m) = nI (j / 256 % m) := by
    rw [ej, show (nI j / 256 : Int32) = nI (j / 256) from pk_div (d := 256) hj (by decide) (by decide)]
    exact pk_rem (by omega) hm0 hm
  refine ⟨s, j / 256 % m, Nat.mod_lt _ hm0, ?_, ?_⟩
  · unfold f_X2_draw
    rw [ra_nf_ap, hGM, es]
    simp only [Option.bind_some, if_neg e0, if_pos e1, e2, ra_upd]
  · unfold f_X3_drawn
    rw [ra_nf_ap, es]
    simp only [Option.bind_some, if_pos e1, e2, ra_upd]
theorem ra_evL {κ τ : Nat → Nat} (na nb nc : Nat → Int32) (q1 q2 q3 q4 : Int32) (mi rf : Nat → Int32) : ∀ (d i m m' : Nat) (G M γ : Nat → Nat), i + d = 12 → d < m → d < m' → ra_ok γ κ τ → nI (G 3) = nI (M 6) →
    ∃ x y s γ', f_X2_eveningHarm_L34 na nb nc (ra_nf κ) (ra_nf τ) m (nI i) (ra_nf G) (ra_nf γ) = some (x, ra_nf (ra_un G 3 s), ra_nf γ') ∧ f_X3_lots_L72 q1 q2 q3 q4 mi rf m' (nI i) (ra_nf M) (ra_st γ κ τ) = some (y, ra_nf (ra_un M 6 s), ra_st γ' κ τ) := by
  intro d
  induction d with
  | zero =>
    intro i m m' G M γ hi hm hm' h hGM
    obtain ⟨m, rfl⟩ : ∃ q, m = q + 1 := ⟨m - 1, by omega⟩
    obtain ⟨m', rfl⟩ : ∃ q, m' = q + 1 := ⟨m' - 1, by omega⟩
    obtain rfl : i = 12 := by omega
    obtain ⟨s, hs, es⟩ := ra_int (nI (G 3))
    have eG : ra_nf (ra_un G 3 s) = ra_nf G := by
      rw [← ra_upd, ← es]
      funext j
      unfold upd
      split
      · rename_i e
        rw [e]
        rfl
      · rfl
    have eM : ra_nf (ra_un M 6 s) = ra_nf M := by
      rw [← ra_upd, ← es, hGM]
      funext j
      unfold upd
      split
      · rename_i e
        rw [e]
        rfl
      · rfl
    refine ⟨nI 12, nI 12, s, γ, ?_, ?_⟩
    · rw [f_X2_eveningHarm_L34, if_pos (by decide), eG]
    · rw [f_X3_lots_L72, if_pos (by decide), eM]
  | succ d ih =>
    intro i m m' G M γ hi hm hm' h hGM
    obtain ⟨m, rfl⟩ : ∃ q, m = q + 1 := ⟨m - 1, by omega⟩
    obtain ⟨m', rfl⟩ : ∃ q, m' = q + 1 := ⟨m' - 1, by omega⟩
    obtain ⟨h0, h1, h2⟩ := id h
    have c12 : ¬ (12 : Int32) ≤ nI i := nI_ge (b := 12) (by omega) (by decide)
    rw [f_X2_eveningHarm_L34, f_X3_lots_L72, if_neg c12, if_neg c12, rc_isOff γ (by omega) (by omega), rr_isOff M γ κ τ (by omega) (by omega)]
    by_cases ho : γ 3 < γ 0
    · obtain ⟨s, v, hv, e1, e2⟩ := ra_drw G M hGM (m := 6) (by decide) (by decide)
      have e1 : f_X2_draw (ra_nf G) 6 = _ := e1
      have e2 : f_X3_drawn (ra_nf M) 6 = _ := e2
      rw [if_pos ho, Option.bind_some, Option.bind_some, if_pos (show nI 0 = 0 from rfl), if_pos (show nI 0 = 0 from rfl), e1, e2]
      simp only [Option.bind_some]
      rw [rc_attempt h (k := v) (by omega) ho, rr_tried h (k := v) (by omega) ho]
      simp only [Option.bind_some]
      rw [nI_1]
      obtain ⟨x, y, s2, γ', e3, e4⟩ := ih (i + 1) m m' (ra_un G 3 s) (ra_un M 6 s) (ra_tr γ κ τ v) (by omega) (by omega) (by omega) (ra_tr_ok h ho) rfl
      rw [ra_unun] at e3 e4
      exact ⟨x, y, s2, γ', e3, e4⟩
    · obtain ⟨s, hs, es⟩ := ra_int (nI (G 3))
      have eG : ra_nf (ra_un G 3 s) = ra_nf G := by
        rw [← ra_upd, ← es]
        funext j
        unfold upd
        split
        · rename_i e
          rw [e]
          rfl
        · rfl
      have eM : ra_nf (ra_un M 6 s) = ra_nf M := by
        rw [← ra_upd, ← es, hGM]
        funext j
        unfold upd
        split
        · rename_i e
          rw [e]
          rfl
        · rfl
      refine ⟨nI i, nI i, s, γ, ?_, ?_⟩
      · rw [if_neg ho, Option.bind_some, if_neg (by decide), eG]
      · rw [if_neg ho, Option.bind_some, if_neg (by decide), eM]
theorem ra_loL {γ κ τ : Nat → Nat} (h : ra_ok γ κ τ) (p2 : Int32) (rc rr : Nat → Int32) {N : Nat} (hN : N ≤ 20) : ∀ (d i m m' : Nat) (G M : Nat → Nat) (x : Int32) (ta tb tc s0 : Nat → Int32), i + d = N → d < m → d < m' → nI (G 3) = nI (M 6) →
    ∃ r z1 z2 s a b c s', f_X2_lots_L35 (ra_nf γ) (ra_nf κ) (ra_nf τ) (nI N) p2 rc m x (nI i) (ra_nf G) ta tb tc = some (r, z1, ra_nf (ra_un G 3 s), a, b, c) ∧ f_X3_lots_L39 (nI N) p2 (ra_st γ κ τ) rr m' x (nI i) (ra_nf M) s0 = some (r, z2, ra_nf (ra_un M 6 s), s') := by
  intro d
  induction d with
  | zero =>
    intro i m m' G M x ta tb tc s0 hi hm hm' hGM
    obtain ⟨m, rfl⟩ : ∃ q, m = q + 1 := ⟨m - 1, by omega⟩
    obtain ⟨m', rfl⟩ : ∃ q, m' = q + 1 := ⟨m' - 1, by omega⟩
    obtain rfl : i = N := by omega
    obtain ⟨s, hs, es⟩ := ra_int (nI (G 3))
    have eG : ra_nf (ra_un G 3 s) = ra_nf G := by
      rw [← ra_upd, ← es]
      funext j
      unfold upd
      split
      · rename_i e
        rw [e]
        rfl
      · rfl
    have eM : ra_nf (ra_un M 6 s) = ra_nf M := by
      rw [← ra_upd, ← es, hGM]
      funext j
      unfold upd
      split
      · rename_i e
        rw [e]
        rfl
      · rfl
    refine ⟨x, nI i, nI i, s, ta, tb, tc, s0, ?_, ?_⟩
    · rw [f_X2_lots_L35, if_pos (nI_le (Nat.le_refl _) (by omega)), eG]
    · rw [f_X3_lots_L39, if_pos (nI_le (Nat.le_refl _) (by omega)), eM]
  | succ d ih =>
    intro i m m' G M x ta tb tc s0 hi hm hm' hGM
    obtain ⟨m, rfl⟩ : ∃ q, m = q + 1 := ⟨m - 1, by omega⟩
    obtain ⟨m', rfl⟩ : ∃ q, m' = q + 1 := ⟨m' - 1, by omega⟩
    obtain ⟨h0, h1, h2, h3, h4, h5, h6, h7, h8, h9, h10, h11⟩ := id h
    have cN : ¬ nI N ≤ nI i := nI_ge (by omega) (by omega)
    obtain ⟨s, v, hv, e1, e2⟩ := ra_drw G M hGM (m := 31) (by decide) (by decide)
    have e1 : f_X2_draw (ra_nf G) 31 = _ := e1
    have e2 : f_X3_drawn (ra_nf M) 31 = _ := e2
    have hok : ra_ok (ra_un (ra_un γ 9 0) 4 v) κ τ := ⟨h0, h1, h2, h3, h4, h5, by show v ≤ 30; omega, h7, h8, h9, h10, h11⟩
    obtain ⟨x', y', s2, γ', e3, e4⟩ := ra_evL (κ := κ) (τ := τ) (ra_nf γ) (ra_nf κ) (ra_nf τ) (nI N) p2 x (nI i) (ra_st γ κ τ) rr 12 0 rf_fu rf_fu (ra_un G 3 s) (ra_un M 6 s) (ra_un (ra_un γ 9 0) 4 v) rfl (by unfold rf_fu; omega) (by unfold rf_fu; omega) hok rfl
    rw [ra_unun] at e3 e4
    have eu : upd (upd (ra_st γ κ τ) 4 (nI v)) 9 0 = ra_st (ra_un (ra_un γ 9 0) 4 v) κ τ := by
      rw [ra_st_u _ _ _ (by decide), show (0 : Int32) = nI 0 from rfl, ra_st_u _ _ _ (by decide)]
      congr 1
      funext j
      unfold ra_un
      by_cases e4 : j = 4
      · subst e4; rfl
      · by_cases e9 : j = 9
        · subst e9; rfl
        · simp [e4, e9]
    have eu2 : upd (upd (ra_nf γ) 9 0) 4 (nI v) = ra_nf (ra_un (ra_un γ 9 0) 4 v) := by
      rw [show (0 : Int32) = nI 0 from rfl, ra_upd, ra_upd]
    obtain ⟨r, z1, z2, s3, a, b, c, s', e5, e6⟩ := ih (i + 1) m m' (ra_un G 3 s2) (ra_un M 6 s2) (x + nI (γ' 9)) (ra_nf γ') (ra_nf κ) (ra_nf τ) (ra_st γ' κ τ) (by omega) (by omega) (by omega) rfl
    rw [ra_unun] at e5 e6
    refine ⟨r, z1, z2, s3, a, b, c, s', ?_, ?_⟩
    · rw [f_X2_lots_L35, if_neg cN]
      unfold f_X2_eveningHarm
      rw [rc_copy, Option.bind_some, e1, Option.bind_some]
      simp only [eu2]
      have e3 : f_X2_eveningHarm_L34 (ra_nf γ) (ra_nf κ) (ra_nf τ) (ra_nf κ) (ra_nf τ) rf_fu 0 (ra_nf (ra_un G 3 s)) (ra_nf (ra_un (ra_un γ 9 0) 4 v)) = _ := e3
      rw [e3]
      simp only [Option.bind_some]
      rw [nI_1]
      exact e5
    · rw [f_X3_lots_L39, if_neg cN]
      unfold f_X3_ends
      rw [rr_lays, Option.bind_some, Option.bind_some, e2]
      simp only [Option.bind_some, eu]
      have e4 : f_X3_lots_L72 (nI N) p2 x (nI i) (ra_st γ κ τ) rr rf_fu 0 (ra_nf (ra_un M 6 s)) (ra_st (ra_un (ra_un γ 9 0) 4 v) κ τ) = _ := e4
      rw [e4]
      simp only [Option.bind_some]
      rw [nI_1, ra_st_lo _ _ _ (by decide)]
      exact e6
theorem tm_lots {γ κ τ : Nat → Nat} (G M φ : Nat → Nat) (ta tb tc mi : Nat → Int32) (h : ra_ok γ κ τ) (p1 p2 : Int32) :
    ∃ r s a b c s' mi' φ', f_X2_lots (ra_nf G) (ra_nf γ) (ra_nf κ) (ra_nf τ) ta tb tc (ra_nf φ) p1 p2 = some (r, ra_nf (ra_un G 3 s), a, b, c, ra_nf φ') ∧ f_X3_lots (ra_nf M) (ra_st γ κ τ) mi (ra_nf φ) p1 p2 = some (r, ra_nf (ra_un M 6 s'), ra_st γ κ τ, mi', ra_nf φ') := by
  have eG : ∃ s, ra_nf (ra_un G 3 s) = ra_nf G := by
    refine ⟨G 3, ?_⟩
    congr 1
    funext j
    unfold ra_un
    split
    · rename_i e
      rw [e]
    · rfl
  have eM : ∃ s, ra_nf (ra_un M 6 s) = ra_nf M := by
    refine ⟨M 6, ?_⟩
    congr 1
    funext j
    unfold ra_un
    split
    · rename_i e
      rw [e]
    · rfl
  obtain ⟨sG, eG⟩ := eG
  obtain ⟨sM, eM⟩ := eM
  unfold f_X2_lots f_X3_lots
  by_cases hp : p1 < nI 0
  · refine ⟨-nI 4, sG, ta, tb, tc, sM, mi, ra_rf φ 4, ?_, ?_⟩
    · rw [eG]
      simp (disch := omega) only [↓reduceIte, ra_lit, ra_nf_ap, ra_st_lo, nI_add, nI_clamp, nI_ltI, nI_leI, nI_eq, Option.bind_some, if_true, if_false, not_false_eq_true, not_true_eq_false, ra_ltT, ra_ltF, ra_leT, ra_leF, ra_eqT, ra_eqF, or_false, false_or, or_true, true_or, and_true, true_and, and_false, false_and, ra_nLe hp, rc_refuse]
    · rw [eM]
      simp (disch := omega) only [↓reduceIte, ra_lit, ra_nf_ap, ra_st_lo, nI_add, nI_clamp, nI_ltI, nI_leI, nI_eq, Option.bind_some, if_true, if_false, not_false_eq_true, not_true_eq_false, ra_ltT, ra_ltF, ra_leT, ra_leF, ra_eqT, ra_eqF, or_false, false_or, or_true, true_or, and_true, true_and, and_false, false_and, ra_nLe hp, rr_no]
  · obtain ⟨N, hN, rfl⟩ := nI_of (x := p1) hp
    by_cases c1 : N < 1
    · refine ⟨-nI 4, sG, ta, tb, tc, sM, mi, ra_rf φ 4, ?_, ?_⟩
      · rw [eG]
        simp (disch := omega) only [↓reduceIte, ra_lit, ra_nf_ap, ra_st_lo, nI_add, nI_clamp, nI_ltI, nI_leI, nI_eq, Option.bind_some, if_true, if_false, not_false_eq_true, not_true_eq_false, ra_ltT, ra_ltF, ra_leT, ra_leF, ra_eqT, ra_eqF, or_false, false_or, or_true, true_or, and_true, true_and, and_false, false_and, rc_refuse]
      · rw [eM]
        simp (disch := omega) only [↓reduceIte, ra_lit, ra_nf_ap, ra_st_lo, nI_add, nI_clamp, nI_ltI, nI_leI, nI_eq, Option.bind_some, if_true, if_false, not_false_eq_true, not_true_eq_false, ra_ltT, ra_ltF, ra_leT, ra_leF, ra_eqT, ra_eqF, or_false, false_or, or_true, true_or, and_true, true_and, and_false, false_and, rr_no]
    by_cases c20 : 20 < N
    · refine ⟨-nI 6, sG, ta, tb, tc, sM, mi, ra_rf φ 6, ?_, ?_⟩
      · rw [eG]
        simp (disch := omega) only [↓reduceIte, ra_lit, ra_nf_ap, ra_st_lo, nI_add, nI_clamp, nI_ltI, nI_leI, nI_eq, Option.bind_some, if_true, if_false, not_false_eq_true, not_true_eq_false, ra_ltT, ra_ltF, ra_leT, ra_leF, ra_eqT, ra_eqF, or_false, false_or, or_true, true_or, and_true, true_and, and_false, false_and, rc_refuse]
      · rw [eM]
        simp (disch := omega) only [↓reduceIte, ra_lit, ra_nf_ap, ra_st_lo, nI_add, nI_clamp, nI_ltI, nI_leI, nI_eq, Option.bind_some, if_true, if_false, not_false_eq_true, not_true_eq_false, ra_ltT, ra_ltF, ra_leT, ra_leF, ra_eqT, ra_eqF, or_false, false_or, or_true, true_or, and_true, true_and, and_false, false_and, rr_no]
    obtain ⟨z, hz, ez⟩ := ra_int p2
    obtain ⟨r, z1, z2, s, a, b, c, s', e1, e2⟩ := ra_loL h p2 (ra_nf φ) (ra_nf φ) (N := N) (by omega) N 0 rf_fu rf_fu (ra_un G 3 z) (ra_un M 6 z) (nI 0) ta tb tc (ra_st γ κ τ) (by omega) (by unfold rf_fu; omega) (by unfold rf_fu; omega) rfl
    rw [ra_unun] at e1 e2
    refine ⟨r, s, a, b, c, s, ra_st γ κ τ, φ, ?_, ?_⟩
    · have e3 : upd (ra_nf G) 3 p2 = ra_nf (ra_un G 3 z) := by rw [ez, ra_upd]
      simp (disch := omega) only [↓reduceIte, ra_lit, ra_nf_ap, ra_st_lo, nI_add, nI_clamp, nI_ltI, nI_leI, nI_eq, Option.bind_some, if_true, if_false, not_false_eq_true, not_true_eq_false, ra_ltT, ra_ltF, ra_leT, ra_leF, ra_eqT, ra_eqF, or_false, false_or, or_true, true_or, and_true, true_and, and_false, false_and, e3, e1]
    · have e3 : upd (ra_nf M) 6 p2 = ra_nf (ra_un M 6 z) := by rw [ez, ra_upd]
      unfold f_X3_begins f_X3_ends
      simp (disch := omega) only [↓reduceIte, ra_lit, ra_nf_ap, ra_st_lo, nI_add, nI_clamp, nI_ltI, nI_leI, nI_eq, Option.bind_some, if_true, if_false, not_false_eq_true, not_true_eq_false, ra_ltT, ra_ltF, ra_leT, ra_leF, ra_eqT, ra_eqF, or_false, false_or, or_true, true_or, and_true, true_and, and_false, false_and, e3, rr_lays, e2]
end RALoops
