/-! what each call of the class answers, from a finger as it can be -/
section QACalls
variable {γ κ τ : Nat → Nat}
theorem qa_ref (G φ : Nat → Nat) (h : ra_ok γ κ τ) {k : Nat} (hk : k < 7) (ho : γ 3 < γ 0) : f_X2_tryRefusal (ra_nf G) (ra_nf γ) (ra_nf φ) (nI k) = some (nI 0, ra_nf φ) := by
  obtain ⟨h0, h1, h2⟩ := h
  unfold f_X2_tryRefusal
  rw [rc_isTry (by omega), if_pos hk, rc_isOff γ (by omega) (by omega)]
  simp only [Option.bind_some, if_pos ho]
  rfl
theorem qa_refO (G φ : Nat → Nat) (h : ra_ok γ κ τ) {k : Nat} (hk : k < 7) (ho : ¬ γ 3 < γ 0) : f_X2_tryRefusal (ra_nf G) (ra_nf γ) (ra_nf φ) (nI k) = some (-nI 3, ra_nf (ra_rf φ 3)) := by
  obtain ⟨h0, h1, h2⟩ := h
  unfold f_X2_tryRefusal
  rw [rc_isTry (by omega), if_pos hk, rc_isOff γ (by omega) (by omega)]
  simp only [Option.bind_some, if_neg ho]
  rw [if_neg (by decide), if_neg (by decide), show (-3 : Int32) = -nI 3 from rfl, rc_refuse _ _ (by decide)]
  rfl
theorem qa_refB (G φ γ : Nat → Nat) {k : Nat} (hk : 7 ≤ k) (hk2 : k < 1000) : f_X2_tryRefusal (ra_nf G) (ra_nf γ) (ra_nf φ) (nI k) = some (-nI 2, ra_nf (ra_rf φ 2)) := by
  unfold f_X2_tryRefusal
  rw [rc_isTry hk2, if_neg (by omega)]
  simp (disch := omega) only [↓reduceIte, ra_lit, ra_nf_ap, nI_add, nI_clamp, nI_ltI, nI_leI, nI_eq, Option.bind_some, if_true, if_false, not_false_eq_true, not_true_eq_false, ra_ltT, ra_ltF, ra_leT, ra_leF, ra_eqT, ra_eqF, or_false, false_or, or_true, true_or, and_true, true_and, and_false, false_and, rc_refuse]
theorem qa_would (G φ : Nat → Nat) (h : ra_ok γ κ τ) {k : Nat} (hk : k < 7) (ho : γ 3 < γ 0) : f_X2_would (ra_nf G) (ra_nf γ) (ra_nf κ) (ra_nf τ) (ra_nf φ) (nI k) = some (nI (if ra_ov γ κ τ k then 1 else 0), ra_nf φ) := by
  unfold f_X2_would
  rw [qa_ref G φ h hk ho]
  simp (disch := omega) only [↓reduceIte, ra_lit, ra_nf_ap, nI_add, nI_clamp, nI_ltI, nI_leI, nI_eq, Option.bind_some, if_true, if_false, not_false_eq_true, not_true_eq_false, ra_ltT, ra_ltF, ra_leT, ra_leF, ra_eqT, ra_eqF, or_false, false_or, or_true, true_or, and_true, true_and, and_false, false_and, rc_over h]
  split <;> rfl
theorem qa_wouldO (G φ : Nat → Nat) (h : ra_ok γ κ τ) {k : Nat} (hk : k < 7) (ho : ¬ γ 3 < γ 0) : f_X2_would (ra_nf G) (ra_nf γ) (ra_nf κ) (ra_nf τ) (ra_nf φ) (nI k) = some (-nI 3, ra_nf (ra_rf φ 3)) := by
  unfold f_X2_would
  rw [qa_refO G φ h hk ho]
  simp (disch := omega) only [↓reduceIte, ra_lit, ra_nf_ap, nI_add, nI_clamp, nI_ltI, nI_leI, nI_eq, Option.bind_some, if_true, if_false, not_false_eq_true, not_true_eq_false, ra_ltT, ra_ltF, ra_leT, ra_leF, ra_eqT, ra_eqF, or_false, false_or, or_true, true_or, and_true, true_and, and_false, false_and, ra_nzF (c := 3) (Or.inr rfl)]
theorem qa_tries (G φ : Nat → Nat) (h : ra_ok γ κ τ) {k : Nat} (hk : k < 7) (ho : γ 3 < γ 0) (hmm : γ 8 + ra_mi k ≤ 999) : f_X2_tries (ra_nf G) (ra_nf γ) (ra_nf κ) (ra_nf τ) (ra_nf φ) (nI k) = some (nI (if ra_ov γ κ τ k then 1 else 0), ra_nf (ra_tr γ κ τ k), ra_nf φ) := by
  have hmi := ra_mi_le k
  unfold f_X2_tries
  rw [qa_ref G φ h hk ho]
  simp (disch := omega) only [↓reduceIte, ra_lit, ra_nf_ap, nI_add, nI_clamp, nI_ltI, nI_leI, nI_eq, Option.bind_some, if_true, if_false, not_false_eq_true, not_true_eq_false, ra_ltT, ra_ltF, ra_leT, ra_leF, ra_eqT, ra_eqF, or_false, false_or, or_true, true_or, and_true, true_and, and_false, false_and, ra_at, ra_a2, rc_hasMin, if_pos hmm, rc_attempt h hk ho]
  split <;> rfl
theorem qa_triesM (G φ : Nat → Nat) (h : ra_ok γ κ τ) {k : Nat} (hk : k < 7) (ho : γ 3 < γ 0) (hm : γ 8 ≤ 999) (hmm : ¬ γ 8 + ra_mi k ≤ 999) : f_X2_tries (ra_nf G) (ra_nf γ) (ra_nf κ) (ra_nf τ) (ra_nf φ) (nI k) = some (-nI 6, ra_nf γ, ra_nf (ra_rf φ 6)) := by
  have hmi := ra_mi_le k
  unfold f_X2_tries
  rw [qa_ref G φ h hk ho]
  simp (disch := omega) only [↓reduceIte, ra_lit, ra_nf_ap, nI_add, nI_clamp, nI_ltI, nI_leI, nI_eq, Option.bind_some, if_true, if_false, not_false_eq_true, not_true_eq_false, ra_ltT, ra_ltF, ra_leT, ra_leF, ra_eqT, ra_eqF, or_false, false_or, or_true, true_or, and_true, true_and, and_false, false_and, ra_at, ra_a2, rc_hasMin, if_neg hmm, rc_refuse]
theorem qa_triesO (G φ : Nat → Nat) (h : ra_ok γ κ τ) {k : Nat} (hk : k < 7) (ho : ¬ γ 3 < γ 0) : f_X2_tries (ra_nf G) (ra_nf γ) (ra_nf κ) (ra_nf τ) (ra_nf φ) (nI k) = some (-nI 3, ra_nf γ, ra_nf (ra_rf φ 3)) := by
  unfold f_X2_tries
  rw [qa_refO G φ h hk ho]
  simp (disch := omega) only [↓reduceIte, ra_lit, ra_nf_ap, nI_add, nI_clamp, nI_ltI, nI_leI, nI_eq, Option.bind_some, if_true, if_false, not_false_eq_true, not_true_eq_false, ra_ltT, ra_ltF, ra_leT, ra_leF, ra_eqT, ra_eqF, or_false, false_or, or_true, true_or, and_true, true_and, and_false, false_and, ra_nzF (c := 3) (Or.inr rfl)]
theorem qa_triesB (G φ γ κ τ : Nat → Nat) {k : Nat} (hk : 7 ≤ k) (hk2 : k < 1000) : f_X2_tries (ra_nf G) (ra_nf γ) (ra_nf κ) (ra_nf τ) (ra_nf φ) (nI k) = some (-nI 2, ra_nf γ, ra_nf (ra_rf φ 2)) := by
  unfold f_X2_tries
  rw [qa_refB G φ γ hk hk2]
  simp (disch := omega) only [↓reduceIte, ra_lit, ra_nf_ap, nI_add, nI_clamp, nI_ltI, nI_leI, nI_eq, Option.bind_some, if_true, if_false, not_false_eq_true, not_true_eq_false, ra_ltT, ra_ltF, ra_leT, ra_leF, ra_eqT, ra_eqF, or_false, false_or, or_true, true_or, and_true, true_and, and_false, false_and, ra_nzF (c := 2) (Or.inl rfl)]
theorem qa_triesE (G φ : Nat → Nat) (h : ra_ok γ κ τ) (hm : γ 8 ≤ 999) {k : Nat} (hk : k < 7) : ∃ r γ' φ', f_X2_tries (ra_nf G) (ra_nf γ) (ra_nf κ) (ra_nf τ) (ra_nf φ) (nI k) = some (r, ra_nf γ', ra_nf φ') := by
  by_cases ho : γ 3 < γ 0
  · by_cases hmm : γ 8 + ra_mi k ≤ 999
    · exact ⟨_, _, _, qa_tries G φ h hk ho hmm⟩
    · exact ⟨_, _, _, qa_triesM G φ h hk ho hm hmm⟩
  · exact ⟨_, _, _, qa_triesO G φ h hk ho⟩
theorem qa_kind1 (G φ γ : Nat → Nat) {k : Nat} (hk : k < 7) : f_X2_kind (ra_nf G) (ra_nf γ) (ra_nf φ) (nI k) 1 = some (nI (ra_mi k), ra_nf φ) := by
  unfold f_X2_kind
  rw [rc_isTry (by omega), if_pos hk]
  simp (disch := omega) only [↓reduceIte, ra_lit, ra_nf_ap, nI_add, nI_clamp, nI_ltI, nI_leI, nI_eq, Option.bind_some, if_true, if_false, not_false_eq_true, not_true_eq_false, ra_ltT, ra_ltF, ra_leT, ra_leF, ra_eqT, ra_eqF, or_false, false_or, or_true, true_or, and_true, true_and, and_false, false_and, ra_at, ra_a2]
theorem qa_kind3 (G φ γ : Nat → Nat) {k : Nat} (hk : k < 7) : f_X2_kind (ra_nf G) (ra_nf γ) (ra_nf φ) (nI k) 3 = some (nI (ra_hm k), ra_nf φ) := by
  unfold f_X2_kind
  rw [rc_isTry (by omega), if_pos hk]
  simp (disch := omega) only [↓reduceIte, ra_lit, ra_nf_ap, nI_add, nI_clamp, nI_ltI, nI_leI, nI_eq, Option.bind_some, if_true, if_false, not_false_eq_true, not_true_eq_false, ra_ltT, ra_ltF, ra_leT, ra_leF, ra_eqT, ra_eqF, or_false, false_or, or_true, true_or, and_true, true_and, and_false, false_and, ra_at, ra_a4]
theorem qa_kindB (G φ γ : Nat → Nat) : f_X2_kind (ra_nf G) (ra_nf γ) (ra_nf φ) 7 0 = some (-nI 2, ra_nf (ra_rf φ 2)) := by
  unfold f_X2_kind
  rw [show f_X2_isTry 7 = some (nI 0) from rfl]
  simp (disch := omega) only [↓reduceIte, ra_lit, ra_nf_ap, nI_add, nI_clamp, nI_ltI, nI_leI, nI_eq, Option.bind_some, if_true, if_false, not_false_eq_true, not_true_eq_false, ra_ltT, ra_ltF, ra_leT, ra_leF, ra_eqT, ra_eqF, or_false, false_or, or_true, true_or, and_true, true_and, and_false, false_and, rc_refuse]
theorem qa_pause (G φ : Nat → Nat) (h : ra_ok γ κ τ) {m : Nat} (h1 : 1 ≤ m) (h60 : m ≤ 60) (hmm : γ 8 + m ≤ 999) : f_X2_pause (ra_nf G) (ra_nf γ) (ra_nf φ) (nI m) = some (nI (γ 8 + m), ra_nf (ra_wt γ m), ra_nf φ) := by
  obtain ⟨h0, h1', h2, h3, h4, h5, h6, h7, h8, h9, h10, h11⟩ := h
  unfold f_X2_pause
  simp (disch := omega) only [↓reduceIte, ra_lit, ra_nf_ap, nI_add, nI_clamp, nI_ltI, nI_leI, nI_eq, Option.bind_some, if_true, if_false, not_false_eq_true, not_true_eq_false, ra_ltT, ra_ltF, ra_leT, ra_leF, ra_eqT, ra_eqF, or_false, false_or, or_true, true_or, and_true, true_and, and_false, false_and, rc_hasMin, if_pos hmm, rc_rest]
  rfl
theorem qa_pauseM (G φ γ : Nat → Nat) (hm : γ 8 ≤ 999) {m : Nat} (h1 : 1 ≤ m) (h60 : m ≤ 60) (hmm : ¬ γ 8 + m ≤ 999) : f_X2_pause (ra_nf G) (ra_nf γ) (ra_nf φ) (nI m) = some (-nI 6, ra_nf γ, ra_nf (ra_rf φ 6)) := by
  unfold f_X2_pause
  simp (disch := omega) only [↓reduceIte, ra_lit, ra_nf_ap, nI_add, nI_clamp, nI_ltI, nI_leI, nI_eq, Option.bind_some, if_true, if_false, not_false_eq_true, not_true_eq_false, ra_ltT, ra_ltF, ra_leT, ra_leF, ra_eqT, ra_eqF, or_false, false_or, or_true, true_or, and_true, true_and, and_false, false_and, rc_hasMin, if_neg hmm, rc_refuse]
theorem qa_pause0 (G φ γ : Nat → Nat) : f_X2_pause (ra_nf G) (ra_nf γ) (ra_nf φ) 0 = some (-nI 4, ra_nf γ, ra_nf (ra_rf φ 4)) := by
  unfold f_X2_pause
  simp (disch := omega) only [↓reduceIte, ra_lit, ra_nf_ap, nI_add, nI_clamp, nI_ltI, nI_leI, nI_eq, Option.bind_some, if_true, if_false, not_false_eq_true, not_true_eq_false, ra_ltT, ra_ltF, ra_leT, ra_leF, ra_eqT, ra_eqF, or_false, false_or, or_true, true_or, and_true, true_and, and_false, false_and, rc_refuse]
theorem qa_holds (G : Nat → Nat) (h : ra_ok γ κ τ) (ho : γ 3 < γ 0) : f_X2_holds (ra_nf G) (ra_nf γ) (ra_nf κ) (ra_nf τ) = some (nI (ra_tk (κ (γ 3)) (τ (γ 3)) (γ 4) (γ 5) (γ 7)) - nI (γ 1)) := by
  have h' := h
  obtain ⟨h0, h1, h2, h3, h4, h5, h6, h7, h8, h9, h10, h11⟩ := h
  unfold f_X2_holds
  rw [rc_isOff γ (by omega) (by omega)]
  simp (disch := omega) only [↓reduceIte, ra_lit, ra_nf_ap, nI_add, nI_clamp, nI_ltI, nI_leI, nI_eq, Option.bind_some, if_true, if_false, not_false_eq_true, not_true_eq_false, ra_ltT, ra_ltF, ra_leT, ra_leF, ra_eqT, ra_eqF, or_false, false_or, or_true, true_or, and_true, true_and, and_false, false_and, if_pos ho, rc_thickNow h']
theorem qa_holdsO (G : Nat → Nat) (h : ra_ok γ κ τ) (ho : ¬ γ 3 < γ 0) : f_X2_holds (ra_nf G) (ra_nf γ) (ra_nf κ) (ra_nf τ) = some (-9999) := by
  obtain ⟨h0, h1, h2⟩ := h
  unfold f_X2_holds
  rw [rc_isOff γ (by omega) (by omega), if_neg ho, Option.bind_some, if_neg (show ¬ nI 1 = 0 by decide)]
theorem qa_subLe {a b : Nat} (ha : a < 2 ^ 30) (hb : b < 2 ^ 30) : nI a - nI b ≤ 0 ↔ a ≤ b := by
  constructor
  · intro z
    by_cases c : a ≤ b
    · exact c
    · rw [pk_sub (by omega)] at z
      have := (nI_leI (a := a - b) (b := 0) (by omega) (by decide)).mp z
      omega
  · intro c
    by_cases e : a = b
    · subst e
      rw [pk_sub (Nat.le_refl _), Nat.sub_self]
      decide
    · have h1 : nI a - nI b < 0 := pk_sneg (by omega) (by omega)
      have h2 := Int32.lt_iff_toInt_lt.mp h1
      exact Int32.le_iff_toInt_le.mpr (by omega)
theorem qa_holds0 (h : ra_ok γ κ τ) : nI (ra_tk (κ (γ 3)) (τ (γ 3)) (γ 4) (γ 5) (γ 7)) - nI (γ 1) ≤ 0 ↔ ra_ov γ κ τ 0 := by
  obtain ⟨h0, h1, h2, h3, h4, h5, h6, h7, h8, h9, h10, h11⟩ := h
  have := h11 (γ 3)
  have ht := ra_tk_le (k := κ (γ 3)) (th := τ (γ 3)) (sw := γ 4) (co := γ 5) (he := γ 7) (by omega) (by omega) (by omega)
  rw [qa_subLe (by omega) (by omega)]
  show _ ↔ ra_tk (κ (γ 3)) (τ (γ 3)) (γ 4) (γ 5) (γ 7) ≤ γ 1 + 0
  rw [Nat.add_zero]
theorem qa_danger3 (G φ : Nat → Nat) (h : ra_ok γ κ τ) : ∃ r, f_X2_danger (ra_nf G) (ra_nf γ) (ra_nf φ) 3 = some (r, ra_nf φ) := by
  obtain ⟨h0, h1, h2, h3, h4, h5, h6, h7, h8, h9, h10, h11⟩ := h
  unfold f_X2_danger
  exact ⟨nI (min 99 (γ 6 + 3 * 5) - 9), by simp (disch := omega) only [↓reduceIte, ra_lit, ra_nf_ap, nI_add, nI_clamp, nI_ltI, nI_leI, nI_eq, Option.bind_some, if_true, if_false, not_false_eq_true, not_true_eq_false, ra_ltT, ra_ltF, ra_leT, ra_leF, ra_eqT, ra_eqF, or_false, false_or, or_true, true_or, and_true, true_and, and_false, false_and, pk_mul, ra_mnn, ra_mx0]⟩
theorem qa_dangerB (G φ γ : Nat → Nat) : f_X2_danger (ra_nf G) (ra_nf γ) (ra_nf φ) 10 = some (-nI 6, ra_nf (ra_rf φ 6)) := by
  unfold f_X2_danger
  simp (disch := omega) only [↓reduceIte, ra_lit, ra_nf_ap, nI_add, nI_clamp, nI_ltI, nI_leI, nI_eq, Option.bind_some, if_true, if_false, not_false_eq_true, not_true_eq_false, ra_ltT, ra_ltF, ra_leT, ra_leF, ra_eqT, ra_eqF, or_false, false_or, or_true, true_or, and_true, true_and, and_false, false_and, rc_refuse]
theorem qa_lots0 (G φ γ κ τ : Nat → Nat) (ta tb tc : Nat → Int32) : f_X2_lots (ra_nf G) (ra_nf γ) (ra_nf κ) (ra_nf τ) ta tb tc (ra_nf φ) 0 0 = some (-nI 4, ra_nf G, ta, tb, tc, ra_nf (ra_rf φ 4)) := by
  unfold f_X2_lots
  simp (disch := omega) only [↓reduceIte, ra_lit, ra_nf_ap, nI_add, nI_clamp, nI_ltI, nI_leI, nI_eq, Option.bind_some, if_true, if_false, not_false_eq_true, not_true_eq_false, ra_ltT, ra_ltF, ra_leT, ra_leF, ra_eqT, ra_eqF, or_false, false_or, or_true, true_or, and_true, true_and, and_false, false_and, rc_refuse]
theorem qa_part6 (G φ : Nat → Nat) (h : ra_ok γ κ τ) : f_X2_part (ra_nf G) (ra_nf γ) (ra_nf κ) (ra_nf τ) (ra_nf φ) 6 0 = some (-nI 1, ra_nf (ra_rf φ 1)) := by
  obtain ⟨h0, h1, h2⟩ := h
  unfold f_X2_part
  simp (disch := omega) only [↓reduceIte, ra_lit, ra_nf_ap, nI_add, nI_clamp, nI_ltI, nI_leI, nI_eq, Option.bind_some, if_true, if_false, not_false_eq_true, not_true_eq_false, ra_ltT, ra_ltF, ra_leT, ra_leF, ra_eqT, ra_eqF, or_false, false_or, or_true, true_or, and_true, true_and, and_false, false_and, rc_refuse]
theorem qa_part0 (G φ : Nat → Nat) (h : ra_ok γ κ τ) {j : Nat} (hj : j < γ 0) : f_X2_part (ra_nf G) (ra_nf γ) (ra_nf κ) (ra_nf τ) (ra_nf φ) (nI j) 0 = some (nI (κ j), ra_nf φ) := by
  obtain ⟨h0, h1, h2⟩ := h
  unfold f_X2_part
  simp (disch := omega) only [↓reduceIte, ra_lit, ra_nf_ap, nI_add, nI_clamp, nI_ltI, nI_leI, nI_eq, Option.bind_some, if_true, if_false, not_false_eq_true, not_true_eq_false, ra_ltT, ra_ltF, ra_leT, ra_leF, ra_eqT, ra_eqF, or_false, false_or, or_true, true_or, and_true, true_and, and_false, false_and, ra_at]
theorem qa_part2 (G φ : Nat → Nat) (h : ra_ok γ κ τ) {j : Nat} (hj : j < γ 0) : f_X2_part (ra_nf G) (ra_nf γ) (ra_nf κ) (ra_nf τ) (ra_nf φ) (nI j) 2 = some (nI (ra_tk (κ j) (τ j) (γ 4) (γ 5) (γ 7)), ra_nf φ) := by
  have h' := h
  obtain ⟨h0, h1, h2⟩ := h
  unfold f_X2_part
  simp (disch := omega) only [↓reduceIte, ra_lit, ra_nf_ap, nI_add, nI_clamp, nI_ltI, nI_leI, nI_eq, Option.bind_some, if_true, if_false, not_false_eq_true, not_true_eq_false, ra_ltT, ra_ltF, ra_leT, ra_leF, ra_eqT, ra_eqF, or_false, false_or, or_true, true_or, and_true, true_and, and_false, false_and, rc_thickNow h']
theorem qa_set0 (G φ γ : Nat → Nat) : f_X2_set (ra_nf G) (ra_nf γ) (ra_nf φ) 0 200 = some (nI (γ 1), ra_nf (ra_un γ 1 200), ra_nf φ) := by
  unfold f_X2_set
  simp (disch := omega) only [↓reduceIte, ra_lit, ra_nf_ap, nI_add, nI_clamp, nI_ltI, nI_leI, nI_eq, Option.bind_some, if_true, if_false, not_false_eq_true, not_true_eq_false, ra_ltT, ra_ltF, ra_leT, ra_leF, ra_eqT, ra_eqF, or_false, false_or, or_true, true_or, and_true, true_and, and_false, false_and, ra_at, ra_a00, ra_a10, f_X0_setting, f_X0_change, ra_upd]
theorem qa_set4 (G φ γ : Nat → Nat) : f_X2_set (ra_nf G) (ra_nf γ) (ra_nf φ) 4 9 = some (nI (γ 7), ra_nf (ra_un γ 7 9), ra_nf φ) := by
  unfold f_X2_set
  simp (disch := omega) only [↓reduceIte, ra_lit, ra_nf_ap, nI_add, nI_clamp, nI_ltI, nI_leI, nI_eq, Option.bind_some, if_true, if_false, not_false_eq_true, not_true_eq_false, ra_ltT, ra_ltF, ra_leT, ra_leF, ra_eqT, ra_eqF, or_false, false_or, or_true, true_or, and_true, true_and, and_false, false_and, ra_at, ra_a04, ra_a14, f_X0_setting, f_X0_change, ra_upd]
theorem qa_set2 (G φ γ : Nat → Nat) {v : Nat} (hv : v ≤ 30) : f_X2_set (ra_nf G) (ra_nf γ) (ra_nf φ) 2 (nI v) = some (nI (γ 4), ra_nf (ra_un γ 4 v), ra_nf φ) := by
  unfold f_X2_set
  simp (disch := omega) only [↓reduceIte, ra_lit, ra_nf_ap, nI_add, nI_clamp, nI_ltI, nI_leI, nI_eq, Option.bind_some, if_true, if_false, not_false_eq_true, not_true_eq_false, ra_ltT, ra_ltF, ra_leT, ra_leF, ra_eqT, ra_eqF, or_false, false_or, or_true, true_or, and_true, true_and, and_false, false_and, ra_at, ra_a02, ra_a12, f_X0_setting, f_X0_change, ra_upd]
theorem qa_set5 (G φ γ : Nat → Nat) : f_X2_set (ra_nf G) (ra_nf γ) (ra_nf φ) 5 0 = some (-nI 2, ra_nf γ, ra_nf (ra_rf φ 2)) := by
  unfold f_X2_set
  simp (disch := omega) only [↓reduceIte, ra_lit, ra_nf_ap, nI_add, nI_clamp, nI_ltI, nI_leI, nI_eq, Option.bind_some, if_true, if_false, not_false_eq_true, not_true_eq_false, ra_ltT, ra_ltF, ra_leT, ra_leF, ra_eqT, ra_eqF, or_false, false_or, or_true, true_or, and_true, true_and, and_false, false_and, rc_refuse]
theorem qa_back (G γ : Nat → Nat) : f_X2_back (ra_nf G) (ra_nf γ) = some (nI (γ 3), ra_nf (ra_un γ 3 0)) := by
  unfold f_X2_back
  simp (disch := omega) only [↓reduceIte, ra_lit, ra_nf_ap, nI_add, nI_clamp, nI_ltI, nI_leI, nI_eq, Option.bind_some, if_true, if_false, not_false_eq_true, not_true_eq_false, ra_ltT, ra_ltF, ra_leT, ra_leF, ra_eqT, ra_eqF, or_false, false_or, or_true, true_or, and_true, true_and, and_false, false_and, ra_upd]
theorem qa_image (G γ κ τ : Nat → Nat) (a b c : Nat → Int32) : f_X2_image (ra_nf G) (ra_nf γ) (ra_nf κ) (ra_nf τ) a b c = some (nI (γ 8), ra_nf (ra_un G 2 1), ra_nf γ, ra_nf κ, ra_nf τ) := by
  unfold f_X2_image
  simp (disch := omega) only [↓reduceIte, ra_lit, ra_nf_ap, nI_add, nI_clamp, nI_ltI, nI_leI, nI_eq, Option.bind_some, if_true, if_false, not_false_eq_true, not_true_eq_false, ra_ltT, ra_ltF, ra_leT, ra_leF, ra_eqT, ra_eqF, or_false, false_or, or_true, true_or, and_true, true_and, and_false, false_and, rc_copy, ra_upd]
theorem qa_on (G φ : Nat → Nat) (a b c d e f : Nat → Int32) (hG : G 2 = 1) : f_X2_on (ra_nf G) a b c d e f (ra_nf φ) = some (d 8, d, e, f, ra_nf φ) := by
  unfold f_X2_on
  simp (disch := omega) only [↓reduceIte, ra_lit, ra_nf_ap, nI_add, nI_clamp, nI_ltI, nI_leI, nI_eq, Option.bind_some, if_true, if_false, not_false_eq_true, not_true_eq_false, ra_ltT, ra_ltF, ra_leT, ra_leF, ra_eqT, ra_eqF, or_false, false_or, or_true, true_or, and_true, true_and, and_false, false_and, hG, rc_copy]
theorem qa_goes (G φ : Nat → Nat) (ta tb tc : Nat → Int32) (h : ra_ok γ κ τ) {k : Nat} (hk : k < 7) (ho : γ 3 < γ 0) : ∃ γ', f_X2_goes (ra_nf G) (ra_nf γ) (ra_nf κ) (ra_nf τ) ta tb tc (ra_nf φ) (nI k) = some (ra_enc (ra_fail κ τ k 13 0 γ), ra_nf γ', ra_nf κ, ra_nf τ, ra_nf φ) := by
  obtain ⟨γ', e⟩ := rc_fa (ra_nf G) ta tb tc hk h ho
  refine ⟨γ', ?_⟩
  unfold f_X2_goes
  rw [qa_ref G φ h hk ho]
  simp (disch := omega) only [↓reduceIte, ra_lit, ra_nf_ap, nI_add, nI_clamp, nI_ltI, nI_leI, nI_eq, Option.bind_some, if_true, if_false, not_false_eq_true, not_true_eq_false, ra_ltT, ra_ltF, ra_leT, ra_leF, ra_eqT, ra_eqF, or_false, false_or, or_true, true_or, and_true, true_and, and_false, false_and, e]
theorem qa_goesO (G φ : Nat → Nat) (ta tb tc : Nat → Int32) (h : ra_ok γ κ τ) {k : Nat} (hk : k < 7) (ho : ¬ γ 3 < γ 0) : f_X2_goes (ra_nf G) (ra_nf γ) (ra_nf κ) (ra_nf τ) ta tb tc (ra_nf φ) (nI k) = some (-nI 3, ta, tb, tc, ra_nf (ra_rf φ 3)) := by
  unfold f_X2_goes
  rw [qa_refO G φ h hk ho]
  simp (disch := omega) only [↓reduceIte, ra_lit, ra_nf_ap, nI_add, nI_clamp, nI_ltI, nI_leI, nI_eq, Option.bind_some, if_true, if_false, not_false_eq_true, not_true_eq_false, ra_ltT, ra_ltF, ra_leT, ra_leF, ra_eqT, ra_eqF, or_false, false_or, or_true, true_or, and_true, true_and, and_false, false_and, ra_nzF (c := 3) (Or.inr rfl)]
theorem qa_goes0 {k : Nat} : ra_enc (ra_fail κ τ k 13 0 γ) = 0 ↔ ra_ov γ κ τ k := by
  have hle := ra_fail_le κ τ k 12 1 (ra_wear γ k)
  have e : ra_fail κ τ k 13 0 γ = if ra_ov γ κ τ k then 0 else ra_fail κ τ k 12 1 (ra_wear γ k) := rfl
  by_cases c : ra_ov γ κ τ k
  · rw [e, if_pos c]
    exact ⟨fun _ => c, fun _ => rfl⟩
  · rw [e, if_neg c]
    refine ⟨fun z => absurd z ?_, fun z => absurd z c⟩
    unfold ra_enc
    by_cases c2 : ra_fail κ τ k 12 1 (ra_wear γ k) < 13
    · rw [if_pos c2]
      exact nI_ne0 (by omega) (by omega)
    · rw [if_neg c2]
      decide
theorem qa_stopO (G φ : Nat → Nat) (ta tb tc : Nat → Int32) (h : ra_ok γ κ τ) (ho : ¬ γ 3 < γ 0) : f_X2_stop (ra_nf G) (ra_nf γ) (ra_nf κ) (ra_nf τ) ta tb tc (ra_nf φ) = some (-nI 3, ta, tb, tc, ra_nf (ra_rf φ 3)) := by
  obtain ⟨h0, h1, h2⟩ := h
  unfold f_X2_stop
  rw [rc_isOff γ (by omega) (by omega)]
  simp (disch := omega) only [↓reduceIte, ra_lit, ra_nf_ap, nI_add, nI_clamp, nI_ltI, nI_leI, nI_eq, Option.bind_some, if_true, if_false, not_false_eq_true, not_true_eq_false, ra_ltT, ra_ltF, ra_leT, ra_leF, ra_eqT, ra_eqF, or_false, false_or, or_true, true_or, and_true, true_and, and_false, false_and, if_neg ho, rc_refuse]
theorem qa_waL (G φ : Nat → Nat) {k : Nat} (hk : k < 7) (h : ra_ok γ κ τ) (ho : γ 3 < γ 0) : ∀ (d i m : Nat) (ta tb tc : Nat → Int32), i + d = 61 → d < m →
    ∃ a b c, (∃ j, i ≤ j ∧ j ≤ 60 ∧ (j = i ↔ ra_ov (ra_wt γ i) κ τ k) ∧ f_X2_waited_L14 (ra_nf G) (ra_nf γ) (ra_nf κ) (ra_nf τ) (nI k) (ra_nf φ) m (nI i) ta tb tc = some (Sum.inl (nI j, a, b, c, ra_nf φ))) ∨
      (∃ x, (i ≤ 60 → ¬ ra_ov (ra_wt γ i) κ τ k) ∧ f_X2_waited_L14 (ra_nf G) (ra_nf γ) (ra_nf κ) (ra_nf τ) (nI k) (ra_nf φ) m (nI i) ta tb tc = some (Sum.inr (x, a, b, c))) := by
  intro d
  induction d with
  | zero =>
    intro i m ta tb tc hi hm
    obtain ⟨m, rfl⟩ : ∃ q, m = q + 1 := ⟨m - 1, by omega⟩
    obtain rfl : i = 61 := by omega
    refine ⟨ta, tb, tc, Or.inr ⟨nI 61, fun z => absurd z (by decide), ?_⟩⟩
    rw [f_X2_waited_L14, if_pos (by decide)]
  | succ d ih =>
    intro i m ta tb tc hi hm
    obtain ⟨m, rfl⟩ : ∃ q, m = q + 1 := ⟨m - 1, by omega⟩
    obtain ⟨h0, h1, h2, h3, h4, h5, h6, h7, h8, h9, h10, h11⟩ := id h
    have hw := ra_wt_ok (m := i) h
    have e1 : f_X0_goesOver (ra_nf (ra_wt γ i)) (ra_nf κ) (ra_nf τ) (nI k) = some (nI (if ra_ov (ra_wt γ i) κ τ k then 1 else 0)) := by
      rw [rc_over hw (by omega)]
      have : (ra_wt γ i) 3 < (ra_wt γ i) 0 := ho
      simp only [this, true_and]
    by_cases c : ra_ov (ra_wt γ i) κ τ k
    · have e2 : f_X2_waited_L14 (ra_nf G) (ra_nf γ) (ra_nf κ) (ra_nf τ) (nI k) (ra_nf φ) (m + 1) (nI i) ta tb tc = some (Sum.inl (nI i, ra_nf (ra_wt γ i), ra_nf κ, ra_nf τ, ra_nf φ)) := by
        rw [f_X2_waited_L14]
        simp (disch := omega) only [↓reduceIte, ra_lit, ra_nf_ap, nI_add, nI_clamp, nI_ltI, nI_leI, nI_eq, Option.bind_some, if_true, if_false, not_false_eq_true, not_true_eq_false, ra_ltT, ra_ltF, ra_leT, ra_leF, ra_eqT, ra_eqF, or_false, false_or, or_true, true_or, and_true, true_and, and_false, false_and, rc_copy, rc_rest, e1, if_pos c]
      exact ⟨_, _, _, Or.inl ⟨i, Nat.le_refl _, by omega, ⟨fun _ => c, fun _ => rfl⟩, e2⟩⟩
    · have e2 : f_X2_waited_L14 (ra_nf G) (ra_nf γ) (ra_nf κ) (ra_nf τ) (nI k) (ra_nf φ) (m + 1) (nI i) ta tb tc = f_X2_waited_L14 (ra_nf G) (ra_nf γ) (ra_nf κ) (ra_nf τ) (nI k) (ra_nf φ) m (nI (i + 1)) (ra_nf (ra_wt γ i)) (ra_nf κ) (ra_nf τ) := by
        rw [f_X2_waited_L14]
        simp (disch := omega) only [↓reduceIte, ra_lit, ra_nf_ap, nI_add, nI_clamp, nI_ltI, nI_leI, nI_eq, Option.bind_some, if_true, if_false, not_false_eq_true, not_true_eq_false, ra_ltT, ra_ltF, ra_leT, ra_leF, ra_eqT, ra_eqF, or_false, false_or, or_true, true_or, and_true, true_and, and_false, false_and, rc_copy, rc_rest, e1, if_neg c]
      rw [e2]
      obtain ⟨a, b, c', e⟩ := ih (i + 1) m (ra_nf (ra_wt γ i)) (ra_nf κ) (ra_nf τ) (by omega) (by omega)
      refine ⟨a, b, c', ?_⟩
      rcases e with ⟨j, j1, j2, -, e⟩ | ⟨x, -, e⟩
      · exact Or.inl ⟨j, by omega, j2, ⟨fun z => by omega, fun z => absurd z c⟩, e⟩
      · exact Or.inr ⟨x, fun _ => c, e⟩
theorem qa_wt0 : ra_wt γ 0 = γ := by
  funext i
  unfold ra_wt
  by_cases e4 : i = 4
  · subst e4; simp
  by_cases e5 : i = 5
  · subst e5; simp
  by_cases e6 : i = 6
  · subst e6; simp
  by_cases e8 : i = 8
  · subst e8; simp
  simp [e4, e5, e6, e8]
theorem qa_waited (G φ : Nat → Nat) (ta tb tc : Nat → Int32) (h : ra_ok γ κ τ) {k : Nat} (hk : k < 7) (ho : γ 3 < γ 0) : ∃ r a b c, f_X2_waited (ra_nf G) (ra_nf γ) (ra_nf κ) (ra_nf τ) ta tb tc (ra_nf φ) (nI k) = some (r, a, b, c, ra_nf φ) ∧ (r = 0 ↔ ra_ov γ κ τ k) := by
  unfold f_X2_waited
  rw [qa_ref G φ h hk ho]
  obtain ⟨a, b, c, h1⟩ := qa_waL G φ hk h ho 61 0 rf_fu ta tb tc rfl (by unfold rf_fu; omega)
  rw [qa_wt0] at h1
  simp (disch := omega) only [↓reduceIte, ra_lit, ra_nf_ap, nI_add, nI_clamp, nI_ltI, nI_leI, nI_eq, Option.bind_some, if_true, if_false, not_false_eq_true, not_true_eq_false, ra_ltT, ra_ltF, ra_leT, ra_leF, ra_eqT, ra_eqF, or_false, false_or, or_true, true_or, and_true, true_and, and_false, false_and]
  rcases h1 with ⟨j, j1, j2, j3, h1⟩ | ⟨x, j3, h1⟩
  · rw [h1]
    refine ⟨nI j, a, b, c, rfl, ?_⟩
    rw [← j3]
    exact ⟨fun z => (nI_eq (b := 0) (by omega) (by decide)).mp z, fun z => by rw [z]⟩
  · rw [h1]
    refine ⟨_, a, b, c, rfl, ?_⟩
    exact ⟨fun z => absurd z (by decide), fun z => absurd z (j3 (by decide))⟩
theorem qa_thL (h : ra_ok γ κ τ) : ∀ (d p m : Nat) (x : Int32), p + d = γ 0 → d < m → ∃ r, f_X0_thickestNow_L4 (ra_nf γ) (ra_nf κ) (ra_nf τ) m x (nI p) = some r := by
  have h' := h
  obtain ⟨h0, h1, h2⟩ := h
  intro d
  induction d with
  | zero =>
    intro p m x hp hm
    obtain ⟨m, rfl⟩ : ∃ q, m = q + 1 := ⟨m - 1, by omega⟩
    rw [f_X0_thickestNow_L4, ra_nf_ap, if_pos (nI_le (by omega) (by omega))]
    exact ⟨_, rfl⟩
  | succ d ih =>
    intro p m x hp hm
    obtain ⟨m, rfl⟩ : ∃ q, m = q + 1 := ⟨m - 1, by omega⟩
    rw [f_X0_thickestNow_L4, ra_nf_ap, if_neg (nI_ge (by omega) (by omega)), rc_thickNow h' (by omega), Option.bind_some, Option.bind_some, nI_1, Option.bind_some]
    exact ih (p + 1) m _ (by omega) (by omega)
theorem qa_th (h : ra_ok γ κ τ) : ∃ r, f_X0_thickestNow (ra_nf γ) (ra_nf κ) (ra_nf τ) = some r := by
  have h' := h
  obtain ⟨h0, h1, h2⟩ := h
  obtain ⟨r, e⟩ := qa_thL h' (γ 0) 0 rf_fu (-1) (by omega) (by unfold rf_fu; omega)
  have e : f_X0_thickestNow_L4 (ra_nf γ) (ra_nf κ) (ra_nf τ) rf_fu (-1) 0 = some r := e
  unfold f_X0_thickestNow
  rw [e]
  exact ⟨_, rfl⟩
theorem qa_weL (G : Nat → Nat) (n1 n2 n3 rc : Nat → Int32) (p2 : Int32) {k : Nat} (hk : k < 7) (h : ra_ok γ κ τ) : ∀ (d v m s : Nat) (x y : Int32), v + d = 31 → d < m →
    ∃ r1 r2 z g, f_X2_went_L41 (ra_nf G) n1 n2 n3 (nI k) p2 (ra_nf κ) (ra_nf τ) rc m x y (nI v) (ra_nf (ra_un γ 4 s)) = some (r1, r2, z, g) := by
  obtain ⟨h0, h1, h2, h3, h4, h5, h6, h7, h8, h9, h10, h11⟩ := id h
  intro d
  induction d with
  | zero =>
    intro v m s x y hv hm
    obtain ⟨m, rfl⟩ : ∃ q, m = q + 1 := ⟨m - 1, by omega⟩
    obtain rfl : v = 31 := by omega
    rw [f_X2_went_L41, if_pos (by decide)]
    exact ⟨_, _, _, _, rfl⟩
  | succ d ih =>
    intro v m s x y hv hm
    obtain ⟨m, rfl⟩ : ∃ q, m = q + 1 := ⟨m - 1, by omega⟩
    have hok : ra_ok (ra_un γ 4 v) κ τ := ⟨h0, h1, h2, h3, h4, h5, by show v ≤ 30; omega, h7, h8, h9, h10, h11⟩
    obtain ⟨t, ht⟩ := qa_th hok
    have c30 : ¬ (30 : Int32) < nI v := nI_nlt (a := 30) (b := v) (by omega) (by decide)
    have e2 : ra_nf (ra_un γ 4 s) 2 = nI (γ 2) := rfl
    rw [f_X2_went_L41, if_neg c30, ra_upd, ra_unun, ht, Option.bind_some, e2, ra_alC (by omega) h5, Option.bind_some]
    split
    · rw [nI_1, Option.bind_some]
      exact ih (v + 1) m v _ _ (by omega) (by omega)
    · rw [Option.bind_some, nI_1, Option.bind_some]
      exact ih (v + 1) m v _ _ (by omega) (by omega)
theorem qa_went (G φ : Nat → Nat) (ta tb tc : Nat → Int32) (h : ra_ok γ κ τ) {k : Nat} (hk : k < 7) : ∃ r a b c, f_X2_went (ra_nf G) (ra_nf γ) (ra_nf κ) (ra_nf τ) ta tb tc (ra_nf φ) (nI k) 0 = some (r, a, b, c, ra_nf φ) := by
  have e4 : ra_un γ 4 (γ 4) = γ := by
    funext j
    unfold ra_un
    split
    · rename_i e
      rw [e]
    · rfl
  obtain ⟨r1, r2, z, g, e⟩ := qa_weL G (ra_nf γ) (ra_nf κ) (ra_nf τ) (ra_nf φ) 0 hk h 31 0 rf_fu (γ 4) 0 (-9) rfl (by unfold rf_fu; omega)
  rw [e4] at e
  have e : f_X2_went_L41 (ra_nf G) (ra_nf γ) (ra_nf κ) (ra_nf τ) (nI k) 0 (ra_nf κ) (ra_nf τ) (ra_nf φ) rf_fu 0 (-9) 0 (ra_nf γ) = some (r1, r2, z, g) := e
  unfold f_X2_went
  rw [rc_isTry (by omega), if_pos hk, Option.bind_some, if_neg (show ¬ nI 1 = 0 by decide), show f_X2_isEither 0 = some 1 from rfl, Option.bind_some, if_neg (by decide), rc_copy, Option.bind_some]
  simp only [e, Option.bind_some]
  exact ⟨_, _, _, _, rfl⟩
theorem qa_drw (G : Nat → Nat) {m : Nat} (hm0 : 0 < m) (hm : m < 2 ^ 31) : ∃ s v, v < m ∧ f_X2_draw (ra_nf G) (nI m) = some (nI v, ra_nf (ra_un G 3 s)) := by
  obtain ⟨s, hs, es⟩ := ra_int (nI (G 3) * 1664525 + 1013904223)
  obtain ⟨j, hj, ej⟩ := pk_andE (nI s) (m := 2147483647) 31 (by decide)
  have e0 : ¬ nI m ≤ 0 := nI_nle hm0 hm
  have e1 : ¬ nI m = 0 := nI_ne0 hm0 hm
  have e2 : rf_rem ((nI s &&& 2147483647) / 256) (nI m) = nI (j / 256 % m) := by
    rw [ej, show (nI j / 256 : Int32) = nI (j / 256) from pk_div (d := 256) hj (by decide) (by decide)]
    exact pk_rem (by omega) hm0 hm
  refine ⟨s, j / 256 % m, Nat.mod_lt _ hm0, ?_⟩
  unfold f_X2_draw
  rw [ra_nf_ap, es]
  simp only [Option.bind_some, if_neg e0, if_pos e1, e2, ra_upd]
theorem qa_evL (na nb nc : Nat → Int32) : ∀ (d i m : Nat) (G γ : Nat → Nat), i + d = 12 → d < m → ra_ok γ κ τ →
    ∃ x s γ', f_X2_eveningHarm_L34 na nb nc (ra_nf κ) (ra_nf τ) m (nI i) (ra_nf G) (ra_nf γ) = some (x, ra_nf (ra_un G 3 s), ra_nf γ') := by
  have eG : ∀ G : Nat → Nat, ra_un G 3 (G 3) = G := by
    intro G
    funext j
    unfold ra_un
    split
    · rename_i e
      rw [e]
    · rfl
  intro d
  induction d with
  | zero =>
    intro i m G γ hi hm h
    obtain ⟨m, rfl⟩ : ∃ q, m = q + 1 := ⟨m - 1, by omega⟩
    obtain rfl : i = 12 := by omega
    rw [f_X2_eveningHarm_L34, if_pos (by decide)]
    exact ⟨_, G 3, γ, by rw [eG]⟩
  | succ d ih =>
    intro i m G γ hi hm h
    obtain ⟨m, rfl⟩ : ∃ q, m = q + 1 := ⟨m - 1, by omega⟩
    obtain ⟨h0, h1, h2⟩ := id h
    rw [f_X2_eveningHarm_L34, if_neg (show ¬ (12 : Int32) ≤ nI i from nI_ge (b := 12) (by omega) (by decide)), rc_isOff γ (by omega) (by omega), Option.bind_some]
    by_cases ho : γ 3 < γ 0
    · rw [if_pos ho, if_pos (show nI 0 = 0 from rfl)]
      obtain ⟨s, v, hv, e⟩ := qa_drw G (m := 6) (by decide) (by decide)
      have e : f_X2_draw (ra_nf G) 6 = some (nI v, ra_nf (ra_un G 3 s)) := e
      rw [e, Option.bind_some, rc_attempt h (by omega) ho, Option.bind_some, nI_1, Option.bind_some]
      obtain ⟨x, s', γ', e'⟩ := ih (i + 1) m (ra_un G 3 s) (ra_tr γ κ τ v) (by omega) (by omega) (ra_tr_ok h ho)
      rw [ra_unun] at e'
      exact ⟨x, s', γ', e'⟩
    · rw [if_neg ho, if_neg (show ¬ nI 1 = 0 by decide)]
      exact ⟨_, G 3, γ, by rw [eG]⟩
theorem qa_ev (G : Nat → Nat) (ta tb tc : Nat → Int32) (h : ra_ok γ κ τ) : ∃ r s a, f_X2_eveningHarm (ra_nf G) (ra_nf γ) (ra_nf κ) (ra_nf τ) ta tb tc = some (r, ra_nf (ra_un G 3 s), a, ra_nf κ, ra_nf τ) := by
  obtain ⟨s, v, hv, e⟩ := qa_drw G (m := 31) (by decide) (by decide)
  have e : f_X2_draw (ra_nf G) 31 = some (nI v, ra_nf (ra_un G 3 s)) := e
  obtain ⟨h0, h1, h2, h3, h4, h5, h6, h7, h8, h9, h10, h11⟩ := id h
  have hok : ra_ok (ra_un (ra_un γ 9 0) 4 v) κ τ := ⟨h0, h1, h2, h3, h4, h5, by show v ≤ 30; omega, h7, h8, h9, h10, h11⟩
  obtain ⟨x, s', γ', e'⟩ := qa_evL (ra_nf γ) (ra_nf κ) (ra_nf τ) 12 0 rf_fu (ra_un G 3 s) (ra_un (ra_un γ 9 0) 4 v) rfl (by unfold rf_fu; omega) hok
  have e' : f_X2_eveningHarm_L34 (ra_nf γ) (ra_nf κ) (ra_nf τ) (ra_nf κ) (ra_nf τ) rf_fu 0 (ra_nf (ra_un G 3 s)) (ra_nf (ra_un (ra_un γ 9 0) 4 v)) = some (x, ra_nf (ra_un (ra_un G 3 s) 3 s'), ra_nf γ') := e'
  rw [ra_unun] at e'
  have eu : upd (upd (ra_nf γ) 9 0) 4 (nI v) = ra_nf (ra_un (ra_un γ 9 0) 4 v) := by
    rw [show (0 : Int32) = nI 0 from rfl, ra_upd, ra_upd]
  unfold f_X2_eveningHarm
  rw [rc_copy, Option.bind_some, e, Option.bind_some]
  simp only [eu, e', Option.bind_some]
  exact ⟨_, _, _, rfl⟩
theorem qa_loL (h : ra_ok γ κ τ) (p2 : Int32) (rc : Nat → Int32) {N : Nat} (hN : N ≤ 20) : ∀ (d i m : Nat) (G : Nat → Nat) (x : Int32) (ta tb tc : Nat → Int32), i + d = N → d < m →
    ∃ r z s a b c, f_X2_lots_L35 (ra_nf γ) (ra_nf κ) (ra_nf τ) (nI N) p2 rc m x (nI i) (ra_nf G) ta tb tc = some (r, z, ra_nf (ra_un G 3 s), a, b, c) := by
  have eG : ∀ G : Nat → Nat, ra_un G 3 (G 3) = G := by
    intro G
    funext j
    unfold ra_un
    split
    · rename_i e
      rw [e]
    · rfl
  intro d
  induction d with
  | zero =>
    intro i m G x ta tb tc hi hm
    obtain ⟨m, rfl⟩ : ∃ q, m = q + 1 := ⟨m - 1, by omega⟩
    rw [f_X2_lots_L35, if_pos (nI_le (by omega) (by omega))]
    exact ⟨_, _, G 3, _, _, _, by rw [eG]⟩
  | succ d ih =>
    intro i m G x ta tb tc hi hm
    obtain ⟨m, rfl⟩ : ∃ q, m = q + 1 := ⟨m - 1, by omega⟩
    obtain ⟨r, s, a, e⟩ := qa_ev G ta tb tc h
    rw [f_X2_lots_L35, if_neg (nI_ge (by omega) (by omega)), e, Option.bind_some, Option.bind_some, nI_1, Option.bind_some]
    obtain ⟨r', z', s', a', b', c', e'⟩ := ih (i + 1) m (ra_un G 3 s) (x + r) a (ra_nf κ) (ra_nf τ) (by omega) (by omega)
    rw [ra_unun] at e'
    exact ⟨r', z', s', a', b', c', e'⟩
theorem qa_lots2 (G φ : Nat → Nat) (ta tb tc : Nat → Int32) (h : ra_ok γ κ τ) (p2 : Int32) : ∃ r s a b c, f_X2_lots (ra_nf G) (ra_nf γ) (ra_nf κ) (ra_nf τ) ta tb tc (ra_nf φ) 2 p2 = some (r, ra_nf (ra_un G 3 s), a, b, c, ra_nf φ) := by
  obtain ⟨z, hz, ez⟩ := ra_int p2
  obtain ⟨r, z1, s, a, b, c, e1⟩ := qa_loL h p2 (ra_nf φ) (N := 2) (by decide) 2 0 rf_fu (ra_un G 3 z) 0 ta tb tc rfl (by unfold rf_fu; omega)
  rw [ra_unun] at e1
  have e1 : f_X2_lots_L35 (ra_nf γ) (ra_nf κ) (ra_nf τ) 2 p2 (ra_nf φ) rf_fu 0 0 (ra_nf (ra_un G 3 z)) ta tb tc = some (r, z1, ra_nf (ra_un G 3 s), a, b, c) := e1
  have e3 : upd (ra_nf G) 3 p2 = ra_nf (ra_un G 3 z) := by rw [ez, ra_upd]
  unfold f_X2_lots
  rw [if_pos (by decide), if_pos (by decide), e3, e1]
  exact ⟨_, _, _, _, _, rfl⟩
end QACalls
