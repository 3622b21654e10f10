/-! the finger: what a try and a wait do, both sides -/
section RAFing
theorem ra_b01 {c : Prop} {_ : Decidable c} : nI (if c then 1 else 0) &&& nI 1 = nI (if c then 1 else 0) := by
  split <;> rfl
theorem ra_b0 {c : Prop} {_ : Decidable c} : (nI (if c then 1 else 0) = nI 0) = ¬ c := by
  by_cases h : c
  · rw [if_pos h]
    exact propext ⟨fun z => absurd z (show ¬ nI 1 = nI 0 by decide), fun z => absurd h z⟩
  · rw [if_neg h]
    exact propext ⟨fun _ => h, fun _ => rfl⟩
theorem ra_ifin {α : Type} {c N : Nat} {_ : Decidable (¬ (c < 0 ∨ N ≤ c))} {a b : α} (h : c < N) : (if ¬ (c < 0 ∨ N ≤ c) then a else b) = a := if_pos (by omega)
def ra_jn (γ κ τ : Nat → Nat) : Nat → Nat := fun i => if i < 10 then γ i else if i < 16 then κ (i - 10) else τ (i - 16)
def ra_st (γ κ τ : Nat → Nat) : Nat → Int32 := ra_nf (ra_jn γ κ τ)
theorem ra_st_lo (γ κ τ : Nat → Nat) {i : Nat} (h : i < 10) : ra_st γ κ τ i = nI (γ i) := by
  unfold ra_st ra_nf ra_jn
  rw [if_pos h]
theorem ra_st_k (γ κ τ : Nat → Nat) {j : Nat} (h : j < 6) : ra_st γ κ τ (10 + j) = nI (κ j) := by
  unfold ra_st ra_nf ra_jn
  rw [if_neg (by omega), if_pos (by omega), show 10 + j - 10 = j by omega]
theorem ra_st_t (γ κ τ : Nat → Nat) {j : Nat} (h : j < 6) : ra_st γ κ τ (16 + j) = nI (τ j) := by
  unfold ra_st ra_nf ra_jn
  rw [if_neg (by omega), if_neg (by omega), show 16 + j - 16 = j by omega]
theorem ra_st_u (γ κ τ : Nat → Nat) {k v : Nat} (h : k < 10) : upd (ra_st γ κ τ) k (nI v) = ra_st (ra_un γ k v) κ τ := by
  unfold ra_st
  rw [ra_upd]
  congr 1
  funext i
  unfold ra_un ra_jn
  by_cases e : i = k
  · subst e
    simp [h]
  · simp only [if_neg e]
theorem ra_st_uk (γ κ τ : Nat → Nat) {j v : Nat} (h : j < 6) : upd (ra_st γ κ τ) (10 + j) (nI v) = ra_st γ (ra_un κ j v) τ := by
  unfold ra_st
  rw [ra_upd]
  congr 1
  funext i
  unfold ra_un ra_jn
  by_cases e : i = 10 + j
  · subst e
    simp [show ¬ 10 + j < 10 by omega, show 10 + j < 16 by omega]
  · simp only [if_neg e]
    by_cases e1 : i < 10
    · simp only [if_pos e1]
    · simp only [if_neg e1]
      by_cases e2 : i < 16
      · simp only [if_pos e2]
        rw [if_neg (by omega)]
      · simp only [if_neg e2]
theorem ra_st_ut (γ κ τ : Nat → Nat) {j v : Nat} (h : j < 6) : ∀ k : Nat, k < 22 → upd (ra_st γ κ τ) (16 + j) (nI v) k = ra_st γ κ (ra_un τ j v) k := by
  intro i _
  unfold ra_st
  rw [ra_upd]
  unfold ra_nf ra_un ra_jn
  by_cases e : i = 16 + j
  · subst e
    simp [show ¬ 16 + j < 10 by omega, show ¬ 16 + j < 16 by omega]
  · simp only [if_neg e]
    by_cases e1 : i < 10
    · simp only [if_pos e1]
    · simp only [if_neg e1]
      by_cases e2 : i < 16
      · simp only [if_pos e2]
      · simp only [if_neg e2]
        rw [if_neg (by omega)]
/-- a finger as it can be -/
def ra_ok (γ κ τ : Nat → Nat) : Prop :=
  γ 0 ≤ 6 ∧ γ 3 ≤ γ 0 ∧ 100 ≤ γ 1 ∧ γ 1 ≤ 250 ∧ 1 ≤ γ 2 ∧ γ 2 ≤ 9 ∧ γ 4 ≤ 30 ∧ γ 5 ≤ 20 ∧ γ 6 ≤ 99 ∧ γ 7 ≤ 9 ∧ (∀ j, κ j ≤ 5) ∧ (∀ j, τ j ≤ 240)
abbrev ra_ov (γ κ τ : Nat → Nat) (k : Nat) : Prop := ra_tk (κ (γ 3)) (τ (γ 3)) (γ 4) (ra_cd k (γ 5)) (γ 7) ≤ γ 1 + ra_al k (γ 2)
def ra_wear (γ : Nat → Nat) (k : Nat) : Nat → Nat := fun i =>
  if i = 4 then min 30 (γ 4 + ra_sw k) else if i = 5 then ra_cd k (γ 5) else if i = 6 then min 99 (γ 6 + (if k = 5 then 5 else 0)) else if i = 8 then γ 8 + ra_mi k else if i = 9 then γ 9 + ra_hm k else γ i
def ra_tr (γ κ τ : Nat → Nat) (k : Nat) : Nat → Nat := if ra_ov γ κ τ k then ra_un (ra_wear γ k) 3 (γ 3 + 1) else ra_wear γ k
def ra_wt (γ : Nat → Nat) (m : Nat) : Nat → Nat := fun i =>
  if i = 4 then γ 4 - m / 2 else if i = 5 then γ 5 - m / 3 else if i = 6 then γ 6 - m else if i = 8 then γ 8 + m else γ i
theorem ra_wear_ok {γ κ τ : Nat → Nat} {k : Nat} (h : ra_ok γ κ τ) : ra_ok (ra_wear γ k) κ τ := by
  obtain ⟨h0, h1, h2, h3, h4, h5, h6, h7, h8, h9, h10, h11⟩ := h
  have hc := ra_cd_le (k := k) h7
  exact ⟨h0, h1, h2, h3, h4, h5, Nat.min_le_left _ _, hc.1, Nat.min_le_left _ _, h9, h10, h11⟩
theorem ra_wt_ok {γ κ τ : Nat → Nat} {m : Nat} (h : ra_ok γ κ τ) : ra_ok (ra_wt γ m) κ τ := by
  obtain ⟨h0, h1, h2, h3, h4, h5, h6, h7, h8, h9, h10, h11⟩ := h
  exact ⟨h0, h1, h2, h3, h4, h5, by show γ 4 - m / 2 ≤ 30; omega, by show γ 5 - m / 3 ≤ 20; omega, by show γ 6 - m ≤ 99; omega, h9, h10, h11⟩
theorem ra_tr_ok {γ κ τ : Nat → Nat} {k : Nat} (h : ra_ok γ κ τ) (hf : γ 3 < γ 0) : ra_ok (ra_tr γ κ τ k) κ τ := by
  unfold ra_tr
  split
  · obtain ⟨h0, h1, h2⟩ := ra_wear_ok (k := k) h
    exact ⟨h0, hf, h2⟩
  · exact ra_wear_ok h
theorem rc_isOff (γ : Nat → Nat) (h0 : γ 0 < 1000) (h3 : γ 3 < 1000) : f_X0_isOff (ra_nf γ) = some (nI (if γ 3 < γ 0 then 0 else 1)) := by
  unfold f_X0_isOff
  simp (disch := omega) only [ra_lit, ra_nf_ap, nI_ltI]
  split <;> rfl
theorem rr_isOff (g γ κ τ : Nat → Nat) (h0 : γ 0 < 1000) (h3 : γ 3 < 1000) : f_X3_isOff (ra_nf g) (ra_st γ κ τ) = some (nI (if γ 3 < γ 0 then 0 else 1)) := by
  unfold f_X3_isOff
  simp (disch := omega) only [ra_lit, ra_st_lo, nI_ltI]
  split <;> rfl
theorem rc_thickNow {γ κ τ : Nat → Nat} (h : ra_ok γ κ τ) {j : Nat} (hj : j < 6) : f_X0_thickNow (ra_nf γ) (ra_nf κ) (ra_nf τ) (nI j) = some (nI (ra_tk (κ j) (τ j) (γ 4) (γ 5) (γ 7))) := by
  obtain ⟨h0, h1, h2, h3, h4, h5, h6, h7, h8, h9, h10, h11⟩ := h
  have := h10 j
  have := h11 j
  unfold f_X0_thickNow
  simp (disch := omega) only [ra_lit, ra_at, ra_nf_ap, Option.bind_some, ra_tkC]
theorem rr_partBy {g γ κ τ : Nat → Nat} (h : ra_ok γ κ τ) {j sw co he : Nat} (hj : j < 6) (hs : sw < 100) (hc : co < 100) (hh : he < 100) : f_X3_partBy (ra_nf g) (ra_st γ κ τ) (nI j) (nI sw) (nI co) (nI he) = some (nI (ra_tk (κ j) (τ j) sw co he)) := by
  obtain ⟨h0, h1, h2, h3, h4, h5, h6, h7, h8, h9, h10, h11⟩ := h
  have := h10 j
  have := h11 j
  unfold f_X3_partBy
  simp (disch := omega) only [ra_lit, nI_add, nI_clamp, nI_ltI, ra_ifin, ra_st_k, ra_st_t, Option.bind_some, ra_tkR]
theorem rc_coldAhead {γ : Nat → Nat} {k : Nat} (hk : k < 1000) (h5 : γ 5 ≤ 20) : f_X0_coldAhead (ra_nf γ) (nI k) = some (nI (ra_cd k (γ 5))) := by
  unfold f_X0_coldAhead ra_cd
  simp (disch := omega) only [ra_lit, nI_eq, nI_add, ra_mnn, Option.bind_some, ra_nf_ap]
  split <;> rfl
theorem rc_over {γ κ τ : Nat → Nat} (h : ra_ok γ κ τ) {k : Nat} (hk : k < 1000) : f_X0_goesOver (ra_nf γ) (ra_nf κ) (ra_nf τ) (nI k) = some (nI (if γ 3 < γ 0 ∧ ra_ov γ κ τ k then 1 else 0)) := by
  have h' := h
  obtain ⟨h0, h1, h2, h3, h4, h5, h6, h7, h8, h9, h10, h11⟩ := h
  have := h10 (γ 3)
  have := h11 (γ 3)
  have hc := ra_cd_le (k := k) h7
  have ha := ra_al_le k (γ 2)
  have ht := ra_tk_le (k := κ (γ 3)) (th := τ (γ 3)) (sw := γ 4) (co := ra_cd k (γ 5)) (he := γ 7) (by omega) (by omega) (by omega)
  unfold f_X0_goesOver
  rw [rc_isOff γ (by omega) (by omega)]
  by_cases ho : γ 3 < γ 0
  · simp (disch := omega) only [if_pos ho, Option.bind_some, ra_lit, ra_at, ra_nf_ap, rc_coldAhead, ra_tkC, ra_alC, nI_add, nI_ltI, true_and, if_true, ho]
    unfold ra_ov
    split
    · rw [if_neg (by omega)]
    · rw [if_pos (by omega)]
  · simp only [if_neg ho, Option.bind_some, ho, false_and, if_false, ra_lit]
    rw [if_neg (by decide)]
theorem rr_over {g γ κ τ : Nat → Nat} (h : ra_ok γ κ τ) {k j sw co : Nat} (hk : k < 1000) (hj : j < 6) (hs : sw ≤ 30) (hco : co ≤ 20) : f_X3_goesOver (ra_nf g) (ra_st γ κ τ) (nI j) (nI k) (nI sw) (nI co) = some (nI (if ra_tk (κ j) (τ j) sw (ra_cd k co) (γ 7) ≤ γ 1 + ra_al k (γ 2) then 1 else 0)) := by
  have h' := h
  obtain ⟨h0, h1, h2, h3, h4, h5, h6, h7, h8, h9, h10, h11⟩ := h
  have := h10 j
  have := h11 j
  have hc := ra_cd_le (k := k) hco
  have ha := ra_al_le k (γ 2)
  have ht := ra_tk_le (k := κ j) (th := τ j) (sw := sw) (co := ra_cd k co) (he := γ 7) (by omega) (by omega) (by omega)
  have hal : f_X3_allows (ra_nf g) (ra_st γ κ τ) (nI k) = some (nI (ra_al k (γ 2))) := ra_alR (ra_nf g) (ra_jn γ κ τ) hk h5
  unfold f_X3_goesOver
  simp (disch := omega) only [ra_cdR, ra_st_lo, Option.bind_some, rr_partBy h', hal, nI_add, nI_ltI, ra_lit]
  split
  · rw [if_neg (by omega)]
  · rw [if_pos (by omega)]
theorem rr_would {g γ κ τ : Nat → Nat} (h : ra_ok γ κ τ) {k : Nat} (hk : k < 1000) (hf : γ 3 < γ 0) : f_X3_wouldGo (ra_nf g) (ra_st γ κ τ) (nI k) = some (nI (if ra_ov γ κ τ k then 1 else 0)) := by
  have h' := h
  obtain ⟨h0, h1, h2, h3, h4, h5, h6, h7, h8, h9, h10, h11⟩ := h
  unfold f_X3_wouldGo
  simp (disch := omega) only [ra_st_lo, rr_over h', Option.bind_some, ra_lit, ra_b01, if_true]
theorem rc_strain {γ : Nat → Nat} {k : Nat} (hk : k < 7) (h4 : γ 4 ≤ 30) (h5 : γ 5 ≤ 20) (h6 : γ 6 ≤ 99) : f_X0_strain (ra_nf γ) (nI k) = some (ra_nf (ra_wear γ k)) := by
  have hs := ra_sw_le k
  unfold f_X0_strain
  simp (disch := omega) only [rc_coldAhead, ra_at, Option.bind_some, ra_a2, ra_a3, ra_a4, ra_nf_ap, nI_add, ra_lit, ra_mnn, nI_eq, ra_upd]
  have e : ∀ v : Nat, v = min 99 (γ 6 + (if k = 5 then 5 else 0)) → ra_un (ra_un (ra_un (ra_un (ra_un γ 5 (ra_cd k (γ 5))) 4 (min 30 (γ 4 + ra_sw k))) 9 (γ 9 + ra_hm k)) 8 (γ 8 + ra_mi k)) 6 v = ra_wear γ k := by
    intro v hv
    funext i
    unfold ra_un ra_wear
    by_cases e4 : i = 4
    · subst e4; simp
    by_cases e5 : i = 5
    · subst e5; simp
    by_cases e6 : i = 6
    · subst e6; simp [hv]
    by_cases e8 : i = 8
    · subst e8; simp
    by_cases e9 : i = 9
    · subst e9; simp
    simp [e4, e5, e6, e8, e9]
  split
  · rename_i hk5
    rw [e _ (by rw [if_pos hk5])]
  · rename_i hk5
    rw [← e _ rfl, if_neg hk5]
    congr 2
    funext i
    by_cases e6 : i = 6
    · subst e6
      rw [ra_us]
      show γ 6 = _
      omega
    · rw [ra_ud _ _ e6]
theorem rr_wears {g γ κ τ : Nat → Nat} {k : Nat} (hk : k < 7) (h4 : γ 4 ≤ 30) (h5 : γ 5 ≤ 20) (h6 : γ 6 ≤ 99) : f_X3_wears (ra_nf g) (ra_st γ κ τ) (nI k) = some (ra_st (ra_wear γ k) κ τ) := by
  have hs := ra_sw_le k
  unfold f_X3_wears
  simp (disch := omega) only [ra_cdR, ra_swR, ra_hmR, ra_miR, ra_st_lo, Option.bind_some, ra_least, nI_add, ra_lit, ra_mnn, nI_eq, ra_st_u]
  have e : ∀ v : Nat, v = min 99 (γ 6 + (if k = 5 then 5 else 0)) → ra_un (ra_un (ra_un (ra_un (ra_un γ 5 (ra_cd k (γ 5))) 4 (min 30 (γ 4 + ra_sw k))) 9 (γ 9 + ra_hm k)) 6 v) 8 (γ 8 + ra_mi k) = ra_wear γ k := by
    intro v hv
    funext i
    unfold ra_un ra_wear
    by_cases e4 : i = 4
    · subst e4; simp
    by_cases e5 : i = 5
    · subst e5; simp
    by_cases e6 : i = 6
    · subst e6; simp [hv]
    by_cases e8 : i = 8
    · subst e8; simp
    by_cases e9 : i = 9
    · subst e9; simp
    simp [e4, e5, e6, e8, e9]
  split
  · rename_i hk5
    rw [e _ (by rw [if_pos hk5])]
  · rename_i hk5
    rw [e _ (by rw [if_neg hk5])]
theorem rc_attempt {γ κ τ : Nat → Nat} (h : ra_ok γ κ τ) {k : Nat} (hk : k < 7) (hf : γ 3 < γ 0) : f_X0_attempt (ra_nf γ) (ra_nf κ) (ra_nf τ) (nI k) = some (nI (if ra_ov γ κ τ k then 1 else 0), ra_nf (ra_tr γ κ τ k)) := by
  have h' := h
  obtain ⟨h0, h1, h2, h3, h4, h5, h6, h7, h8, h9, h10, h11⟩ := h
  unfold f_X0_attempt
  rw [rc_over h' (by omega), Option.bind_some, rc_strain hk h6 h7 h8, Option.bind_some]
  have e : (if γ 3 < γ 0 ∧ ra_ov γ κ τ k then 1 else 0) = (if ra_ov γ κ τ k then 1 else 0) := by
    simp only [hf, true_and]
  rw [e]
  by_cases ho : ra_ov γ κ τ k
  · simp only [if_pos ho, ra_tr]
    rw [if_neg (by decide)]
    simp only [Option.bind_some]
    rw [if_pos (by decide), ra_lit, ra_nf_ap, nI_add, ra_upd]
    rfl
  · simp only [if_neg ho, ra_tr]
    rw [if_pos (by decide), if_pos (by decide)]
theorem rr_tried {g γ κ τ : Nat → Nat} (h : ra_ok γ κ τ) {k : Nat} (hk : k < 7) (hf : γ 3 < γ 0) : f_X3_tried (ra_nf g) (ra_st γ κ τ) (nI k) = some (nI (if ra_ov γ κ τ k then 1 else 0), ra_st (ra_tr γ κ τ k) κ τ) := by
  have h' := h
  obtain ⟨h0, h1, h2, h3, h4, h5, h6, h7, h8, h9, h10, h11⟩ := h
  have e : ∀ v, ra_wear (ra_un γ 3 v) k = ra_un (ra_wear γ k) 3 v := by
    intro v
    funext i
    unfold ra_wear ra_un
    by_cases e3 : i = 3
    · subst e3; simp
    · simp [e3]
  unfold f_X3_tried
  rw [rr_would h' (by omega) hf, Option.bind_some]
  by_cases ho : ra_ov γ κ τ k
  · simp only [if_pos ho, ra_tr]
    rw [if_neg (by decide)]
    simp (disch := omega) only [Option.bind_some, ra_lit, ra_st_lo, nI_add, ra_st_u]
    rw [rr_wears (γ := ra_un γ 3 (γ 3 + 1)) hk h6 h7 h8, Option.bind_some, e]
    rfl
  · simp only [if_neg ho, ra_tr]
    rw [if_pos (by decide)]
    simp (disch := omega) only [Option.bind_some, ra_lit, ra_st_lo, nI_add, ra_st_u, Nat.add_zero]
    rw [rr_wears (γ := ra_un γ 3 (γ 3)) hk h6 h7 h8, Option.bind_some, e]
    have : ra_un (ra_wear γ k) 3 (γ 3) = ra_wear γ k := by
      funext i
      by_cases e3 : i = 3
      · subst e3
        rw [ra_us]
        rfl
      · rw [ra_ud _ _ e3]
    rw [this]
    rfl
theorem rc_rest {γ : Nat → Nat} {m : Nat} (hm : m < 1000) (h4 : γ 4 ≤ 30) (h5 : γ 5 ≤ 20) (h6 : γ 6 ≤ 99) : f_X0_rest (ra_nf γ) (nI m) = some (ra_nf (ra_wt γ m)) := by
  unfold f_X0_rest
  simp (disch := omega) only [Option.bind_some, ra_nf_ap, nI_add, ra_lit, pk_div, ra_mx0, ra_upd]
  congr 2
  funext i
  unfold ra_un ra_wt
  by_cases e4 : i = 4
  · subst e4; simp
  by_cases e5 : i = 5
  · subst e5; simp
  by_cases e6 : i = 6
  · subst e6; simp
  by_cases e8 : i = 8
  · subst e8; simp
  simp [e4, e5, e6, e8]
theorem rr_waits {g γ κ τ : Nat → Nat} {m : Nat} (hm : m < 1000) (h4 : γ 4 ≤ 30) (h5 : γ 5 ≤ 20) (h6 : γ 6 ≤ 99) : f_X3_waits (ra_nf g) (ra_st γ κ τ) (nI m) = some (ra_st (ra_wt γ m) κ τ) := by
  unfold f_X3_waits
  simp (disch := omega) only [Option.bind_some, ra_st_lo, nI_add, ra_lit, pk_div, ra_most, ra_mx0, ra_st_u]
  congr 2
  funext i
  unfold ra_un ra_wt
  by_cases e4 : i = 4
  · subst e4; simp
  by_cases e5 : i = 5
  · subst e5; simp
  by_cases e6 : i = 6
  · subst e6; simp
  by_cases e8 : i = 8
  · subst e8; simp
  simp [e4, e5, e6, e8]
end RAFing
