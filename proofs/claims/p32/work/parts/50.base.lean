/-! the class's side: numbers, the finger, a hand's letters -/
/-! numbers of both sides as naturals -/
section RABase
theorem ra_lit (n : Nat) : (OfNat.ofNat n : Int32) = nI (OfNat.ofNat n) := Eq.trans rfl rfl
def ra_un (σ : Nat → Nat) (k v : Nat) : Nat → Nat := fun j => if j = k then v else σ j
def ra_nf (σ : Nat → Nat) : Nat → Int32 := fun i => nI (σ i)
theorem ra_nf_ap (σ : Nat → Nat) (i : Nat) : ra_nf σ i = nI (σ i) := rfl
theorem ra_upd (σ : Nat → Nat) (k v : Nat) : upd (ra_nf σ) k (nI v) = ra_nf (ra_un σ k v) := by
  funext j
  unfold upd ra_nf ra_un
  split <;> rfl
theorem ra_us (σ : Nat → Nat) (k v : Nat) : ra_un σ k v k = v := by
  unfold ra_un
  rw [if_pos rfl]
theorem ra_ud (σ : Nat → Nat) {k j : Nat} (v : Nat) (h : j ≠ k) : ra_un σ k v j = σ j := by
  unfold ra_un
  rw [if_neg h]
theorem ra_int (x : Int32) : ∃ n : Nat, n < 2 ^ 32 ∧ x = nI n :=
  ⟨x.toBitVec.toNat, x.toBitVec.isLt, Int32.toBitVec_inj.mp (BitVec.eq_of_toNat_eq (by rw [pk_tn x.toBitVec.isLt]))⟩
theorem ra_fex (f : Nat → Int32) : ∃ σ : Nat → Nat, f = ra_nf σ :=
  ⟨fun i => (f i).toBitVec.toNat, funext fun i => Int32.toBitVec_inj.mp (BitVec.eq_of_toNat_eq (by unfold ra_nf; rw [pk_tn (f i).toBitVec.isLt]))⟩
theorem ra_mx {a b : Nat} (ha : a < 2 ^ 30) (hb : b < 2 ^ 30) : rf_max 0 (nI a - nI b) = nI (a - b) := by
  unfold rf_max
  by_cases h : b ≤ a
  · rw [pk_sub h]
    by_cases h2 : b = a
    · subst h2
      rw [Nat.sub_self]
      rfl
    · rw [if_pos (show (0 : Int32) < nI (a - b) from (nI_ltI (a := 0) (b := a - b) (by decide) (by omega)).mpr (by omega))]
  · have : nI a - nI b < 0 := pk_sneg hb (by omega)
    rw [if_neg (fun z => by
      have h1 := Int32.lt_iff_toInt_lt.mp this
      have h2 := Int32.lt_iff_toInt_lt.mp z
      omega), show a - b = 0 by omega]
    rfl
theorem ra_mxn {a b : Nat} (ha : a < 2 ^ 31) (hb : b < 2 ^ 31) : rf_max (nI a) (nI b) = nI (max a b) := by
  unfold rf_max
  by_cases h : a < b
  · rw [if_pos ((nI_ltI ha hb).mpr h), show max a b = b by omega]
  · rw [if_neg (fun z => h ((nI_ltI ha hb).mp z)), show max a b = a by omega]
theorem ra_mnn {a b : Nat} (ha : a < 2 ^ 31) (hb : b < 2 ^ 31) : rf_min (nI a) (nI b) = nI (min a b) := by
  unfold rf_min
  by_cases h : b < a
  · rw [if_pos ((nI_ltI hb ha).mpr h), show min a b = b by omega]
  · rw [if_neg (fun z => h ((nI_ltI hb ha).mp z)), show min a b = a by omega]
theorem ra_at {n : Nat} (f : Nat → Int32) {i : Nat} (hi : i < n) (hn : n < 2 ^ 31) : f_X2_at n f (nI i) = some (f i) := by
  unfold f_X2_at
  rw [if_neg (nI_pos (by omega)), if_neg (show ¬ Int32.ofNat n ≤ nI i from nI_ge hi hn), if_pos (nI_in hi hn), nI_clamp (by omega)]
theorem ra_put {n : Nat} (f : Nat → Int32) {i : Nat} (v : Int32) (hi : i < n) (hn : n < 2 ^ 31) : f_X2_put n f (nI i) v = some (upd f i v) := by
  unfold f_X2_put
  rw [if_neg (nI_pos (by omega)), if_neg (show ¬ Int32.ofNat n ≤ nI i from nI_ge hi hn), if_pos (nI_in hi hn), nI_clamp (by omega)]
theorem ra_mx0 {a b : Nat} (ha : a < 2 ^ 30) (hb : b < 2 ^ 30) : rf_max (nI 0) (nI a - nI b) = nI (a - b) := ra_mx ha hb
theorem ra_at0 {n : Nat} (f : Nat → Int32) (hi : 0 < n) (hn : n < 2 ^ 31) : f_X2_at n f 0 = some (f 0) := ra_at f hi hn
def ra_tk (k th sw co he : Nat) : Nat :=
  if k = 1 then th + sw / 2 - co / 4 else if k = 2 then th + sw - co + sw else if k = 3 then th + sw - co + sw + (if 9 < sw then 3 else 0) else if k = 4 then th + sw / 2 - co / 4 + he else if k = 5 then th + sw / 2 - co / 4 + he - 10 else th + sw - co
theorem ra_tk_le {k th sw co he : Nat} (h2 : th < 1000) (h3 : sw < 1000) (h5 : he < 1000) : ra_tk k th sw co he < 10000 := by
  unfold ra_tk
  repeat' split
  all_goals omega
theorem ra_tkC {k th sw co he : Nat} (h1 : k < 100) (h2 : th < 1000) (h3 : sw < 1000) (h4 : co < 1000) (h5 : he < 1000) : f_X2_thickness (nI k) (nI th) (nI sw) (nI co) (nI he) = some (nI (ra_tk k th sw co he)) := by
  unfold f_X2_thickness ra_tk
  simp (disch := omega) only [ra_lit, nI_add, pk_div, ra_mx0, Option.bind_some, nI_eq, nI_leI]
  repeat' split
  all_goals first | rfl | omega | (congr 2; omega)
def ra_al (k br : Nat) : Nat := if k = 1 then 4 else if k = 2 then 7 else if k = 3 then 9 - br else if k = 4 then 6 else if k = 5 then 15 else if k = 6 then 4 else 0
def ra_mi (k : Nat) : Nat := if k = 1 then 2 else if k = 2 then 3 else if k = 3 then 4 else if k = 5 then 6 else if k = 6 then 8 else 1
def ra_sw (k : Nat) : Nat := if k = 2 then 3 else if k = 3 then 1 else if k = 5 then 1 else if k = 4 then 5 else 2
def ra_hm (k : Nat) : Nat := if k = 4 then 3 else if k = 5 then 2 else 1
def ra_cd (k co : Nat) : Nat := if k = 6 then min 20 (co + 8) else co
theorem ra_al_le (k br : Nat) : ra_al k br ≤ 15 := by
  unfold ra_al
  repeat' split
  all_goals omega
theorem ra_mi_le (k : Nat) : 1 ≤ ra_mi k ∧ ra_mi k ≤ 8 := by
  unfold ra_mi
  repeat' split
  all_goals omega
theorem ra_sw_le (k : Nat) : 1 ≤ ra_sw k ∧ ra_sw k ≤ 5 := by
  unfold ra_sw
  repeat' split
  all_goals omega
theorem ra_hm_le (k : Nat) : 1 ≤ ra_hm k ∧ ra_hm k ≤ 3 := by
  unfold ra_hm
  repeat' split
  all_goals omega
theorem ra_cd_le {k co : Nat} (h : co ≤ 20) : ra_cd k co ≤ 20 ∧ co ≤ ra_cd k co := by
  unfold ra_cd
  split <;> omega
theorem ra_alC {k br : Nat} (hk : k < 1000) (hb : br ≤ 9) : f_X2_allowance (nI k) (nI br) = some (nI (ra_al k br)) := by
  unfold f_X2_allowance ra_al
  simp (disch := omega) only [ra_lit, nI_eq, pk_sub]
  repeat' split
  all_goals rfl
theorem ra_a2 : ∀ k, k < 7 → rf_a2 k = nI (ra_mi k) := by decide
theorem ra_a3 : ∀ k, k < 7 → rf_a3 k = nI (ra_sw k) := by decide
theorem ra_a4 : ∀ k, k < 7 → rf_a4 k = nI (ra_hm k) := by decide
theorem ra_ltT {a b : Nat} (h : a < b) : (a < b) = True := eq_true h
theorem ra_ltF {a b : Nat} (h : b ≤ a) : (a < b) = False := eq_false (by omega)
theorem ra_leT {a b : Nat} (h : a ≤ b) : (a ≤ b) = True := eq_true h
theorem ra_leF {a b : Nat} (h : b < a) : (a ≤ b) = False := eq_false (by omega)
theorem ra_eqT {a b : Nat} (h : a = b) : (a = b) = True := eq_true h
theorem ra_eqF {a b : Nat} (h : a ≠ b) : (a = b) = False := eq_false h
theorem ra_10 : (nI 1 = nI 0) = False := eq_false (by decide)
theorem ra_00 : (nI 0 = nI 0) = True := eq_true rfl
end RABase

/-! the finger: what a try and a wait do, both sides -/
section RAFing
theorem ra_b01 {c : Prop} {_ : Decidable c} : nI (if c then 1 else 0) &&& nI 1 = nI (if c then 1 else 0) := by
  split <;> rfl
theorem ra_b0 {c : Prop} {_ : Decidable c} : (nI (if c then 1 else 0) = nI 0) = ¬ c := by
  by_cases h : c
  · rw [if_pos h]
    exact propext ⟨fun z => absurd z (show ¬ nI 1 = nI 0 by decide), fun z => absurd h z⟩
  · rw [if_neg h]
    exact propext ⟨fun _ => h, fun _ => rfl⟩
theorem ra_ifin {α : Type} {c N : Nat} {_ : Decidable (¬ (c < 0 ∨ N ≤ c))} {a b : α} (h : c < N) : (if ¬ (c < 0 ∨ N ≤ c) then a else b) = a := if_pos (by omega)
/-- a finger as it can be -/
def ra_ok (γ κ τ : Nat → Nat) : Prop :=
  γ 0 ≤ 6 ∧ γ 3 ≤ γ 0 ∧ 100 ≤ γ 1 ∧ γ 1 ≤ 250 ∧ 1 ≤ γ 2 ∧ γ 2 ≤ 9 ∧ γ 4 ≤ 30 ∧ γ 5 ≤ 20 ∧ γ 6 ≤ 99 ∧ γ 7 ≤ 9 ∧ (∀ j, κ j ≤ 5) ∧ (∀ j, τ j ≤ 240)
abbrev ra_ov (γ κ τ : Nat → Nat) (k : Nat) : Prop := ra_tk (κ (γ 3)) (τ (γ 3)) (γ 4) (ra_cd k (γ 5)) (γ 7) ≤ γ 1 + ra_al k (γ 2)
def ra_wear (γ : Nat → Nat) (k : Nat) : Nat → Nat := fun i =>
  if i = 4 then min 30 (γ 4 + ra_sw k) else if i = 5 then ra_cd k (γ 5) else if i = 6 then min 99 (γ 6 + (if k = 5 then 5 else 0)) else if i = 8 then γ 8 + ra_mi k else if i = 9 then γ 9 + ra_hm k else γ i
def ra_tr (γ κ τ : Nat → Nat) (k : Nat) : Nat → Nat := if ra_ov γ κ τ k then ra_un (ra_wear γ k) 3 (γ 3 + 1) else ra_wear γ k
def ra_wt (γ : Nat → Nat) (m : Nat) : Nat → Nat := fun i =>
  if i = 4 then γ 4 - m / 2 else if i = 5 then γ 5 - m / 3 else if i = 6 then γ 6 - m else if i = 8 then γ 8 + m else γ i
theorem ra_wear_ok {γ κ τ : Nat → Nat} {k : Nat} (h : ra_ok γ κ τ) : ra_ok (ra_wear γ k) κ τ := by
  obtain ⟨h0, h1, h2, h3, h4, h5, h6, h7, h8, h9, h10, h11⟩ := h
  have hc := ra_cd_le (k := k) h7
  exact ⟨h0, h1, h2, h3, h4, h5, Nat.min_le_left _ _, hc.1, Nat.min_le_left _ _, h9, h10, h11⟩
theorem ra_wt_ok {γ κ τ : Nat → Nat} {m : Nat} (h : ra_ok γ κ τ) : ra_ok (ra_wt γ m) κ τ := by
  obtain ⟨h0, h1, h2, h3, h4, h5, h6, h7, h8, h9, h10, h11⟩ := h
  exact ⟨h0, h1, h2, h3, h4, h5, by show γ 4 - m / 2 ≤ 30; omega, by show γ 5 - m / 3 ≤ 20; omega, by show γ 6 - m ≤ 99; omega, h9, h10, h11⟩
theorem ra_tr_ok {γ κ τ : Nat → Nat} {k : Nat} (h : ra_ok γ κ τ) (hf : γ 3 < γ 0) : ra_ok (ra_tr γ κ τ k) κ τ := by
  unfold ra_tr
  split
  · obtain ⟨h0, h1, h2⟩ := ra_wear_ok (k := k) h
    exact ⟨h0, hf, h2⟩
  · exact ra_wear_ok h
theorem rc_isOff (γ : Nat → Nat) (h0 : γ 0 < 1000) (h3 : γ 3 < 1000) : f_X0_isOff (ra_nf γ) = some (nI (if γ 3 < γ 0 then 0 else 1)) := by
  unfold f_X0_isOff
  simp (disch := omega) only [ra_lit, ra_nf_ap, nI_ltI]
  split <;> rfl
theorem rc_thickNow {γ κ τ : Nat → Nat} (h : ra_ok γ κ τ) {j : Nat} (hj : j < 6) : f_X0_thickNow (ra_nf γ) (ra_nf κ) (ra_nf τ) (nI j) = some (nI (ra_tk (κ j) (τ j) (γ 4) (γ 5) (γ 7))) := by
  obtain ⟨h0, h1, h2, h3, h4, h5, h6, h7, h8, h9, h10, h11⟩ := h
  have := h10 j
  have := h11 j
  unfold f_X0_thickNow
  simp (disch := omega) only [ra_lit, ra_at, ra_nf_ap, Option.bind_some, ra_tkC]
theorem rc_coldAhead {γ : Nat → Nat} {k : Nat} (hk : k < 1000) (h5 : γ 5 ≤ 20) : f_X0_coldAhead (ra_nf γ) (nI k) = some (nI (ra_cd k (γ 5))) := by
  unfold f_X0_coldAhead ra_cd
  simp (disch := omega) only [ra_lit, nI_eq, nI_add, ra_mnn, Option.bind_some, ra_nf_ap]
  split <;> rfl
theorem rc_over {γ κ τ : Nat → Nat} (h : ra_ok γ κ τ) {k : Nat} (hk : k < 1000) : f_X0_goesOver (ra_nf γ) (ra_nf κ) (ra_nf τ) (nI k) = some (nI (if γ 3 < γ 0 ∧ ra_ov γ κ τ k then 1 else 0)) := by
  have h' := h
  obtain ⟨h0, h1, h2, h3, h4, h5, h6, h7, h8, h9, h10, h11⟩ := h
  have := h10 (γ 3)
  have := h11 (γ 3)
  have hc := ra_cd_le (k := k) h7
  have ha := ra_al_le k (γ 2)
  have ht := ra_tk_le (k := κ (γ 3)) (th := τ (γ 3)) (sw := γ 4) (co := ra_cd k (γ 5)) (he := γ 7) (by omega) (by omega) (by omega)
  unfold f_X0_goesOver
  rw [rc_isOff γ (by omega) (by omega)]
  by_cases ho : γ 3 < γ 0
  · simp (disch := omega) only [if_pos ho, Option.bind_some, ra_lit, ra_at, ra_nf_ap, rc_coldAhead, ra_tkC, ra_alC, nI_add, nI_ltI, true_and, if_true, ho]
    unfold ra_ov
    split
    · rw [if_neg (by omega)]
    · rw [if_pos (by omega)]
  · simp only [if_neg ho, Option.bind_some, ho, false_and, if_false, ra_lit]
    rw [if_neg (by decide)]
theorem rc_strain {γ : Nat → Nat} {k : Nat} (hk : k < 7) (h4 : γ 4 ≤ 30) (h5 : γ 5 ≤ 20) (h6 : γ 6 ≤ 99) : f_X0_strain (ra_nf γ) (nI k) = some (ra_nf (ra_wear γ k)) := by
  have hs := ra_sw_le k
  unfold f_X0_strain
  simp (disch := omega) only [rc_coldAhead, ra_at, Option.bind_some, ra_a2, ra_a3, ra_a4, ra_nf_ap, nI_add, ra_lit, ra_mnn, nI_eq, ra_upd]
  have e : ∀ v : Nat, v = min 99 (γ 6 + (if k = 5 then 5 else 0)) → ra_un (ra_un (ra_un (ra_un (ra_un γ 5 (ra_cd k (γ 5))) 4 (min 30 (γ 4 + ra_sw k))) 9 (γ 9 + ra_hm k)) 8 (γ 8 + ra_mi k)) 6 v = ra_wear γ k := by
    intro v hv
    funext i
    unfold ra_un ra_wear
    by_cases e4 : i = 4
    · subst e4; simp
    by_cases e5 : i = 5
    · subst e5; simp
    by_cases e6 : i = 6
    · subst e6; simp [hv]
    by_cases e8 : i = 8
    · subst e8; simp
    by_cases e9 : i = 9
    · subst e9; simp
    simp [e4, e5, e6, e8, e9]
  split
  · rename_i hk5
    rw [e _ (by rw [if_pos hk5])]
  · rename_i hk5
    rw [← e _ rfl, if_neg hk5]
    congr 2
    funext i
    by_cases e6 : i = 6
    · subst e6
      rw [ra_us]
      show γ 6 = _
      omega
    · rw [ra_ud _ _ e6]
theorem rc_attempt {γ κ τ : Nat → Nat} (h : ra_ok γ κ τ) {k : Nat} (hk : k < 7) (hf : γ 3 < γ 0) : f_X0_attempt (ra_nf γ) (ra_nf κ) (ra_nf τ) (nI k) = some (nI (if ra_ov γ κ τ k then 1 else 0), ra_nf (ra_tr γ κ τ k)) := by
  have h' := h
  obtain ⟨h0, h1, h2, h3, h4, h5, h6, h7, h8, h9, h10, h11⟩ := h
  unfold f_X0_attempt
  rw [rc_over h' (by omega), Option.bind_some, rc_strain hk h6 h7 h8, Option.bind_some]
  have e : (if γ 3 < γ 0 ∧ ra_ov γ κ τ k then 1 else 0) = (if ra_ov γ κ τ k then 1 else 0) := by
    simp only [hf, true_and]
  rw [e]
  by_cases ho : ra_ov γ κ τ k
  · simp only [if_pos ho, ra_tr]
    rw [if_neg (by decide)]
    simp only [Option.bind_some]
    rw [if_pos (by decide), ra_lit, ra_nf_ap, nI_add, ra_upd]
    rfl
  · simp only [if_neg ho, ra_tr]
    rw [if_pos (by decide), if_pos (by decide)]
theorem rc_rest {γ : Nat → Nat} {m : Nat} (hm : m < 1000) (h4 : γ 4 ≤ 30) (h5 : γ 5 ≤ 20) (h6 : γ 6 ≤ 99) : f_X0_rest (ra_nf γ) (nI m) = some (ra_nf (ra_wt γ m)) := by
  unfold f_X0_rest
  simp (disch := omega) only [Option.bind_some, ra_nf_ap, nI_add, ra_lit, pk_div, ra_mx0, ra_upd]
  congr 2
  funext i
  unfold ra_un ra_wt
  by_cases e4 : i = 4
  · subst e4; simp
  by_cases e5 : i = 5
  · subst e5; simp
  by_cases e6 : i = 6
  · subst e6; simp
  by_cases e8 : i = 8
  · subst e8; simp
  simp [e4, e5, e6, e8]
end RAFing

/-! the calls without a loop, both sides at once -/
section RASimple
def ra_rf (φ : Nat → Nat) (c : Nat) : Nat → Nat := ra_un φ c (φ c + 1)
theorem ra_neg_neg (x : Int32) : - -x = x := Int32.neg_neg
theorem rc_refuse (g : Nat → Int32) (φ : Nat → Nat) {c : Nat} (hc : c < 7) : f_X2_refuse g (ra_nf φ) (-nI c) = some (-nI c, ra_nf (ra_rf φ c)) := by
  unfold f_X2_refuse
  simp (disch := omega) only [ra_neg_neg, ra_at, Option.bind_some, ra_nf_ap, ra_lit, nI_add, ra_put, ra_upd]
  rfl
theorem rc_copy (a b c d e f : Nat → Int32) : f_X0_copyFrom a b c d e f = some (d, e, f) := rfl
theorem rc_hasMin (γ : Nat → Nat) {m : Nat} (h8 : γ 8 < 100000) (hm : m < 100000) : f_X0_hasMinutes (ra_nf γ) (nI m) = some (nI (if γ 8 + m ≤ 999 then 1 else 0)) := by
  unfold f_X0_hasMinutes
  simp (disch := omega) only [ra_nf_ap, nI_add, ra_lit, nI_ltI]
  split
  · rw [if_neg (by omega)]
  · rw [if_pos (by omega)]
theorem ra_nz {c : Nat} (h : c = 2 ∨ c = 3) : ¬ -nI c = 0 := by
  rcases h with rfl | rfl <;> decide
theorem ra_nz' {c : Nat} (h : c = 2 ∨ c = 3) : ¬ -nI c = nI 0 := ra_nz h
end RASimple

/-! more calls without a loop -/
section RASimple2
theorem ra_nLe {p : Int32} {a : Nat} (h : p < nI 0) (ha : a < 2 ^ 31) : (nI a ≤ p) = False := eq_false fun z => by
  have h1 := Int32.lt_iff_toInt_lt.mp h
  have h2 := Int32.le_iff_toInt_le.mp z
  rw [nI_toInt ha] at h2
  have h3 : (nI 0).toInt = 0 := by decide
  omega
theorem ra_nLt {p : Int32} {a : Nat} (h : p < nI 0) (ha : a < 2 ^ 31) : (nI a < p) = False := eq_false fun z => by
  have h1 := Int32.lt_iff_toInt_lt.mp h
  have h2 := Int32.lt_iff_toInt_lt.mp z
  rw [nI_toInt ha] at h2
  have h3 : (nI 0).toInt = 0 := by decide
  omega
theorem ra_pLe {p : Int32} {a : Nat} (h : p < nI 0) (ha : a < 2 ^ 31) : (p ≤ nI a) = True := eq_true (by
  have h1 := Int32.lt_iff_toInt_lt.mp h
  apply Int32.le_iff_toInt_le.mpr
  rw [nI_toInt ha]
  have h3 : (nI 0).toInt = 0 := by decide
  omega)
theorem ra_pLt {p : Int32} {a : Nat} (h : p < nI 0) (ha : a < 2 ^ 31) : (p < nI a) = True := eq_true (by
  have h1 := Int32.lt_iff_toInt_lt.mp h
  apply Int32.lt_iff_toInt_lt.mpr
  rw [nI_toInt ha]
  have h3 : (nI 0).toInt = 0 := by decide
  omega)
theorem ra_pEq {p : Int32} {a : Nat} (h : p < nI 0) (ha : a < 2 ^ 31) : (p = nI a) = False := eq_false fun z => by
  subst z
  exact absurd h (nI_nlt (by omega) ha)
theorem ra_a00 : rf_a0 0 = nI 100 := rfl
theorem ra_a01 : rf_a0 1 = nI 1 := rfl
theorem ra_a02 : rf_a0 2 = nI 0 := rfl
theorem ra_a03 : rf_a0 3 = nI 0 := rfl
theorem ra_a04 : rf_a0 4 = nI 0 := rfl
theorem ra_a10 : rf_a1 0 = nI 250 := rfl
theorem ra_a11 : rf_a1 1 = nI 9 := rfl
theorem ra_a12 : rf_a1 2 = nI 30 := rfl
theorem ra_a13 : rf_a1 3 = nI 20 := rfl
theorem ra_a14 : rf_a1 4 = nI 9 := rfl
/-- a number of the finger set -/
def ra_pl (k : Nat) : Nat := if k = 0 then 1 else if k = 1 then 2 else if k = 2 then 4 else if k = 3 then 5 else 7
theorem ra_nzF {c : Nat} (h : c = 2 ∨ c = 3) : (-nI c = nI 0) = False := eq_false (ra_nz h)
end RASimple2

/-! goes, stop, waited, judge, lots -/
section RALoops
def ra_fail (κ τ : Nat → Nat) (k : Nat) : Nat → Nat → (Nat → Nat) → Nat
  | 0, n, _ => n
  | d + 1, n, γ => if ra_ov γ κ τ k then n else ra_fail κ τ k d (n + 1) (ra_wear γ k)
def ra_enc (r : Nat) : Int32 := if r < 13 then nI r else -nI 9
theorem ra_fail_le (κ τ : Nat → Nat) (k : Nat) : ∀ (d n : Nat) (γ : Nat → Nat), n ≤ ra_fail κ τ k d n γ ∧ ra_fail κ τ k d n γ ≤ n + d := by
  intro d
  induction d with
  | zero => intro n γ; exact ⟨Nat.le_refl _, Nat.le_refl _⟩
  | succ d ih =>
    intro n γ
    unfold ra_fail
    have := ih (n + 1) (ra_wear γ k)
    split <;> omega
theorem rc_faL {κ τ : Nat → Nat} (a b c e : Nat → Int32) {k : Nat} (hk : k < 7) : ∀ (d n m : Nat) (γ : Nat → Nat), n + d = 13 → d < m → ra_ok γ κ τ → γ 3 < γ 0 →
    ∃ γ', f_X2_failuresAhead_L13 a b c e (nI k) (ra_nf κ) (ra_nf τ) m (nI n) (ra_nf γ) = some (if ra_fail κ τ k d n γ < 13 then Sum.inl (nI (ra_fail κ τ k d n γ), ra_nf γ', ra_nf κ, ra_nf τ) else Sum.inr (nI 13, ra_nf γ')) := by
  intro d
  induction d with
  | zero =>
    intro n m γ hn hm h ho
    obtain ⟨m, rfl⟩ : ∃ q, m = q + 1 := ⟨m - 1, by omega⟩
    obtain rfl : n = 13 := by omega
    refine ⟨γ, ?_⟩
    rw [f_X2_failuresAhead_L13]
    simp (disch := omega) only [↓reduceIte, ra_lit, ra_nf_ap, nI_add, nI_clamp, nI_ltI, nI_leI, nI_eq, Option.bind_some, if_true, if_false, not_false_eq_true, not_true_eq_false, ra_ltT, ra_ltF, ra_leT, ra_leF, ra_eqT, ra_eqF, or_false, false_or, or_true, true_or, and_true, true_and, and_false, false_and, ra_fail]
  | succ d ih =>
    intro n m γ hn hm h ho
    obtain ⟨m, rfl⟩ : ∃ q, m = q + 1 := ⟨m - 1, by omega⟩
    have hf := ra_fail_le κ τ k d (n + 1) (ra_wear γ k)
    by_cases hov : ra_ov γ κ τ k
    · refine ⟨γ, ?_⟩
      rw [f_X2_failuresAhead_L13]
      simp (disch := omega) only [↓reduceIte, ra_lit, ra_nf_ap, nI_add, nI_clamp, nI_ltI, nI_leI, nI_eq, Option.bind_some, if_true, if_false, not_false_eq_true, not_true_eq_false, ra_ltT, ra_ltF, ra_leT, ra_leF, ra_eqT, ra_eqF, or_false, false_or, or_true, true_or, and_true, true_and, and_false, false_and, ra_fail, rc_over h, ho, if_pos hov]
    · obtain ⟨γ', h1⟩ := ih (n + 1) m (ra_wear γ k) (by omega) (by omega) (ra_wear_ok h) ho
      refine ⟨γ', ?_⟩
      rw [f_X2_failuresAhead_L13]
      obtain ⟨h0, h1', h2, h3, h4, h5, h6, h7, h8, h9, h10, h11⟩ := h
      simp (disch := omega) only [↓reduceIte, ra_lit, ra_nf_ap, nI_add, nI_clamp, nI_ltI, nI_leI, nI_eq, Option.bind_some, if_true, if_false, not_false_eq_true, not_true_eq_false, ra_ltT, ra_ltF, ra_leT, ra_leF, ra_eqT, ra_eqF, or_false, false_or, or_true, true_or, and_true, true_and, and_false, false_and, ra_fail, rc_over (show ra_ok γ κ τ from ⟨h0, h1', h2, h3, h4, h5, h6, h7, h8, h9, h10, h11⟩), ho, if_neg hov, rc_strain]
      exact h1
theorem rc_fa {γ κ τ : Nat → Nat} (a ta tb tc : Nat → Int32) {k : Nat} (hk : k < 7) (h : ra_ok γ κ τ) (ho : γ 3 < γ 0) :
    ∃ γ', f_X2_failuresAhead a (ra_nf γ) (ra_nf κ) (ra_nf τ) ta tb tc (nI k) = some (ra_enc (ra_fail κ τ k 13 0 γ), ra_nf γ', ra_nf κ, ra_nf τ) := by
  obtain ⟨γ', h1⟩ := rc_faL a (ra_nf γ) (ra_nf κ) (ra_nf τ) hk 13 0 rf_fu γ rfl (by unfold rf_fu; omega) h ho
  refine ⟨γ', ?_⟩
  unfold f_X2_failuresAhead
  rw [rc_copy, Option.bind_some]
  have h1 : f_X2_failuresAhead_L13 a (ra_nf γ) (ra_nf κ) (ra_nf τ) (nI k) (ra_nf κ) (ra_nf τ) rf_fu 0 (ra_nf γ) = _ := h1
  simp only [h1, Option.bind_some]
  unfold ra_enc
  split <;> rfl
/-- a move: a try, a wait of five, nothing -/
def ra_mv (γ κ τ : Nat → Nat) (v : Nat) : Nat → Nat := if v < 7 then ra_tr γ κ τ v else if v = 7 then ra_wt γ 5 else γ
theorem ra_mv_ok {γ κ τ : Nat → Nat} {v : Nat} (h : ra_ok γ κ τ) (ho : γ 3 < γ 0) : ra_ok (ra_mv γ κ τ v) κ τ := by
  unfold ra_mv
  split
  · exact ra_tr_ok h ho
  · split
    · exact ra_wt_ok h
    · exact h
theorem rc_isTry {v : Nat} (hv : v < 1000) : f_X2_isTry (nI v) = some (nI (if v < 7 then 1 else 0)) := by
  unfold f_X2_isTry
  by_cases c : v < 7
  · simp (disch := omega) only [↓reduceIte, ra_lit, ra_nf_ap, nI_add, nI_clamp, nI_ltI, nI_leI, nI_eq, Option.bind_some, if_true, if_false, not_false_eq_true, not_true_eq_false, ra_ltT, ra_ltF, ra_leT, ra_leF, ra_eqT, ra_eqF, or_false, false_or, or_true, true_or, and_true, true_and, and_false, false_and]
  · simp (disch := omega) only [↓reduceIte, ra_lit, ra_nf_ap, nI_add, nI_clamp, nI_ltI, nI_leI, nI_eq, Option.bind_some, if_true, if_false, not_false_eq_true, not_true_eq_false, ra_ltT, ra_ltF, ra_leT, ra_leF, ra_eqT, ra_eqF, or_false, false_or, or_true, true_or, and_true, true_and, and_false, false_and]
theorem ra_unun (f : Nat → Nat) (k a b : Nat) : ra_un (ra_un f k a) k b = ra_un f k b := by
  funext j
  unfold ra_un
  split <;> rfl
end RALoops

/-! a hand told in letters: its form -/
section RARead
def ra_cd0 (L : Nat) (lt : Nat → Nat) (p : Nat) : Nat := if p < L then lt p else 0
def ra_la (L : Nat) (lt : Nat → Nat) (p : Nat) : Int32 := if p < L then nI (lt p) else -nI 1
def ra_kd (c : Nat) : Nat := if c = 106 then 4 else if c = 107 then 1 else if c = 112 then 0 else if c = 114 then 3 else if c = 115 then 2 else if c = 116 then 5 else 6
def ra_sl (c : Nat) : Nat := if c = 99 then 4 else if c = 104 then 3 else if c = 112 then 6 else if c = 114 then 6 else if c = 115 then 4 else if c = 116 then 3 else if c = 119 then 4 else 0
theorem ra_sl_le (c : Nat) : ra_sl c = 0 ∨ (3 ≤ ra_sl c ∧ ra_sl c ≤ 6) := by
  unfold ra_sl
  repeat' split
  all_goals omega
def ra_dgt (L : Nat) (lt : Nat → Nat) (p i : Nat) : Bool := decide (48 ≤ ra_cd0 L lt (p + i) ∧ ra_cd0 L lt (p + i) ≤ 57)
def ra_ft (L : Nat) (lt : Nat → Nat) (st i : Nat) : Bool :=
  if i + 1 = ra_sl (ra_cd0 L lt st) then decide (ra_cd0 L lt (st + i) = 59) else if ra_cd0 L lt st = 112 ∧ i = 1 then decide (ra_kd (ra_cd0 L lt (st + i)) < 6) else ra_dgt L lt st i
def ra_ff (f : Nat → Bool) : Nat → Nat → Nat
  | 0, i => i
  | d + 1, i => if f i then ra_ff f d (i + 1) else i
theorem ra_ff_le (f : Nat → Bool) : ∀ d i, i ≤ ra_ff f d i ∧ ra_ff f d i ≤ i + d := by
  intro d
  induction d with
  | zero => intro i; exact ⟨Nat.le_refl _, Nat.le_refl _⟩
  | succ d ih =>
    intro i
    unfold ra_ff
    have := ih (i + 1)
    split <;> omega
theorem ra_ff_app (f : Nat → Bool) (b : Nat) : ∀ a i, ra_ff f (a + b) i = if ra_ff f a i < i + a then ra_ff f a i else ra_ff f b (i + a) := by
  intro a
  induction a with
  | zero =>
    intro i
    rw [Nat.zero_add]
    show _ = if i < i + 0 then _ else _
    rw [if_neg (by omega)]
    rfl
  | succ a ih =>
    intro i
    rw [show a + 1 + b = (a + b) + 1 by omega]
    rw [show ra_ff f (a + b + 1) i = (if f i then ra_ff f (a + b) (i + 1) else i) from rfl, show ra_ff f (a + 1) i = (if f i then ra_ff f a (i + 1) else i) from rfl]
    by_cases c : f i = true
    · simp only [if_pos c]
      have h := ih (i + 1)
      rw [show i + 1 + a = i + (a + 1) by omega] at h
      exact h
    · simp only [if_neg c]
      rw [if_pos (by omega)]
theorem ra_ff_sh {f g : Nat → Bool} : ∀ d i k, (∀ j, j < d → f (i + j) = g (k + j)) → ra_ff f d i + k = ra_ff g d k + i := by
  intro d
  induction d with
  | zero => intro i k _; exact Nat.add_comm _ _
  | succ d ih =>
    intro i k h
    have h0 := h 0 (by omega)
    rw [Nat.add_zero, Nat.add_zero] at h0
    have := ih (i + 1) (k + 1) (fun j hj => by
      have := h (j + 1) (by omega)
      rw [show i + 1 + j = i + (j + 1) by omega, show k + 1 + j = k + (j + 1) by omega]
      exact this)
    unfold ra_ff
    rw [h0]
    split
    · omega
    · omega
theorem ra_ff_all {f : Nat → Bool} : ∀ d i, ra_ff f d i = i + d → ∀ j, i ≤ j → j < i + d → f j = true := by
  intro d
  induction d with
  | zero => intro i _ j h1 h2; omega
  | succ d ih =>
    intro i h j h1 h2
    unfold ra_ff at h
    split at h
    · rename_i c
      by_cases e : j = i
      · subst e; exact c
      · exact ih (i + 1) (by omega) j (by omega) (by omega)
    · omega
section
variable {L : Nat} {lt : Nat → Nat}
theorem ra_laC (hlt : ∀ j, lt j ≤ 255) (p : Nat) : (ra_la L lt p = nI (ra_cd0 L lt p) ∧ ra_cd0 L lt p ≤ 255) ∨ (ra_la L lt p = -nI 1 ∧ ra_cd0 L lt p = 0) := by
  unfold ra_la ra_cd0
  by_cases c : p < L
  · left
    rw [if_pos c, if_pos c]
    exact ⟨rfl, hlt p⟩
  · right
    rw [if_neg c, if_neg c]
    exact ⟨rfl, rfl⟩
theorem ra_la_eq (hlt : ∀ j, lt j ≤ 255) {p v : Nat} (h0 : 0 < v) (hv : v < 256) : (ra_la L lt p = nI v) = (ra_cd0 L lt p = v) := by
  apply propext
  rcases ra_laC (L := L) hlt p with ⟨e, h⟩ | ⟨e, h⟩
  · rw [e, nI_eq (by omega) (by omega)]
  · rw [e, h]
    constructor
    · intro z
      have z := congrArg Int32.toInt z
      rw [nI_toInt (by omega), show (-nI 1).toInt = -1 by decide] at z
      omega
    · intro z
      omega
theorem ra_la_lt (hlt : ∀ j, lt j ≤ 255) {p v : Nat} (h0 : 0 < v) (hv : v < 256) : (ra_la L lt p < nI v) = (ra_cd0 L lt p < v) := by
  apply propext
  rcases ra_laC (L := L) hlt p with ⟨e, h⟩ | ⟨e, h⟩
  · rw [e, nI_ltI (by omega) (by omega)]
  · rw [e, h, Int32.lt_iff_toInt_lt, nI_toInt (by omega), show (-nI 1).toInt = -1 by decide]
    omega
theorem ra_lt_la (hlt : ∀ j, lt j ≤ 255) {p v : Nat} (h0 : 0 < v) (hv : v < 256) : (nI v < ra_la L lt p) = (v < ra_cd0 L lt p) := by
  apply propext
  rcases ra_laC (L := L) hlt p with ⟨e, h⟩ | ⟨e, h⟩
  · rw [e, nI_ltI (by omega) (by omega)]
  · rw [e, h, Int32.lt_iff_toInt_lt, nI_toInt (by omega), show (-nI 1).toInt = -1 by decide]
    omega
theorem rc_letterAt (G : Nat → Nat) (hG : G 0 = L) (hL : L ≤ 96) {p : Nat} (hp : p < 1000) : f_X2_letterAt (ra_nf G) (ra_nf lt) (nI p) = some (ra_la L lt p) := by
  unfold f_X2_letterAt ra_la
  by_cases c : p < L
  · simp (disch := omega) only [↓reduceIte, ra_lit, ra_nf_ap, nI_add, nI_clamp, nI_ltI, nI_leI, nI_eq, Option.bind_some, if_true, if_false, not_false_eq_true, not_true_eq_false, ra_ltT, ra_ltF, ra_leT, ra_leF, ra_eqT, ra_eqF, or_false, false_or, or_true, true_or, and_true, true_and, and_false, false_and, hG, ra_at]
  · simp (disch := omega) only [↓reduceIte, ra_lit, ra_nf_ap, nI_add, nI_clamp, nI_ltI, nI_leI, nI_eq, Option.bind_some, if_true, if_false, not_false_eq_true, not_true_eq_false, ra_ltT, ra_ltF, ra_leT, ra_leF, ra_eqT, ra_eqF, or_false, false_or, or_true, true_or, and_true, true_and, and_false, false_and, hG]
theorem rc_kindOf (hlt : ∀ j, lt j ≤ 255) (p : Nat) : f_X2_kindOf (ra_la L lt p) = some (if ra_kd (ra_cd0 L lt p) < 6 then nI (ra_kd (ra_cd0 L lt p)) else -nI 1) := by
  unfold f_X2_kindOf ra_kd
  simp (disch := omega) only [ra_lit, ra_la_eq hlt]
  repeat' split
  all_goals first | rfl | omega
theorem rc_sl (hlt : ∀ j, lt j ≤ 255) (p : Nat) : f_X2_statementLength (ra_la L lt p) = some (nI (ra_sl (ra_cd0 L lt p))) := by
  unfold f_X2_statementLength ra_sl
  simp (disch := omega) only [ra_lit, ra_la_eq hlt]
  repeat' split
  all_goals first | rfl | omega
theorem rc_fits (hlt : ∀ j, lt j ≤ 255) {st i : Nat} (hi : 1 ≤ i) (hi2 : i < ra_sl (ra_cd0 L lt st)) : f_X2_fits (ra_la L lt st) (nI i) (nI (ra_sl (ra_cd0 L lt st))) (ra_la L lt (st + i)) = some (nI (if ra_ft L lt st i then 1 else 0)) := by
  have hs := ra_sl_le (ra_cd0 L lt st)
  unfold f_X2_fits ra_ft ra_dgt
  rw [rc_kindOf hlt]
  generalize ra_sl (ra_cd0 L lt st) = len at hi2 hs
  simp (disch := omega) only [ra_lit, ra_la_eq hlt, ra_la_lt hlt, ra_lt_la hlt, pk_sub, nI_eq, Option.bind_some]
  have e1 : (i = len - 1) = (i + 1 = len) := propext (by omega)
  simp only [e1]
  by_cases c1 : i + 1 = len
  · simp only [if_pos c1]
    by_cases c2 : ra_cd0 L lt (st + i) = 59
    · simp only [c2, decide_true, if_true]
    · simp only [c2, decide_false, if_false]
      rfl
  · simp only [if_neg c1]
    have hdg : (if ra_cd0 L lt (st + i) < 48 then some (nI 0) else if 57 < ra_cd0 L lt (st + i) then some (nI 0) else some (nI 1)) = some (nI (if decide (48 ≤ ra_cd0 L lt (st + i) ∧ ra_cd0 L lt (st + i) ≤ 57) = true then 1 else 0)) := by
      by_cases d : 48 ≤ ra_cd0 L lt (st + i) ∧ ra_cd0 L lt (st + i) ≤ 57
      · rw [if_neg (by omega), if_neg (by omega), decide_eq_true d]
        rfl
      · rw [decide_eq_false d]
        by_cases d1 : ra_cd0 L lt (st + i) < 48
        · rw [if_pos d1]
          rfl
        · rw [if_neg d1, if_pos (by omega)]
          rfl
    by_cases c2 : ra_cd0 L lt st = 112
    · simp only [if_pos c2]
      by_cases c3 : i = 1
      · simp only [if_pos c3, if_pos (show ra_cd0 L lt st = 112 ∧ i = 1 from ⟨c2, c3⟩)]
        by_cases c4 : ra_kd (ra_cd0 L lt (st + i)) < 6
        · simp only [if_pos c4, decide_eq_true c4, if_true]
          rw [if_neg (nI_nlt (by omega) (by omega))]
        · simp only [if_neg c4, decide_eq_false c4]
          rw [if_pos (by decide)]
          rfl
      · simp only [if_neg c3, if_neg (show ¬ (ra_cd0 L lt st = 112 ∧ i = 1) from fun z => c3 z.2)]
        exact hdg
    · simp only [if_neg c2, if_neg (show ¬ (ra_cd0 L lt st = 112 ∧ i = 1) from fun z => c2 z.1)]
      exact hdg
theorem rc_L49 (G : Nat → Nat) (hG : G 0 = L) (hL : L ≤ 96) (hlt : ∀ j, lt j ≤ 255) (x2 : Int32) {st : Nat} (hst : st < 900) : ∀ (d i m : Nat), i + d = ra_sl (ra_cd0 L lt st) → 1 ≤ i → d < m →
    f_X2_formFault_L49 (ra_nf G) (ra_nf lt) (nI st) x2 (ra_la L lt st) (nI (ra_sl (ra_cd0 L lt st))) m (nI i) = some (if ra_ff (ra_ft L lt st) d i < ra_sl (ra_cd0 L lt st) then Sum.inl (nI (st + ra_ff (ra_ft L lt st) d i)) else Sum.inr (nI (ra_sl (ra_cd0 L lt st)))) := by
  have hs := ra_sl_le (ra_cd0 L lt st)
  intro d
  induction d with
  | zero =>
    intro i m hi h1 hm
    obtain ⟨m, rfl⟩ : ∃ q, m = q + 1 := ⟨m - 1, by omega⟩
    have hi : i = ra_sl (ra_cd0 L lt st) := by omega
    rw [f_X2_formFault_L49, ← hi]
    rw [if_pos (nI_le (Nat.le_refl _) (by omega))]
    show _ = some (if i < i then _ else _)
    rw [if_neg (by omega)]
  | succ d ih =>
    intro i m hi h1 hm
    obtain ⟨m, rfl⟩ : ∃ q, m = q + 1 := ⟨m - 1, by omega⟩
    have hle := ra_ff_le (ra_ft L lt st) d (i + 1)
    rw [f_X2_formFault_L49, if_neg (nI_ge (by omega) (by omega)), nI_add, rc_letterAt G hG hL (by omega), Option.bind_some, rc_fits hlt h1 (by omega), Option.bind_some, nI_1, Option.bind_some, ih (i + 1) m (by omega) (by omega) (by omega), show ra_ff (ra_ft L lt st) (d + 1) i = (if ra_ft L lt st i then ra_ff (ra_ft L lt st) d (i + 1) else i) from rfl]
    by_cases c : ra_ft L lt st i = true
    · simp only [if_pos c]
      rw [if_neg (show ¬ nI 1 = 0 by decide)]
    · simp only [if_neg c]
      rw [if_pos (show nI 0 = 0 from rfl), if_pos (by omega)]
def ra_nu (L : Nat) (lt : Nat → Nat) (p : Nat) : Nat → Nat
  | 0 => 0
  | d + 1 => 10 * ra_nu L lt p d + ra_cd0 L lt (p + d) - 48
theorem ra_unun' (f : Nat → Nat) (a b : Nat) : ra_un (ra_un f 3 a) 3 b = ra_un f 3 b := ra_unun f 3 a b
/-- the numbers that a statement tells -/
def ra_ns (L : Nat) (lt : Nat → Nat) (st : Nat) (nums : Nat → Int32) : Prop :=
  if ra_cd0 L lt st = 112 then nums 1 = nI (ra_kd (ra_cd0 L lt (st + 1))) ∧ nums 0 = nI (ra_nu L lt (st + 2) 3)
  else if ra_cd0 L lt st = 114 then nums 0 = nI (ra_nu L lt (st + 1) 3) ∧ nums 1 = nI (ra_nu L lt (st + 4) 1)
  else nums 0 = nI (ra_nu L lt (st + 1) (ra_sl (ra_cd0 L lt st) - 2))
def ra_R (L : Nat) (lt : Nat → Nat) (st : Nat) : Nat := ra_ff (ra_ft L lt st) (ra_sl (ra_cd0 L lt st) - 1) 1
theorem ra_R1 {st dg : Nat} (hs : ra_sl (ra_cd0 L lt st) = dg + 2) (hc : ra_cd0 L lt st ≠ 112) :
    ra_R L lt st = if ra_ff (ra_dgt L lt (st + 1)) dg 0 < dg then 1 + ra_ff (ra_dgt L lt (st + 1)) dg 0 else if ra_cd0 L lt (st + 1 + dg) = 59 then dg + 2 else dg + 1 := by
  have h1 : ra_ff (ra_ft L lt st) dg 1 + 0 = ra_ff (ra_dgt L lt (st + 1)) dg 0 + 1 := ra_ff_sh dg 1 0 (fun j hj => by
    unfold ra_ft
    rw [if_neg (by omega), if_neg (fun z => hc z.1)]
    unfold ra_dgt
    rw [show st + (1 + j) = st + 1 + (0 + j) by omega])
  unfold ra_R
  rw [hs, show dg + 2 - 1 = dg + 1 by omega, ra_ff_app, show ra_ff (ra_ft L lt st) dg 1 = ra_ff (ra_dgt L lt (st + 1)) dg 0 + 1 by omega]
  by_cases c : ra_ff (ra_dgt L lt (st + 1)) dg 0 < dg
  · rw [if_pos (by omega), if_pos c, Nat.add_comm]
  · rw [if_neg (by omega), if_neg c]
    unfold ra_ff ra_ft
    rw [if_pos (show 1 + dg + 1 = ra_sl (ra_cd0 L lt st) by omega), show st + (1 + dg) = st + 1 + dg by omega]
    by_cases c2 : ra_cd0 L lt (st + 1 + dg) = 59
    · rw [decide_eq_true c2, if_pos rfl, if_pos c2]
      unfold ra_ff
      omega
    · rw [decide_eq_false c2, if_neg (by decide), if_neg c2]
      omega
/-- what reading a statement answers -/
def ra_rd (L : Nat) (lt : Nat → Nat) (st : Nat) (M : Nat → Nat) (E : Option (Int32 × (Nat → Int32) × (Nat → Int32))) : Prop :=
  (ra_R L lt st < ra_sl (ra_cd0 L lt st) ∧ ∃ nums', E = some (nI 0, ra_nf (ra_un M 3 (st + ra_R L lt st)), nums')) ∨
  (ra_R L lt st = ra_sl (ra_cd0 L lt st) ∧ ∃ nums', E = some (nI 1, ra_nf (ra_un M 3 (st + ra_sl (ra_cd0 L lt st))), nums') ∧ ra_ns L lt st nums')
end
end RARead

/-! a hand told in letters: its statements, all of it -/
section RAHand
section
variable {L : Nat} {lt : Nat → Nat}
theorem ra_laI (hlt : ∀ j, lt j ≤ 255) {p v : Nat} (h0 : 0 < v) (hv : v < 256) : ra_la L lt p = nI v ↔ ra_cd0 L lt p = v := by
  rw [ra_la_eq hlt h0 hv]
/-! the form of all of it -/
def ra_ok1 (L : Nat) (lt : Nat → Nat) (st : Nat) : Prop := 0 < ra_sl (ra_cd0 L lt st) ∧ ra_R L lt st = ra_sl (ra_cd0 L lt st)
def ra_ch (L : Nat) (lt : Nat → Nat) : Nat → Nat → Prop
  | 0, st => L ≤ st
  | d + 1, st => L ≤ st ∨ (ra_ok1 L lt st ∧ ra_ch L lt d (st + ra_sl (ra_cd0 L lt st)))
def ra_nc (L : Nat) (lt : Nat → Nat) : Nat → Nat → Nat
  | 0, _ => 0
  | d + 1, st => if L ≤ st then 0 else 1 + ra_nc L lt d (st + ra_sl (ra_cd0 L lt st))
theorem ra_ok1_lt (hlt : ∀ j, lt j ≤ 255) {st : Nat} (hst : st < L) (h : ra_ok1 L lt st) : st + ra_sl (ra_cd0 L lt st) ≤ L := by
  obtain ⟨h1, h2⟩ := h
  have hs := ra_sl_le (ra_cd0 L lt st)
  have h3 := ra_ff_all (f := ra_ft L lt st) (ra_sl (ra_cd0 L lt st) - 1) 1 (by unfold ra_R at h2; omega) (ra_sl (ra_cd0 L lt st) - 1) (by omega) (by omega)
  unfold ra_ft at h3
  rw [if_pos (by omega)] at h3
  have h3 := of_decide_eq_true h3
  by_cases c : st + (ra_sl (ra_cd0 L lt st) - 1) < L
  · omega
  · unfold ra_cd0 at h3
    rw [if_neg (by unfold ra_cd0 at c; exact c)] at h3
    omega
set_option maxRecDepth 100000 in
theorem ra_f9 : ∀ p, p < 200 → ¬ (-1000 : Int32) - nI p = -9 := by decide
end
end RAHand

/-! a hand: its statements come; all of it -/
section RAHand2
section
variable {L : Nat} {lt : Nat → Nat}
theorem ra_okd {st i : Nat} (h : ra_ok1 L lt st) (h1 : 1 ≤ i) (h2 : i + 1 < ra_sl (ra_cd0 L lt st)) (hc : ¬ (ra_cd0 L lt st = 112 ∧ i = 1)) : 48 ≤ ra_cd0 L lt (st + i) ∧ ra_cd0 L lt (st + i) ≤ 57 := by
  obtain ⟨k1, k2⟩ := h
  have h3 := ra_ff_all (f := ra_ft L lt st) (ra_sl (ra_cd0 L lt st) - 1) 1 (by unfold ra_R at k2; omega) i h1 (by omega)
  unfold ra_ft at h3
  rw [if_neg (by omega), if_neg hc] at h3
  exact of_decide_eq_true h3
theorem ra_okk {st : Nat} (h : ra_ok1 L lt st) (hc : ra_cd0 L lt st = 112) : ra_kd (ra_cd0 L lt (st + 1)) < 6 := by
  obtain ⟨k1, k2⟩ := h
  have hs : ra_sl (ra_cd0 L lt st) = 6 := by rw [hc]; rfl
  have h3 := ra_ff_all (f := ra_ft L lt st) (ra_sl (ra_cd0 L lt st) - 1) 1 (by unfold ra_R at k2; omega) 1 (by omega) (by omega)
  unfold ra_ft at h3
  rw [if_neg (by omega), if_pos ⟨hc, rfl⟩] at h3
  exact of_decide_eq_true h3
theorem rc_nuL (G : Nat → Nat) (hG : G 0 = L) (hL : L ≤ 96) (hlt : ∀ j, lt j ≤ 255) {p dg : Nat} (hp : p < 500) (hdg : dg ≤ 3) (hd : ∀ i, i < dg → 48 ≤ ra_cd0 L lt (p + i) ∧ ra_cd0 L lt (p + i) ≤ 57) : ∀ (d i m : Nat), i + d = dg → d < m →
    f_X2_numberAt_L5 (ra_nf G) (ra_nf lt) (nI p) (nI dg) m (nI (ra_nu L lt p i)) (nI i) = some (nI (ra_nu L lt p dg), nI dg) := by
  intro d
  induction d with
  | zero =>
    intro i m hi hm
    obtain ⟨m, rfl⟩ : ∃ q, m = q + 1 := ⟨m - 1, by omega⟩
    obtain rfl : i = dg := by omega
    rw [f_X2_numberAt_L5, if_pos (nI_le (Nat.le_refl _) (by omega))]
  | succ d ih =>
    intro i m hi hm
    obtain ⟨m, rfl⟩ : ∃ q, m = q + 1 := ⟨m - 1, by omega⟩
    have hv := hd i (by omega)
    have hla : ra_la L lt (p + i) = nI (ra_cd0 L lt (p + i)) := by
      rcases ra_laC (L := L) hlt (p + i) with ⟨e, h⟩ | ⟨e, h⟩
      · exact e
      · omega
    have e : nI (ra_nu L lt p i) * 10 + nI (ra_cd0 L lt (p + i)) - 48 = nI (ra_nu L lt p (i + 1)) := by
      have e1 : ra_nu L lt p (i + 1) = ra_nu L lt p i * 10 + ra_cd0 L lt (p + i) - 48 := by
        rw [Nat.mul_comm]
        rfl
      rw [e1, show (10 : Int32) = nI 10 from rfl, show (48 : Int32) = nI 48 from rfl, pk_mul, nI_add, pk_sub (by omega)]
    rw [f_X2_numberAt_L5, if_neg (nI_ge (by omega) (by omega)), nI_add, rc_letterAt G hG hL (by omega), Option.bind_some, hla, e, Option.bind_some, nI_1, Option.bind_some]
    exact ih (i + 1) m (by omega) (by omega)
theorem rc_num (G : Nat → Nat) (hG : G 0 = L) (hL : L ≤ 96) (hlt : ∀ j, lt j ≤ 255) {p dg : Nat} (hp : p < 500) (hdg : dg ≤ 3) (hd : ∀ i, i < dg → 48 ≤ ra_cd0 L lt (p + i) ∧ ra_cd0 L lt (p + i) ≤ 57) :
    f_X2_numberAt (ra_nf G) (ra_nf lt) (nI p) (nI dg) = some (nI (ra_nu L lt p dg)) := by
  have h1 := rc_nuL G hG hL hlt hp hdg hd dg 0 rf_fu (by omega) (by unfold rf_fu; omega)
  have h1 : f_X2_numberAt_L5 (ra_nf G) (ra_nf lt) (nI p) (nI dg) rf_fu 0 0 = _ := h1
  unfold f_X2_numberAt
  rw [h1]
  rfl
theorem ra_nu1 {p : Nat} (h0 : 48 ≤ ra_cd0 L lt p ∧ ra_cd0 L lt p ≤ 57) : ra_nu L lt p 1 ≤ 9 := by
  show 10 * 0 + ra_cd0 L lt (p + 0) - 48 ≤ 9
  rw [Nat.add_zero]
  omega
theorem ra_nu2 {p : Nat} (h0 : 48 ≤ ra_cd0 L lt p ∧ ra_cd0 L lt p ≤ 57) (h1 : 48 ≤ ra_cd0 L lt (p + 1) ∧ ra_cd0 L lt (p + 1) ≤ 57) : ra_nu L lt p 2 ≤ 99 := by
  have := ra_nu1 h0
  show 10 * ra_nu L lt p 1 + ra_cd0 L lt (p + 1) - 48 ≤ 99
  omega
theorem ra_nu3 {p : Nat} (h0 : 48 ≤ ra_cd0 L lt p ∧ ra_cd0 L lt p ≤ 57) (h1 : 48 ≤ ra_cd0 L lt (p + 1) ∧ ra_cd0 L lt (p + 1) ≤ 57) (h2 : 48 ≤ ra_cd0 L lt (p + 2) ∧ ra_cd0 L lt (p + 2) ≤ 57) : ra_nu L lt p 3 ≤ 999 := by
  have := ra_nu2 h0 h1
  show 10 * ra_nu L lt p 2 + ra_cd0 L lt (p + 2) - 48 ≤ 999
  omega
theorem rc_ts0 {γ : Nat → Nat} {v : Nat} (hv : v < 1000) : f_X0_takeSetting (ra_nf γ) 0 (nI v) = if 100 ≤ v ∧ v ≤ 250 then some (nI 1, ra_nf (ra_un γ 1 v)) else some (nI 0, ra_nf γ) := by
  unfold f_X0_takeSetting f_X0_change
  by_cases c1 : v < 100
  · rw [if_neg (show ¬ (100 ≤ v ∧ v ≤ 250) by omega)]
    simp (disch := omega) only [↓reduceIte, ra_lit, ra_nf_ap, nI_add, nI_clamp, nI_ltI, nI_leI, nI_eq, Option.bind_some, if_true, if_false, not_false_eq_true, not_true_eq_false, ra_ltT, ra_ltF, ra_leT, ra_leF, ra_eqT, ra_eqF, or_false, false_or, or_true, true_or, and_true, true_and, and_false, false_and, ra_at, ra_a00]
  · by_cases c2 : 250 < v
    · rw [if_neg (show ¬ (100 ≤ v ∧ v ≤ 250) by omega)]
      simp (disch := omega) only [↓reduceIte, ra_lit, ra_nf_ap, nI_add, nI_clamp, nI_ltI, nI_leI, nI_eq, Option.bind_some, if_true, if_false, not_false_eq_true, not_true_eq_false, ra_ltT, ra_ltF, ra_leT, ra_leF, ra_eqT, ra_eqF, or_false, false_or, or_true, true_or, and_true, true_and, and_false, false_and, ra_at, ra_a00, ra_a10]
    · rw [if_pos (show 100 ≤ v ∧ v ≤ 250 by omega)]
      simp (disch := omega) only [↓reduceIte, ra_lit, ra_nf_ap, nI_add, nI_clamp, nI_ltI, nI_leI, nI_eq, Option.bind_some, if_true, if_false, not_false_eq_true, not_true_eq_false, ra_ltT, ra_ltF, ra_leT, ra_leF, ra_eqT, ra_eqF, or_false, false_or, or_true, true_or, and_true, true_and, and_false, false_and, ra_at, ra_a00, ra_a10, ra_upd]
theorem rc_ts1 {γ : Nat → Nat} {v : Nat} (hv : v < 1000) : f_X0_takeSetting (ra_nf γ) 1 (nI v) = if 1 ≤ v ∧ v ≤ 9 then some (nI 1, ra_nf (ra_un γ 2 v)) else some (nI 0, ra_nf γ) := by
  unfold f_X0_takeSetting f_X0_change
  by_cases c1 : v < 1
  · rw [if_neg (show ¬ (1 ≤ v ∧ v ≤ 9) by omega)]
    simp (disch := omega) only [↓reduceIte, ra_lit, ra_nf_ap, nI_add, nI_clamp, nI_ltI, nI_leI, nI_eq, Option.bind_some, if_true, if_false, not_false_eq_true, not_true_eq_false, ra_ltT, ra_ltF, ra_leT, ra_leF, ra_eqT, ra_eqF, or_false, false_or, or_true, true_or, and_true, true_and, and_false, false_and, ra_at, ra_a01]
  · by_cases c2 : 9 < v
    · rw [if_neg (show ¬ (1 ≤ v ∧ v ≤ 9) by omega)]
      simp (disch := omega) only [↓reduceIte, ra_lit, ra_nf_ap, nI_add, nI_clamp, nI_ltI, nI_leI, nI_eq, Option.bind_some, if_true, if_false, not_false_eq_true, not_true_eq_false, ra_ltT, ra_ltF, ra_leT, ra_leF, ra_eqT, ra_eqF, or_false, false_or, or_true, true_or, and_true, true_and, and_false, false_and, ra_at, ra_a01, ra_a11]
    · rw [if_pos (show 1 ≤ v ∧ v ≤ 9 by omega)]
      simp (disch := omega) only [↓reduceIte, ra_lit, ra_nf_ap, nI_add, nI_clamp, nI_ltI, nI_leI, nI_eq, Option.bind_some, if_true, if_false, not_false_eq_true, not_true_eq_false, ra_ltT, ra_ltF, ra_leT, ra_leF, ra_eqT, ra_eqF, or_false, false_or, or_true, true_or, and_true, true_and, and_false, false_and, ra_at, ra_a01, ra_a11, ra_upd]
theorem rc_ts2 {γ : Nat → Nat} {v : Nat} (hv : v < 1000) : f_X0_takeSetting (ra_nf γ) 2 (nI v) = if v ≤ 30 then some (nI 1, ra_nf (ra_un γ 4 v)) else some (nI 0, ra_nf γ) := by
  unfold f_X0_takeSetting f_X0_change
  by_cases c2 : 30 < v
  · rw [if_neg (show ¬ v ≤ 30 by omega)]
    simp (disch := omega) only [↓reduceIte, ra_lit, ra_nf_ap, nI_add, nI_clamp, nI_ltI, nI_leI, nI_eq, Option.bind_some, if_true, if_false, not_false_eq_true, not_true_eq_false, ra_ltT, ra_ltF, ra_leT, ra_leF, ra_eqT, ra_eqF, or_false, false_or, or_true, true_or, and_true, true_and, and_false, false_and, ra_at, ra_a02, ra_a12]
  · rw [if_pos (show v ≤ 30 by omega)]
    simp (disch := omega) only [↓reduceIte, ra_lit, ra_nf_ap, nI_add, nI_clamp, nI_ltI, nI_leI, nI_eq, Option.bind_some, if_true, if_false, not_false_eq_true, not_true_eq_false, ra_ltT, ra_ltF, ra_leT, ra_leF, ra_eqT, ra_eqF, or_false, false_or, or_true, true_or, and_true, true_and, and_false, false_and, ra_at, ra_a02, ra_a12, ra_upd]
theorem rc_ts3 {γ : Nat → Nat} {v : Nat} (hv : v < 1000) : f_X0_takeSetting (ra_nf γ) 3 (nI v) = if v ≤ 20 then some (nI 1, ra_nf (ra_un γ 5 v)) else some (nI 0, ra_nf γ) := by
  unfold f_X0_takeSetting f_X0_change
  by_cases c2 : 20 < v
  · rw [if_neg (show ¬ v ≤ 20 by omega)]
    simp (disch := omega) only [↓reduceIte, ra_lit, ra_nf_ap, nI_add, nI_clamp, nI_ltI, nI_leI, nI_eq, Option.bind_some, if_true, if_false, not_false_eq_true, not_true_eq_false, ra_ltT, ra_ltF, ra_leT, ra_leF, ra_eqT, ra_eqF, or_false, false_or, or_true, true_or, and_true, true_and, and_false, false_and, ra_at, ra_a03, ra_a13]
  · rw [if_pos (show v ≤ 20 by omega)]
    simp (disch := omega) only [↓reduceIte, ra_lit, ra_nf_ap, nI_add, nI_clamp, nI_ltI, nI_leI, nI_eq, Option.bind_some, if_true, if_false, not_false_eq_true, not_true_eq_false, ra_ltT, ra_ltF, ra_leT, ra_leF, ra_eqT, ra_eqF, or_false, false_or, or_true, true_or, and_true, true_and, and_false, false_and, ra_at, ra_a03, ra_a13, ra_upd]
theorem rc_ts4 {γ : Nat → Nat} {v : Nat} (hv : v ≤ 9) : f_X0_takeSetting (ra_nf γ) 4 (nI v) = some (nI 1, ra_nf (ra_un γ 7 v)) := by
  unfold f_X0_takeSetting f_X0_change
  simp (disch := omega) only [↓reduceIte, ra_lit, ra_nf_ap, nI_add, nI_clamp, nI_ltI, nI_leI, nI_eq, Option.bind_some, if_true, if_false, not_false_eq_true, not_true_eq_false, ra_ltT, ra_ltF, ra_leT, ra_leF, ra_eqT, ra_eqF, or_false, false_or, or_true, true_or, and_true, true_and, and_false, false_and, ra_at, ra_a04, ra_a14, ra_upd]
theorem ra_bb1 : nI 1 &&& 1 = nI 1 := by decide
theorem ra_bb0 : nI 0 &&& 1 = nI 0 := by decide
theorem ra_fin1 (g a b : Nat → Int32) : ((some ((1 : Int32), g)).bind fun (q : Int32 × (Nat → Int32)) => if q.1 &&& 1 = q.1 then some (q.1, q.2, a, b) else none) = some (nI 1, g, a, b) := by
  rw [Option.bind_some]
  exact if_pos ra_bb1
theorem ra_fin0 (g a b : Nat → Int32) : ((some ((0 : Int32), g)).bind fun (q : Int32 × (Nat → Int32)) => if q.1 &&& 1 = q.1 then some (q.1, q.2, a, b) else none) = some (nI 0, g, a, b) := by
  rw [Option.bind_some]
  exact if_pos ra_bb0
end
end RAHand2

