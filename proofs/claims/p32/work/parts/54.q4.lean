/-! the law's own numbers: what it reads out of a cell; its sight of the class -/
section QABits
theorem qb_7 (x : Int32) : ∃ n, n ≤ 6 ∧ rf_rem (x &&& 7) 7 = nI n := by
  obtain ⟨j, hj, e⟩ := pk_andE x (m := 7) 3 (by decide)
  exact ⟨j % 7, by omega, by rw [e]; exact pk_rem (d := 7) (by omega) (by decide) (by decide)⟩
theorem qb_6 (x : Int32) : ∃ n, n ≤ 5 ∧ rf_rem (x &&& 7) 6 = nI n := by
  obtain ⟨j, hj, e⟩ := pk_andE x (m := 7) 3 (by decide)
  exact ⟨j % 6, by omega, by rw [e]; exact pk_rem (d := 6) (by omega) (by decide) (by decide)⟩
theorem qb_63 (x : Int32) : ∃ z, 160 ≤ z ∧ z ≤ 223 ∧ 160 + (x &&& 63) = nI z := by
  obtain ⟨j, hj, e⟩ := pk_andE x (m := 63) 6 (by decide)
  exact ⟨160 + j, by omega, by omega, by rw [e]; exact nI_add 160 j⟩
theorem qb_9 (x : Int32) : ∃ b, 1 ≤ b ∧ b ≤ 9 ∧ 1 + rf_rem (x &&& 15) 9 = nI b := by
  obtain ⟨j, hj, e⟩ := pk_andE x (m := 15) 4 (by decide)
  refine ⟨1 + j % 9, by omega, by omega, ?_⟩
  rw [e, show rf_rem (nI j) 9 = nI (j % 9) from pk_rem (d := 9) (by omega) (by decide) (by decide)]
  exact nI_add 1 (j % 9)
theorem qb_241 (x : Int32) : ∃ t, t ≤ 240 ∧ rf_rem (x &&& 255) 241 = nI t := by
  obtain ⟨j, hj, e⟩ := pk_andE x (m := 255) 8 (by decide)
  exact ⟨j % 241, by omega, by rw [e]; exact pk_rem (d := 241) (by omega) (by decide) (by decide)⟩
theorem qb_22 (x : Int32) {z : Nat} (h1 : 160 ≤ z) (h2 : z ≤ 223) : ∃ t, t ≤ 240 ∧ nI z - 22 + (x &&& 31) = nI t := by
  obtain ⟨j, hj, e⟩ := pk_andE x (m := 31) 5 (by decide)
  refine ⟨z - 22 + j, by omega, ?_⟩
  rw [e, show nI z - 22 = nI (z - 22) from pk_sub (b := 22) (by omega)]
  exact nI_add (z - 22) j
theorem qb_31 (x : Int32) : ∃ t, t ≤ 30 ∧ rf_rem (x &&& 31) 31 = nI t := by
  obtain ⟨j, hj, e⟩ := pk_andE x (m := 31) 5 (by decide)
  exact ⟨j % 31, by omega, by rw [e]; exact pk_rem (d := 31) (by omega) (by decide) (by decide)⟩
theorem qb_21 (x : Int32) : ∃ t, t ≤ 20 ∧ rf_rem (x &&& 31) 21 = nI t := by
  obtain ⟨j, hj, e⟩ := pk_andE x (m := 31) 5 (by decide)
  exact ⟨j % 21, by omega, by rw [e]; exact pk_rem (d := 21) (by omega) (by decide) (by decide)⟩
theorem qb_10 (x : Int32) : ∃ t, t ≤ 9 ∧ rf_rem (x &&& 15) 10 = nI t := by
  obtain ⟨j, hj, e⟩ := pk_andE x (m := 15) 4 (by decide)
  exact ⟨j % 10, by omega, by rw [e]; exact pk_rem (d := 10) (by omega) (by decide) (by decide)⟩
theorem qb_32 (x : Int32) : ∃ m, 1 ≤ m ∧ m ≤ 32 ∧ 1 + (x &&& 31) = nI m := by
  obtain ⟨j, hj, e⟩ := pk_andE x (m := 31) 5 (by decide)
  exact ⟨1 + j, by omega, by omega, by rw [e]; exact nI_add 1 j⟩
theorem qb_8 (x : Int32) : ∃ m, m < 8 ∧ x &&& 7 = nI m := by
  obtain ⟨j, hj, e⟩ := pk_andE x (m := 7) 3 (by decide)
  exact ⟨j, hj, e⟩
theorem qu_s (f : Nat → Int32) (k : Nat) (v : Int32) : upd f k v k = v := by
  unfold upd
  rw [if_pos rfl]
theorem qu_d (f : Nat → Int32) {k j : Nat} (v : Int32) (h : j ≠ k) : upd f k v j = f j := by
  unfold upd
  rw [if_neg h]
theorem qu_cmp (x : Int64) : lg_cmp x x = 0 := by
  unfold lg_cmp
  have h : ¬ x > x := fun z => by
    have := Int64.lt_iff_toInt_lt.mp z
    omega
  rw [if_neg h, if_pos rfl]
end QABits
section QASight
def sg_v (γ : Nat → Nat) (k : Nat) : Int32 := if k = 0 then nI (γ 0) else if k = 1 then nI (γ 3) else if k = 2 then nI (γ 4) else if k = 3 then nI (γ 5) else if k = 4 then nI (γ 6) else if k = 5 then nI (γ 8) else if k = 6 then nI (γ 9) else if k = 7 then nI (γ 1) else if k = 10 then nI (γ 7) else nI (γ 2)
def sg_no (k : Nat) : Prop := k = 8 ∨ k = 9 ∨ (10 < k ∧ k < 17)
theorem qa_count (G γ φ : Nat → Nat) {k : Nat} (hk : k ≤ 17) (hn : ¬ sg_no k) : f_X2_count (ra_nf G) (ra_nf γ) (ra_nf φ) (nI k) = some (sg_v γ k) := by
  unfold sg_no at hn
  have : k = 0 ∨ k = 1 ∨ k = 2 ∨ k = 3 ∨ k = 4 ∨ k = 5 ∨ k = 6 ∨ k = 7 ∨ k = 10 ∨ k = 17 := by omega
  unfold f_X2_count
  rcases this with rfl | rfl | rfl | rfl | rfl | rfl | rfl | rfl | rfl | rfl
  all_goals
    simp (disch := omega) only [↓reduceIte, ra_lit, ra_nf_ap, nI_add, nI_clamp, nI_ltI, nI_leI, nI_eq, Option.bind_some, if_true, if_false, not_false_eq_true, not_true_eq_false, ra_ltT, ra_ltF, ra_leT, ra_leF, ra_eqT, ra_eqF, or_false, false_or, or_true, true_or, and_true, true_and, and_false, false_and]
    rfl
theorem qa_cnt (G γ φ : Nat → Nat) (k : Nat) (hk : k ≤ 17) (hn : ¬ sg_no k) {i : Nat} (e : sg_v γ k = nI (γ i)) : f_X2_count (ra_nf G) (ra_nf γ) (ra_nf φ) (nI k) = some (nI (γ i)) := by
  rw [← e]
  exact qa_count G γ φ hk hn
theorem qa_cnt0 (G γ φ : Nat → Nat) : f_X2_count (ra_nf G) (ra_nf γ) (ra_nf φ) 0 = some (nI (γ 0)) := qa_cnt G γ φ 0 (by decide) (by unfold sg_no; omega) rfl
theorem qa_cnt1 (G γ φ : Nat → Nat) : f_X2_count (ra_nf G) (ra_nf γ) (ra_nf φ) 1 = some (nI (γ 3)) := qa_cnt G γ φ 1 (by decide) (by unfold sg_no; omega) rfl
theorem qa_cnt2 (G γ φ : Nat → Nat) : f_X2_count (ra_nf G) (ra_nf γ) (ra_nf φ) 2 = some (nI (γ 4)) := qa_cnt G γ φ 2 (by decide) (by unfold sg_no; omega) rfl
theorem qa_cnt3 (G γ φ : Nat → Nat) : f_X2_count (ra_nf G) (ra_nf γ) (ra_nf φ) 3 = some (nI (γ 5)) := qa_cnt G γ φ 3 (by decide) (by unfold sg_no; omega) rfl
theorem qa_cnt5 (G γ φ : Nat → Nat) : f_X2_count (ra_nf G) (ra_nf γ) (ra_nf φ) 5 = some (nI (γ 8)) := qa_cnt G γ φ 5 (by decide) (by unfold sg_no; omega) rfl
theorem qa_cnt6 (G γ φ : Nat → Nat) : f_X2_count (ra_nf G) (ra_nf γ) (ra_nf φ) 6 = some (nI (γ 9)) := qa_cnt G γ φ 6 (by decide) (by unfold sg_no; omega) rfl
def sg_c (γ : Nat → Nat) (k : Nat) : Int32 := if k = 8 ∨ k = 9 ∨ (10 < k ∧ k < 17) then 0 else sg_v γ k
def sg_1 (γ : Nat → Nat) : Nat → Int64
  | 0 => 7
  | k + 1 => 31 * sg_1 γ k + (sg_c γ k).toInt64
def sg_2 (γ κ τ : Nat → Nat) : Nat → Int64
  | 0 => sg_1 γ 18
  | p + 1 => 31 * sg_2 γ κ τ p + 1000 * (nI (κ p)).toInt64 + (nI (ra_tk (κ p) (τ p) (γ 4) (γ 5) (γ 7))).toInt64
def sg (γ κ τ : Nat → Nat) : Int64 := sg_2 γ κ τ (γ 0)
theorem sg_cT {γ : Nat → Nat} {k : Nat} (h : sg_no k) : (0 : Int32) = sg_c γ k := by
  unfold sg_c
  rw [if_pos (show k = 8 ∨ k = 9 ∨ (10 < k ∧ k < 17) from h)]
theorem sg_cF {γ : Nat → Nat} {k : Nat} (h : ¬ sg_no k) : sg_v γ k = sg_c γ k := by
  unfold sg_c
  rw [if_neg (show ¬ (k = 8 ∨ k = 9 ∨ (10 < k ∧ k < 17)) from h)]
end QASight
