/-! what the law compares, case by case -/
section QALaw
variable {γ κ τ : Nat → Nat}
theorem qr_3 (γ κ τ : Nat → Nat) (k : Nat) : nI (γ 3) + nI (if ra_ov γ κ τ k then 1 else 0) = nI (ra_tr γ κ τ k 3) := by
  rw [nI_add]
  unfold ra_tr
  by_cases c : ra_ov γ κ τ k
  · rw [if_pos c, if_pos c]
    rfl
  · rw [if_neg c, if_neg c]
    rfl
theorem qr_o (γ κ τ : Nat → Nat) (k j : Nat) (hj : j ≠ 3) : ra_tr γ κ τ k j = ra_wear γ k j := by
  unfold ra_tr
  split
  · rw [ra_ud _ _ hj]
  · rfl
theorem qr_4 (h : ra_ok γ κ τ) (k : Nat) : ¬ nI (ra_tr γ κ τ k 4) < nI (γ 4) := by
  obtain ⟨h0, h1, h2, h3, h4, h5, h6, h7, h8, h9, h10, h11⟩ := h
  rw [qr_o _ _ _ _ _ (by decide), show ra_wear γ k 4 = min 30 (γ 4 + ra_sw k) from rfl]
  exact nI_nlt (by omega) (by omega)
theorem qr_5 (h : ra_ok γ κ τ) (k : Nat) : ¬ nI (ra_tr γ κ τ k 5) < nI (γ 5) := by
  obtain ⟨h0, h1, h2, h3, h4, h5, h6, h7, h8, h9, h10, h11⟩ := h
  have := ra_cd_le (k := k) h7
  rw [qr_o _ _ _ _ _ (by decide), show ra_wear γ k 5 = ra_cd k (γ 5) from rfl]
  exact nI_nlt (by omega) (by omega)
theorem qr_8 (γ κ τ : Nat → Nat) (k : Nat) : nI (γ 8) + nI (ra_mi k) = nI (ra_tr γ κ τ k 8) := by
  rw [nI_add, qr_o _ _ _ _ _ (by decide)]
  rfl
theorem qr_9 (γ κ τ : Nat → Nat) (k : Nat) : nI (γ 9) + nI (ra_hm k) = nI (ra_tr γ κ τ k 9) := by
  rw [nI_add, qr_o _ _ _ _ _ (by decide)]
  rfl
theorem qr_m8 (γ κ τ : Nat → Nat) (k : Nat) (h : γ 8 + ra_mi k ≤ 999) : ra_tr γ κ τ k 8 ≤ 999 := by
  rw [qr_o _ _ _ _ _ (by decide)]
  exact h
theorem qr_n6 {c : Prop} {_ : Decidable c} : ¬ nI (if c then 1 else 0) = -6 := by
  split <;> decide
theorem qr_nn6 {a : Nat} (h : a < 2000) : ¬ nI a = -6 := by
  intro z
  have z := congrArg Int32.toInt z
  rw [nI_toInt (by omega), show (-6 : Int32).toInt = -6 by decide] at z
  omega
theorem qr_w4 (h : ra_ok γ κ τ) (m : Nat) : ¬ nI (γ 4) < nI (ra_wt γ m 4) := by
  obtain ⟨h0, h1, h2, h3, h4, h5, h6, h7, h8, h9, h10, h11⟩ := h
  rw [show ra_wt γ m 4 = γ 4 - m / 2 from rfl]
  exact nI_nlt (by omega) (by omega)
theorem qr_w5 (h : ra_ok γ κ τ) (m : Nat) : ¬ nI (γ 5) < nI (ra_wt γ m 5) := by
  obtain ⟨h0, h1, h2, h3, h4, h5, h6, h7, h8, h9, h10, h11⟩ := h
  rw [show ra_wt γ m 5 = γ 5 - m / 3 from rfl]
  exact nI_nlt (by omega) (by omega)
theorem qa_pauseE (G φ : Nat → Nat) (h : ra_ok γ κ τ) (hm : γ 8 ≤ 999) : ∃ r γ' φ', f_X2_pause (ra_nf G) (ra_nf γ) (ra_nf φ) 5 = some (r, ra_nf γ', ra_nf φ') ∧ ra_ok γ' κ τ ∧ γ' 8 ≤ 999 := by
  by_cases hmm : γ 8 + 5 ≤ 999
  · exact ⟨_, _, _, qa_pause G φ h (m := 5) (by decide) (by decide) hmm, ra_wt_ok h, hmm⟩
  · exact ⟨_, _, _, qa_pauseM G φ γ hm (m := 5) (by decide) (by decide) hmm, h, hm⟩
theorem qr_u1 (h : ra_ok γ κ τ) : ra_ok (ra_un γ 1 200) κ τ := by
  obtain ⟨h0, h1, h2, h3, h4, h5, h6, h7, h8, h9, h10, h11⟩ := h
  exact ⟨h0, h1, by show 100 ≤ 200; decide, by show 200 ≤ 250; decide, h4, h5, h6, h7, h8, h9, h10, h11⟩
theorem qr_u3 (h : ra_ok γ κ τ) : ra_ok (ra_un γ 3 0) κ τ := by
  obtain ⟨h0, h1, h2⟩ := h
  exact ⟨h0, Nat.zero_le _, h2⟩
theorem qr_u7 (h : ra_ok γ κ τ) : ra_ok (ra_un γ 7 9) κ τ := by
  obtain ⟨h0, h1, h2, h3, h4, h5, h6, h7, h8, h9, h10, h11⟩ := h
  exact ⟨h0, h1, h2, h3, h4, h5, h6, h7, h8, by show 9 ≤ 9; decide, h10, h11⟩
theorem qr_u4 (h : ra_ok γ κ τ) {v : Nat} (hv : v ≤ 30) : ra_ok (ra_un γ 4 v) κ τ := by
  obtain ⟨h0, h1, h2, h3, h4, h5, h6, h7, h8, h9, h10, h11⟩ := h
  exact ⟨h0, h1, h2, h3, h4, h5, hv, h7, h8, h9, h10, h11⟩
theorem qr_ne (γ κ τ : Nat → Nat) (k : Nat) (c : ¬ ra_ov γ κ τ k) : ¬ ra_enc (ra_fail κ τ k 13 0 γ) = 0 := fun z => c (qa_goes0.mp z)
end QALaw
