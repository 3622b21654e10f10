/-! a hand's letters put together; a cell answers -/
section QAHandB
theorem qk_R.keep {lt lt' : Nat → Nat} {st z b : Nat} (h : qk_R lt st z b) (hk : ∀ j, j < st + 6 → lt' j = lt j) : qk_R lt' st z b := by
  obtain ⟨a, b, c, d, e, f⟩ := h
  refine ⟨?_, ?_, ?_, ?_, ?_, ?_⟩
  · rw [hk _ (by omega)]; exact a
  · rw [hk _ (by omega)]; exact b
  · rw [hk _ (by omega)]; exact c
  · rw [hk _ (by omega)]; exact d
  · rw [hk _ (by omega)]; exact e
  · rw [hk _ (by omega)]; exact f
theorem qk_2.keep {lt lt' : Nat → Nat} {st c x : Nat} (h : qk_2 lt st c x) (hk : ∀ j, j < st + 4 → lt' j = lt j) : qk_2 lt' st c x := by
  obtain ⟨a, b, c, d⟩ := h
  refine ⟨?_, ?_, ?_, ?_⟩
  · rw [hk _ (by omega)]; exact a
  · rw [hk _ (by omega)]; exact b
  · rw [hk _ (by omega)]; exact c
  · rw [hk _ (by omega)]; exact d
theorem qh_mk {l1 l2 l3 l4 : Nat → Nat} {n z b s c x : Nat} (hT : qk_T n l1) (hR : qk_R l1 (6 * n) z b) (k2 : ∀ j, j < 6 * n + 6 → l2 j = l1 j) (h2 : qk_2 l2 (6 * n + 6) 115 s) (k3 : ∀ j, j < 6 * n + 6 + 4 → l3 j = l2 j) (h3 : qk_2 l3 (6 * n + 6 + 4) 99 c) (hB : ∀ j, l4 j ≤ 255) (k4 : ∀ j, j < 6 * n + 6 + 4 + 4 → l4 j = l3 j) (h4 : qk_1 l4 (6 * n + 6 + 4 + 4) 104 x) : qk_H l4 n z b s c x := by
  refine ⟨hT.keep hB (fun j hj => ?_), hR.keep (fun j hj => ?_), h2.keep (fun j hj => ?_), h3.keep (fun j hj => ?_), h4⟩
  · rw [k4 _ (by omega), k3 _ (by omega), k2 _ (by omega)]
  · rw [k4 _ (by omega), k3 _ (by omega), k2 _ (by omega)]
  · rw [k4 _ (by omega), k3 _ (by omega)]
  · rw [k4 _ (by omega)]
theorem qc_cell (L : Nat) (xs : Nat → Int32) {i : Nat} (hL : L ≤ 260) (hi : i < 1000) : ∃ x, f_L_cell L xs (nI i) = some x := by
  unfold f_L_cell
  by_cases h : L ≤ i
  · rw [if_pos (show Int32.ofNat L ≤ nI i from nI_le h (by omega))]
    exact ⟨_, rfl⟩
  · rw [if_neg (show ¬ Int32.ofNat L ≤ nI i from nI_ge (by omega) (by omega)), if_pos (nI_in (by omega) (by omega))]
    exact ⟨_, rfl⟩
end QAHandB
