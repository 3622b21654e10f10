/-! what both sides hold between two calls of the law; each call keeps it -/
section LZStep
/-- G, M: whole numbers of the class and of the reference; γ κ τ: the finger; lt: letters; ρ: the row of numbers; b1 b2 b3, im: the image, where one was taken -/
def lz_F (G M γ κ τ lt ρ : Nat → Nat) (b1 b2 b3 im : Nat → Int32) : Prop :=
  ra_ok γ κ τ ∧ γ 8 ≤ 999 ∧ G 0 = M 1 ∧ G 0 ≤ 96 ∧ (∀ j, lt j ≤ 255) ∧ G 1 = M 2 ∧ G 1 ≤ 12 ∧ (∀ j, ρ j ≤ 9) ∧ G 2 = M 0 ∧ G 2 ≤ 1 ∧
  (G 2 = 1 → ∃ γ' κ' τ' : Nat → Nat, b1 = ra_nf γ' ∧ b2 = ra_nf κ' ∧ b3 = ra_nf τ' ∧ im = ra_st γ' κ' τ' ∧ ra_ok γ' κ' τ' ∧ γ' 8 ≤ 999)
variable {G M γ κ τ lt ρ : Nat → Nat} {b1 b2 b3 im : Nat → Int32}
theorem lz_ok (h : lz_F G M γ κ τ lt ρ b1 b2 b3 im) : ra_ok γ κ τ := h.1
theorem lz_8 (h : lz_F G M γ κ τ lt ρ b1 b2 b3 im) : γ 8 ≤ 999 := h.2.1
theorem lz_L (h : lz_F G M γ κ τ lt ρ b1 b2 b3 im) : G 0 = M 1 ∧ G 0 ≤ 96 ∧ (∀ j, lt j ≤ 255) := ⟨h.2.2.1, h.2.2.2.1, h.2.2.2.2.1⟩
theorem lz_R (h : lz_F G M γ κ τ lt ρ b1 b2 b3 im) : G 1 = M 2 ∧ G 1 ≤ 12 ∧ (∀ j, ρ j ≤ 9) := ⟨h.2.2.2.2.2.1, h.2.2.2.2.2.2.1, h.2.2.2.2.2.2.2.1⟩
theorem lz_set (h : lz_F G M γ κ τ lt ρ b1 b2 b3 im) {γ' κ' τ' : Nat → Nat} (h1 : ra_ok γ' κ' τ') (h2 : γ' 8 ≤ 999) : lz_F G M γ' κ' τ' lt ρ b1 b2 b3 im := ⟨h1, h2, h.2.2⟩
theorem lz_hand (h : lz_F G M γ κ τ lt ρ b1 b2 b3 im) {γ' κ' τ' M' : Nat → Nat} (h1 : ra_ok γ' κ' τ') (h2 : γ' 8 ≤ 999) (h3 : M' 0 = M 0) (h4 : M' 2 = M 2) : lz_F (ra_un G 0 0) (ra_un M' 1 0) γ' κ' τ' lt ρ b1 b2 b3 im := by
  obtain ⟨-, -, a1, a2, a3, a4, a5, a6, a7, a8, a9⟩ := h
  refine ⟨h1, h2, ?_, ?_, a3, ?_, ?_, a6, ?_, ?_, ?_⟩
  · rw [ra_us, ra_us]
  · rw [ra_us]
    omega
  · rw [ra_ud _ _ (by decide), ra_ud _ _ (by decide), h4]
    exact a4
  · rw [ra_ud _ _ (by decide)]
    exact a5
  · rw [ra_ud _ _ (by decide), ra_ud _ _ (by decide), h3]
    exact a7
  · rw [ra_ud _ _ (by decide)]
    exact a8
  · rw [ra_ud _ _ (by decide)]
    exact a9
theorem lz_judge (h : lz_F G M γ κ τ lt ρ b1 b2 b3 im) : lz_F (ra_un G 1 0) (ra_un M 2 0) γ κ τ lt ρ b1 b2 b3 im := by
  obtain ⟨h1, h2, a1, a2, a3, a4, a5, a6, a7, a8, a9⟩ := h
  refine ⟨h1, h2, ?_, ?_, a3, ?_, ?_, a6, ?_, ?_, ?_⟩
  · rw [ra_ud _ _ (by decide), ra_ud _ _ (by decide)]
    exact a1
  · rw [ra_ud _ _ (by decide)]
    exact a2
  · rw [ra_us, ra_us]
  · rw [ra_us]
    omega
  · rw [ra_ud _ _ (by decide), ra_ud _ _ (by decide)]
    exact a7
  · rw [ra_ud _ _ (by decide)]
    exact a8
  · rw [ra_ud _ _ (by decide)]
    exact a9
theorem lz_lots (h : lz_F G M γ κ τ lt ρ b1 b2 b3 im) (s s' : Nat) : lz_F (ra_un G 3 s) (ra_un M 6 s') γ κ τ lt ρ b1 b2 b3 im := by
  obtain ⟨h1, h2, a1, a2, a3, a4, a5, a6, a7, a8, a9⟩ := h
  refine ⟨h1, h2, ?_, ?_, a3, ?_, ?_, a6, ?_, ?_, ?_⟩
  · rw [ra_ud _ _ (by decide), ra_ud _ _ (by decide)]
    exact a1
  · rw [ra_ud _ _ (by decide)]
    exact a2
  · rw [ra_ud _ _ (by decide), ra_ud _ _ (by decide)]
    exact a4
  · rw [ra_ud _ _ (by decide)]
    exact a5
  · rw [ra_ud _ _ (by decide), ra_ud _ _ (by decide)]
    exact a7
  · rw [ra_ud _ _ (by decide)]
    exact a8
  · rw [ra_ud _ _ (by decide)]
    exact a9
theorem lz_year (h : lz_F G M γ κ τ lt ρ b1 b2 b3 im) (x y : Nat) : lz_F G (ra_un (ra_un M 4 x) 5 y) γ κ τ lt ρ b1 b2 b3 im := by
  obtain ⟨h1, h2, a1, a2, a3, a4, a5, a6, a7, a8, a9⟩ := h
  refine ⟨h1, h2, ?_, a2, a3, ?_, a5, a6, ?_, a8, a9⟩
  · rw [ra_ud _ _ (by decide), ra_ud _ _ (by decide)]
    exact a1
  · rw [ra_ud _ _ (by decide), ra_ud _ _ (by decide)]
    exact a4
  · rw [ra_ud _ _ (by decide), ra_ud _ _ (by decide)]
    exact a7
theorem lz_image (h : lz_F G M γ κ τ lt ρ b1 b2 b3 im) : lz_F (ra_un G 2 1) (ra_un M 0 1) γ κ τ lt ρ (ra_nf γ) (ra_nf κ) (ra_nf τ) (ra_st γ κ τ) := by
  obtain ⟨h1, h2, a1, a2, a3, a4, a5, a6, a7, a8, a9⟩ := h
  refine ⟨h1, h2, ?_, ?_, a3, ?_, ?_, a6, ?_, ?_, fun _ => ⟨γ, κ, τ, rfl, rfl, rfl, rfl, h1, h2⟩⟩
  · rw [ra_ud _ _ (by decide), ra_ud _ _ (by decide)]
    exact a1
  · rw [ra_ud _ _ (by decide)]
    exact a2
  · rw [ra_ud _ _ (by decide), ra_ud _ _ (by decide)]
    exact a4
  · rw [ra_ud _ _ (by decide)]
    exact a5
  · rw [ra_us, ra_us]
  · rw [ra_us]
    omega
theorem lz_letter (h : lz_F G M γ κ τ lt ρ b1 b2 b3 im) (φ : Nat → Nat) (p : Int32) :
    ∃ r G' M' lt' φ', f_X2_letter (ra_nf G) (ra_nf lt) (ra_nf φ) p = some (r, ra_nf G', ra_nf lt', ra_nf φ') ∧ f_X3_letter (ra_nf M) (ra_nf lt) (ra_nf φ) p = some (r, ra_nf M', ra_nf lt', ra_nf φ') ∧ lz_F G' M' γ κ τ lt' ρ b1 b2 b3 im := by
  have h0 := h
  obtain ⟨h1, h2, a1, a2, a3, a4, a5, a6, a7, a8, a9⟩ := h
  rcases tm_letter G M lt φ rfl a1.symm a2 p with ⟨c, -, e2, e3⟩ | ⟨v, hv, hL, e2, e3⟩
  · exact ⟨_, _, _, _, _, e2, e3, h0⟩
  · refine ⟨_, _, _, _, _, e2, e3, h1, h2, ?_, ?_, ?_, ?_, ?_, a6, ?_, ?_, ?_⟩
    · rw [ra_us, ra_us]
    · rw [ra_us]
      omega
    · intro j
      unfold ra_un
      split
      · omega
      · exact a3 j
    · rw [ra_ud _ _ (by decide), ra_ud _ _ (by decide)]
      exact a4
    · rw [ra_ud _ _ (by decide)]
      exact a5
    · rw [ra_ud _ _ (by decide), ra_ud _ _ (by decide)]
      exact a7
    · rw [ra_ud _ _ (by decide)]
      exact a8
    · rw [ra_ud _ _ (by decide)]
      exact a9
theorem lz_row (h : lz_F G M γ κ τ lt ρ b1 b2 b3 im) (φ : Nat → Nat) (p : Int32) :
    ∃ r G' M' ρ' φ', f_X2_row (ra_nf G) (ra_nf ρ) (ra_nf φ) p = some (r, ra_nf G', ra_nf ρ', ra_nf φ') ∧ f_X3_row (ra_nf M) (ra_nf ρ) (ra_nf φ) p = some (r, ra_nf M', ra_nf ρ', ra_nf φ') ∧ lz_F G' M' γ κ τ lt ρ' b1 b2 b3 im := by
  have h0 := h
  obtain ⟨h1, h2, a1, a2, a3, a4, a5, a6, a7, a8, a9⟩ := h
  rcases tm_row G M ρ φ rfl a4.symm a5 p with ⟨c, -, e2, e3⟩ | ⟨v, hv, hR, e2, e3⟩
  · exact ⟨_, _, _, _, _, e2, e3, h0⟩
  · refine ⟨_, _, _, _, _, e2, e3, h1, h2, ?_, ?_, a3, ?_, ?_, ?_, ?_, ?_, ?_⟩
    · rw [ra_ud _ _ (by decide), ra_ud _ _ (by decide)]
      exact a1
    · rw [ra_ud _ _ (by decide)]
      exact a2
    · rw [ra_us, ra_us]
    · rw [ra_us]
      omega
    · intro j
      unfold ra_un
      split
      · omega
      · exact a6 j
    · rw [ra_ud _ _ (by decide), ra_ud _ _ (by decide)]
      exact a7
    · rw [ra_ud _ _ (by decide)]
      exact a8
    · rw [ra_ud _ _ (by decide)]
      exact a9
theorem lz_on (h : lz_F G M γ κ τ lt ρ b1 b2 b3 im) (φ : Nat → Nat) :
    ∃ r γ' κ' τ' φ', f_X2_on (ra_nf G) (ra_nf γ) (ra_nf κ) (ra_nf τ) b1 b2 b3 (ra_nf φ) = some (r, ra_nf γ', ra_nf κ', ra_nf τ', ra_nf φ') ∧ f_X3_on (ra_nf M) (ra_st γ κ τ) im (ra_nf φ) = some (r, ra_st γ' κ' τ', ra_nf φ') ∧ lz_F G M γ' κ' τ' lt ρ b1 b2 b3 im := by
  have h0 := h
  obtain ⟨h1, h2, a1, a2, a3, a4, a5, a6, a7, a8, a9⟩ := h
  rcases tm_on G M φ (ra_nf γ) (ra_nf κ) (ra_nf τ) b1 b2 b3 (ra_st γ κ τ) im rfl a7.symm a8 with ⟨c, e2, e3⟩ | ⟨c, e2, e3⟩
  · exact ⟨_, _, _, _, _, e2, e3, h0⟩
  · obtain ⟨γ', κ', τ', rfl, rfl, rfl, rfl, c1, c2⟩ := a9 c
    refine ⟨_, γ', κ', τ', _, e2, ?_, lz_set h0 c1 c2⟩
    rw [e3, ra_st_lo _ _ _ (by decide)]
    rfl
def lz_g0 : Nat → Nat := ra_un (ra_un (ra_un (fun _ => 0) 1 180) 2 4) 7 3
end LZStep
