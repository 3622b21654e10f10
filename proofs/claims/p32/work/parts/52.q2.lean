/-! the letters that the law says, and the hand that they become -/
section QALetters
theorem qs_say (G lt φ : Nat → Nat) {L v : Nat} (hG : G 0 = L) (hL : L < 96) (hv : v < 256) : f_L_say (ra_nf G) (ra_nf lt) (ra_nf φ) (nI v) = some (1, ra_nf (ra_un G 0 (L + 1)), ra_nf (ra_un lt L v), ra_nf φ) := by
  unfold f_L_say f_X2_letter
  simp (disch := omega) only [↓reduceIte, ra_lit, ra_nf_ap, nI_add, nI_clamp, nI_ltI, nI_leI, nI_eq, Option.bind_some, if_true, if_false, not_false_eq_true, not_true_eq_false, ra_ltT, ra_ltF, ra_leT, ra_leF, ra_eqT, ra_eqF, or_false, false_or, or_true, true_or, and_true, true_and, and_false, false_and, hG, ra_put, ra_upd]
theorem qs_d100 {x : Nat} (hx : x < 1000) : (48 : Int32) + nI x / 100 = nI (48 + x / 100) := by
  simp (disch := omega) only [ra_lit, pk_div, nI_add]
theorem qs_d10 {x : Nat} (hx : x < 1000) : rf_rem (nI x / 10) 10 = nI (x / 10 % 10) := by
  rw [show (nI x / 10 : Int32) = nI (x / 10) from pk_div (d := 10) (by omega) (by decide) (by decide)]
  exact pk_rem (d := 10) (by omega) (by decide) (by decide)
theorem qs_d1 {x : Nat} (hx : x < 1000) : rf_rem (nI x) 10 = nI (x % 10) := pk_rem (d := 10) (by omega) (by decide) (by decide)
theorem qs_48 (d : Nat) : (48 : Int32) + nI d = nI (48 + d) := nI_add 48 d
theorem qs_11 : (1 : Int32) &&& 1 = 1 := by decide
theorem qs_num1 (G lt φ : Nat → Nat) {L x : Nat} (hG : G 0 = L) (hL : L < 96) (hx : x < 1000) : f_L_number (ra_nf G) (ra_nf lt) (ra_nf φ) (nI x) 1 = some (1, ra_nf (ra_un G 0 (L + 1)), ra_nf (ra_un lt L (48 + x % 10)), ra_nf φ) := by
  unfold f_L_number
  rw [if_pos (by decide), if_pos (by decide), qs_d1 hx, Option.bind_some, qs_48, qs_say G lt φ hG hL (by omega), Option.bind_some]
  simp only [qs_11, if_true]
theorem qs_num2 (G lt φ : Nat → Nat) {L x : Nat} (hG : G 0 = L) (hL : L + 1 < 96) (hx : x < 1000) : f_L_number (ra_nf G) (ra_nf lt) (ra_nf φ) (nI x) 2 = some (1, ra_nf (ra_un (ra_un G 0 (L + 1)) 0 (L + 1 + 1)), ra_nf (ra_un (ra_un lt L (48 + x / 10 % 10)) (L + 1) (48 + x % 10)), ra_nf φ) := by
  unfold f_L_number
  rw [if_pos (by decide), if_neg (by decide), qs_d10 hx, qs_d1 hx, Option.bind_some, qs_48, qs_say G lt φ hG (by omega) (by omega), Option.bind_some, Option.bind_some, Option.bind_some, qs_48]
  simp only [qs_11]
  rw [qs_say (ra_un G 0 (L + 1)) _ φ (ra_us G 0 (L + 1)) hL (by omega), Option.bind_some]
  simp only [qs_11, if_true]
theorem qs_num3 (G lt φ : Nat → Nat) {L x : Nat} (hG : G 0 = L) (hL : L + 2 < 96) (hx : x < 1000) : f_L_number (ra_nf G) (ra_nf lt) (ra_nf φ) (nI x) 3 = some (1, ra_nf (ra_un (ra_un (ra_un G 0 (L + 1)) 0 (L + 1 + 1)) 0 (L + 1 + 1 + 1)), ra_nf (ra_un (ra_un (ra_un lt L (48 + x / 100)) (L + 1) (48 + x / 10 % 10)) (L + 1 + 1) (48 + x % 10)), ra_nf φ) := by
  unfold f_L_number
  rw [if_neg (by decide), qs_d100 hx, qs_say G lt φ hG (by omega) (by omega), Option.bind_some, if_neg (by decide), qs_d10 hx, qs_d1 hx, Option.bind_some, qs_48]
  rw [qs_say (ra_un G 0 (L + 1)) _ φ (ra_us G 0 (L + 1)) (by omega) (by omega), Option.bind_some, Option.bind_some, Option.bind_some, qs_48]
  simp only [qs_11]
  rw [qs_say (ra_un (ra_un G 0 (L + 1)) 0 (L + 1 + 1)) _ φ (ra_us _ 0 (L + 1 + 1)) (by omega) (by omega), Option.bind_some]
  simp only [qs_11, if_true]
theorem qs_le {lt : Nat → Nat} (h : ∀ j, lt j ≤ 255) (k : Nat) {v : Nat} (hv : v ≤ 255) : ∀ j, ra_un lt k v j ≤ 255 := by
  intro j
  unfold ra_un
  split
  · exact hv
  · exact h j
/-- a part's letters -/
def qk_ch (k : Nat) : Nat := if k = 0 then 112 else if k = 1 then 107 else if k = 2 then 115 else if k = 3 then 114 else if k = 4 then 106 else 116
def qk_it (lt : Nat → Nat) (st k t : Nat) : Prop := lt st = 112 ∧ lt (st + 1) = qk_ch k ∧ lt (st + 2) = 48 + t / 100 ∧ lt (st + 3) = 48 + t / 10 % 10 ∧ lt (st + 4) = 48 + t % 10 ∧ lt (st + 5) = 59
def qk_T (n : Nat) (lt : Nat → Nat) : Prop := (∀ j, lt j ≤ 255) ∧ ∀ p, p < n → ∃ k t, k ≤ 5 ∧ t ≤ 240 ∧ qk_it lt (6 * p) k t
theorem qk_ch_le (k : Nat) : qk_ch k < 256 := by
  unfold qk_ch
  repeat' split
  all_goals omega
theorem qk_T.keep {n : Nat} {lt lt' : Nat → Nat} (h : qk_T n lt) (hB : ∀ j, lt' j ≤ 255) (hk : ∀ j, j < 6 * n → lt' j = lt j) : qk_T n lt' := by
  refine ⟨hB, fun p hp => ?_⟩
  obtain ⟨k, t, h1, h2, a, b, c, d, e, f⟩ := h.2 p hp
  refine ⟨k, t, h1, h2, ?_, ?_, ?_, ?_, ?_, ?_⟩
  · rw [hk _ (by omega)]; exact a
  · rw [hk _ (by omega)]; exact b
  · rw [hk _ (by omega)]; exact c
  · rw [hk _ (by omega)]; exact d
  · rw [hk _ (by omega)]; exact e
  · rw [hk _ (by omega)]; exact f
theorem qs_part (G lt φ : Nat → Nat) {p k t : Nat} (hG : G 0 = 6 * p) (hp : p < 6) (hk : k ≤ 5) (ht : t ≤ 240) (hT : qk_T p lt) :
    ∃ G1 l1 G2 l2 G3 l3 G4 l4, f_L_say (ra_nf G) (ra_nf lt) (ra_nf φ) 112 = some (1, ra_nf G1, ra_nf l1, ra_nf φ) ∧ f_L_say (ra_nf G1) (ra_nf l1) (ra_nf φ) (nI (qk_ch k)) = some (1, ra_nf G2, ra_nf l2, ra_nf φ) ∧ f_L_number (ra_nf G2) (ra_nf l2) (ra_nf φ) (nI t) 3 = some (1, ra_nf G3, ra_nf l3, ra_nf φ) ∧ f_L_say (ra_nf G3) (ra_nf l3) (ra_nf φ) 59 = some (1, ra_nf G4, ra_nf l4, ra_nf φ) ∧ G4 0 = 6 * (p + 1) ∧ qk_T (p + 1) l4 := by
  have e1 := qs_say G lt φ hG (v := 112) (by omega) (by decide)
  have e2 := qs_say (ra_un G 0 (6 * p + 1)) (ra_un lt (6 * p) 112) φ (ra_us _ _ _) (v := qk_ch k) (by omega) (qk_ch_le k)
  have e3 := qs_num3 (ra_un (ra_un G 0 (6 * p + 1)) 0 (6 * p + 1 + 1)) (ra_un (ra_un lt (6 * p) 112) (6 * p + 1) (qk_ch k)) φ (ra_us _ _ _) (x := t) (by omega) (by omega)
  have e4 := qs_say _ (ra_un (ra_un (ra_un (ra_un (ra_un lt (6 * p) 112) (6 * p + 1) (qk_ch k)) (6 * p + 1 + 1) (48 + t / 100)) (6 * p + 1 + 1 + 1) (48 + t / 10 % 10)) (6 * p + 1 + 1 + 1 + 1) (48 + t % 10)) φ (ra_us (ra_un (ra_un (ra_un (ra_un G 0 (6 * p + 1)) 0 (6 * p + 1 + 1)) 0 (6 * p + 1 + 1 + 1)) 0 (6 * p + 1 + 1 + 1 + 1)) 0 (6 * p + 1 + 1 + 1 + 1 + 1)) (v := 59) (by omega) (by decide)
  refine ⟨_, _, _, _, _, _, _, _, e1, e2, e3, e4, ?_, ?_⟩
  · rw [ra_us]
    omega
  · have hB : ∀ j, ra_un (ra_un (ra_un (ra_un (ra_un (ra_un lt (6 * p) 112) (6 * p + 1) (qk_ch k)) (6 * p + 1 + 1) (48 + t / 100)) (6 * p + 1 + 1 + 1) (48 + t / 10 % 10)) (6 * p + 1 + 1 + 1 + 1) (48 + t % 10)) (6 * p + 1 + 1 + 1 + 1 + 1) 59 j ≤ 255 := qs_le (qs_le (qs_le (qs_le (qs_le (qs_le hT.1 _ (by decide)) _ (by have := qk_ch_le k; omega)) _ (by omega)) _ (by omega)) _ (by omega)) _ (by decide)
    have hK : ∀ j, j < 6 * p → ra_un (ra_un (ra_un (ra_un (ra_un (ra_un lt (6 * p) 112) (6 * p + 1) (qk_ch k)) (6 * p + 1 + 1) (48 + t / 100)) (6 * p + 1 + 1 + 1) (48 + t / 10 % 10)) (6 * p + 1 + 1 + 1 + 1) (48 + t % 10)) (6 * p + 1 + 1 + 1 + 1 + 1) 59 j = lt j := by
      intro j hj
      rw [ra_ud _ _ (by omega), ra_ud _ _ (by omega), ra_ud _ _ (by omega), ra_ud _ _ (by omega), ra_ud _ _ (by omega), ra_ud _ _ (by omega)]
    refine ⟨hB, fun q hq => ?_⟩
    by_cases c : q < p
    · exact (hT.keep hB hK).2 q c
    · obtain rfl : q = p := by omega
      refine ⟨k, t, hk, ht, ?_, ?_, ?_, ?_, ?_, ?_⟩
      · rw [ra_ud _ _ (by omega), ra_ud _ _ (by omega), ra_ud _ _ (by omega), ra_ud _ _ (by omega), ra_ud _ _ (by omega), ra_us]
      · rw [ra_ud _ _ (by omega), ra_ud _ _ (by omega), ra_ud _ _ (by omega), ra_ud _ _ (by omega), ra_us]
      · rw [ra_ud _ _ (by omega), ra_ud _ _ (by omega), ra_ud _ _ (by omega), show 6 * q + 2 = 6 * q + 1 + 1 from rfl, ra_us]
      · rw [ra_ud _ _ (by omega), ra_ud _ _ (by omega), show 6 * q + 3 = 6 * q + 1 + 1 + 1 from rfl, ra_us]
      · rw [ra_ud _ _ (by omega), show 6 * q + 4 = 6 * q + 1 + 1 + 1 + 1 from rfl, ra_us]
      · rw [show 6 * q + 5 = 6 * q + 1 + 1 + 1 + 1 + 1 from rfl, ra_us]
/-- the ring's letters, then swell's, cold's, heat's -/
def qk_R (lt : Nat → Nat) (st z b : Nat) : Prop := lt st = 114 ∧ lt (st + 1) = 48 + z / 100 ∧ lt (st + 2) = 48 + z / 10 % 10 ∧ lt (st + 3) = 48 + z % 10 ∧ lt (st + 4) = 48 + b % 10 ∧ lt (st + 5) = 59
def qk_2 (lt : Nat → Nat) (st c x : Nat) : Prop := lt st = c ∧ lt (st + 1) = 48 + x / 10 % 10 ∧ lt (st + 2) = 48 + x % 10 ∧ lt (st + 3) = 59
def qk_1 (lt : Nat → Nat) (st c x : Nat) : Prop := lt st = c ∧ lt (st + 1) = 48 + x % 10 ∧ lt (st + 2) = 59
theorem qs_ring (G lt φ : Nat → Nat) {n z b : Nat} (hG : G 0 = 6 * n) (hn : n ≤ 6) (hz : z < 1000) (hb : b < 1000) (hT : qk_T n lt) :
    ∃ G1 l1 G2 l2 G3 l3 G4 l4, f_L_say (ra_nf G) (ra_nf lt) (ra_nf φ) 114 = some (1, ra_nf G1, ra_nf l1, ra_nf φ) ∧ f_L_number (ra_nf G1) (ra_nf l1) (ra_nf φ) (nI z) 3 = some (1, ra_nf G2, ra_nf l2, ra_nf φ) ∧ f_L_number (ra_nf G2) (ra_nf l2) (ra_nf φ) (nI b) 1 = some (1, ra_nf G3, ra_nf l3, ra_nf φ) ∧ f_L_say (ra_nf G3) (ra_nf l3) (ra_nf φ) 59 = some (1, ra_nf G4, ra_nf l4, ra_nf φ) ∧ G4 0 = 6 * n + 6 ∧ qk_T n l4 ∧ qk_R l4 (6 * n) z b := by
  have e1 := qs_say G lt φ hG (v := 114) (by omega) (by decide)
  have e2 := qs_num3 (ra_un G 0 (6 * n + 1)) (ra_un lt (6 * n) 114) φ (ra_us _ _ _) (x := z) (by omega) (by omega)
  have e3 := qs_num1 (ra_un (ra_un (ra_un (ra_un G 0 (6 * n + 1)) 0 (6 * n + 1 + 1)) 0 (6 * n + 1 + 1 + 1)) 0 (6 * n + 1 + 1 + 1 + 1)) (ra_un (ra_un (ra_un (ra_un lt (6 * n) 114) (6 * n + 1) (48 + z / 100)) (6 * n + 1 + 1) (48 + z / 10 % 10)) (6 * n + 1 + 1 + 1) (48 + z % 10)) φ (ra_us _ _ _) (x := b) (by omega) (by omega)
  have e4 := qs_say _ (ra_un (ra_un (ra_un (ra_un (ra_un lt (6 * n) 114) (6 * n + 1) (48 + z / 100)) (6 * n + 1 + 1) (48 + z / 10 % 10)) (6 * n + 1 + 1 + 1) (48 + z % 10)) (6 * n + 1 + 1 + 1 + 1) (48 + b % 10)) φ (ra_us (ra_un (ra_un (ra_un (ra_un G 0 (6 * n + 1)) 0 (6 * n + 1 + 1)) 0 (6 * n + 1 + 1 + 1)) 0 (6 * n + 1 + 1 + 1 + 1)) 0 (6 * n + 1 + 1 + 1 + 1 + 1)) (v := 59) (by omega) (by decide)
  refine ⟨_, _, _, _, _, _, _, _, e1, e2, e3, e4, ?_, ?_, ?_⟩
  · rw [ra_us]
  · refine hT.keep (qs_le (qs_le (qs_le (qs_le (qs_le (qs_le hT.1 _ (by decide)) _ (by omega)) _ (by omega)) _ (by omega)) _ (by omega)) _ (by decide)) (fun j hj => ?_)
    rw [ra_ud _ _ (by omega), ra_ud _ _ (by omega), ra_ud _ _ (by omega), ra_ud _ _ (by omega), ra_ud _ _ (by omega), ra_ud _ _ (by omega)]
  · refine ⟨?_, ?_, ?_, ?_, ?_, ?_⟩
    · rw [ra_ud _ _ (by omega), ra_ud _ _ (by omega), ra_ud _ _ (by omega), ra_ud _ _ (by omega), ra_ud _ _ (by omega), ra_us]
    · rw [ra_ud _ _ (by omega), ra_ud _ _ (by omega), ra_ud _ _ (by omega), ra_ud _ _ (by omega), ra_us]
    · rw [ra_ud _ _ (by omega), ra_ud _ _ (by omega), ra_ud _ _ (by omega), show 6 * n + 2 = 6 * n + 1 + 1 from rfl, ra_us]
    · rw [ra_ud _ _ (by omega), ra_ud _ _ (by omega), show 6 * n + 3 = 6 * n + 1 + 1 + 1 from rfl, ra_us]
    · rw [ra_ud _ _ (by omega), show 6 * n + 4 = 6 * n + 1 + 1 + 1 + 1 from rfl, ra_us]
    · rw [show 6 * n + 5 = 6 * n + 1 + 1 + 1 + 1 + 1 from rfl, ra_us]
theorem qs_two (G lt φ : Nat → Nat) {L c x : Nat} (hG : G 0 = L) (hL : L + 3 < 96) (hc : c < 256) (hx : x < 1000) (hB : ∀ j, lt j ≤ 255) :
    ∃ G1 l1 G2 l2 G3 l3, f_L_say (ra_nf G) (ra_nf lt) (ra_nf φ) (nI c) = some (1, ra_nf G1, ra_nf l1, ra_nf φ) ∧ f_L_number (ra_nf G1) (ra_nf l1) (ra_nf φ) (nI x) 2 = some (1, ra_nf G2, ra_nf l2, ra_nf φ) ∧ f_L_say (ra_nf G2) (ra_nf l2) (ra_nf φ) 59 = some (1, ra_nf G3, ra_nf l3, ra_nf φ) ∧ G3 0 = L + 4 ∧ (∀ j, l3 j ≤ 255) ∧ (∀ j, j < L → l3 j = lt j) ∧ qk_2 l3 L c x := by
  have e1 := qs_say G lt φ hG (v := c) (by omega) hc
  have e2 := qs_num2 (ra_un G 0 (L + 1)) (ra_un lt L c) φ (ra_us _ _ _) (x := x) (by omega) hx
  have e3 := qs_say _ (ra_un (ra_un (ra_un lt L c) (L + 1) (48 + x / 10 % 10)) (L + 1 + 1) (48 + x % 10)) φ (ra_us (ra_un (ra_un G 0 (L + 1)) 0 (L + 1 + 1)) 0 (L + 1 + 1 + 1)) (v := 59) (by omega) (by decide)
  refine ⟨_, _, _, _, _, _, e1, e2, e3, ?_, ?_, fun j hj => ?_, ?_, ?_, ?_, ?_⟩
  · rw [ra_us]
  · exact qs_le (qs_le (qs_le (qs_le hB _ (by omega)) _ (by omega)) _ (by omega)) _ (by decide)
  · rw [ra_ud _ _ (by omega), ra_ud _ _ (by omega), ra_ud _ _ (by omega), ra_ud _ _ (by omega)]
  · rw [ra_ud _ _ (by omega), ra_ud _ _ (by omega), ra_ud _ _ (by omega), ra_us]
  · rw [ra_ud _ _ (by omega), ra_ud _ _ (by omega), ra_us]
  · rw [ra_ud _ _ (by omega), show L + 2 = L + 1 + 1 from rfl, ra_us]
  · rw [show L + 3 = L + 1 + 1 + 1 from rfl, ra_us]
theorem qs_one (G lt φ : Nat → Nat) {L c x : Nat} (hG : G 0 = L) (hL : L + 2 < 96) (hc : c < 256) (hx : x < 1000) (hB : ∀ j, lt j ≤ 255) :
    ∃ G1 l1 G2 l2 G3 l3, f_L_say (ra_nf G) (ra_nf lt) (ra_nf φ) (nI c) = some (1, ra_nf G1, ra_nf l1, ra_nf φ) ∧ f_L_number (ra_nf G1) (ra_nf l1) (ra_nf φ) (nI x) 1 = some (1, ra_nf G2, ra_nf l2, ra_nf φ) ∧ f_L_say (ra_nf G2) (ra_nf l2) (ra_nf φ) 59 = some (1, ra_nf G3, ra_nf l3, ra_nf φ) ∧ G3 0 = L + 3 ∧ (∀ j, l3 j ≤ 255) ∧ (∀ j, j < L → l3 j = lt j) ∧ qk_1 l3 L c x := by
  have e1 := qs_say G lt φ hG (v := c) (by omega) hc
  have e2 := qs_num1 (ra_un G 0 (L + 1)) (ra_un lt L c) φ (ra_us _ _ _) (x := x) (by omega) hx
  have e3 := qs_say _ (ra_un (ra_un lt L c) (L + 1) (48 + x % 10)) φ (ra_us (ra_un G 0 (L + 1)) 0 (L + 1 + 1)) (v := 59) (by omega) (by decide)
  refine ⟨_, _, _, _, _, _, e1, e2, e3, ?_, ?_, fun j hj => ?_, ?_, ?_, ?_⟩
  · rw [ra_us]
  · exact qs_le (qs_le (qs_le hB _ (by omega)) _ (by omega)) _ (by decide)
  · rw [ra_ud _ _ (by omega), ra_ud _ _ (by omega), ra_ud _ _ (by omega)]
  · rw [ra_ud _ _ (by omega), ra_ud _ _ (by omega), ra_us]
  · rw [ra_ud _ _ (by omega), ra_us]
  · rw [show L + 2 = L + 1 + 1 from rfl, ra_us]
end QALetters
