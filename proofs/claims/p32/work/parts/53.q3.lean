/-! the letters' form, and what comes of them -/
section QAHand
section
variable {L : Nat} {lt : Nat → Nat}
theorem qf_cd {p v : Nat} (hp : p < L) (h : lt p = v) : ra_cd0 L lt p = v := by
  unfold ra_cd0
  rw [if_pos hp]
  exact h
theorem qf_ff {f : Nat → Bool} : ∀ d i, (∀ j, i ≤ j → j < i + d → f j = true) → ra_ff f d i = i + d := by
  intro d
  induction d with
  | zero => intro i _; rfl
  | succ d ih =>
    intro i h
    unfold ra_ff
    rw [if_pos (h i (Nat.le_refl _) (by omega)), ih (i + 1) (fun j h1 h2 => h j (by omega) (by omega))]
    omega
theorem qf_ok {st s : Nat} (hs : ra_sl (ra_cd0 L lt st) = s) (h0 : 1 ≤ s) (h : ∀ j, 1 ≤ j → j < s → ra_ft L lt st j = true) : ra_ok1 L lt st := by
  refine ⟨by omega, ?_⟩
  unfold ra_R
  rw [hs, qf_ff (s - 1) 1 (fun j h1 h2 => h j h1 (by omega))]
  omega
theorem qf_end {st i s : Nat} (hs : ra_sl (ra_cd0 L lt st) = s) (hi : i + 1 = s) (h : ra_cd0 L lt (st + i) = 59) : ra_ft L lt st i = true := by
  unfold ra_ft
  rw [hs, if_pos hi, h]
  rfl
theorem qf_dig {st i s : Nat} (hs : ra_sl (ra_cd0 L lt st) = s) (hi : ¬ i + 1 = s) (hc : ¬ (ra_cd0 L lt st = 112 ∧ i = 1)) {d : Nat} (h : ra_cd0 L lt (st + i) = 48 + d) (hd : d ≤ 9) : ra_ft L lt st i = true := by
  unfold ra_ft ra_dgt
  rw [hs, if_neg hi, if_neg hc, h]
  exact decide_eq_true (by omega)
theorem qk_kd {k : Nat} (hk : k ≤ 5) : ra_kd (qk_ch k) = k := by
  have : k = 0 ∨ k = 1 ∨ k = 2 ∨ k = 3 ∨ k = 4 ∨ k = 5 := by omega
  rcases this with rfl | rfl | rfl | rfl | rfl | rfl <;> rfl
theorem qf_part {st k t : Nat} (h : qk_it lt st k t) (hk : k ≤ 5) (ht : t ≤ 240) (hL : st + 6 ≤ L) : ra_ok1 L lt st ∧ ra_sl (ra_cd0 L lt st) = 6 := by
  obtain ⟨a0, a1, a2, a3, a4, a5⟩ := h
  have b0 := qf_cd (L := L) (by omega) a0
  have hs : ra_sl (ra_cd0 L lt st) = 6 := by rw [b0]; rfl
  refine ⟨qf_ok hs (by decide) (fun j h1 h2 => ?_), hs⟩
  have : j = 1 ∨ j = 2 ∨ j = 3 ∨ j = 4 ∨ j = 5 := by omega
  rcases this with rfl | rfl | rfl | rfl | rfl
  · unfold ra_ft
    rw [hs, if_neg (by decide), if_pos ⟨b0, rfl⟩, qf_cd (by omega) a1, qk_kd hk]
    exact decide_eq_true (by omega)
  · exact qf_dig hs (by decide) (fun z => absurd z.2 (by decide)) (qf_cd (by omega) a2) (by omega)
  · exact qf_dig hs (by decide) (fun z => absurd z.2 (by decide)) (qf_cd (by omega) a3) (by omega)
  · exact qf_dig hs (by decide) (fun z => absurd z.2 (by decide)) (qf_cd (by omega) a4) (by omega)
  · exact qf_end hs rfl (qf_cd (by omega) a5)
theorem qf_ring {st z b : Nat} (h : qk_R lt st z b) (hz : z < 1000) (hL : st + 6 ≤ L) : ra_ok1 L lt st ∧ ra_sl (ra_cd0 L lt st) = 6 := by
  obtain ⟨a0, a1, a2, a3, a4, a5⟩ := h
  have b0 := qf_cd (L := L) (by omega) a0
  have hs : ra_sl (ra_cd0 L lt st) = 6 := by rw [b0]; rfl
  have hn : ∀ j, ¬ (ra_cd0 L lt st = 112 ∧ j = 1) := fun j z => by
    have := z.1
    rw [b0] at this
    exact absurd this (by decide)
  refine ⟨qf_ok hs (by decide) (fun j h1 h2 => ?_), hs⟩
  have : j = 1 ∨ j = 2 ∨ j = 3 ∨ j = 4 ∨ j = 5 := by omega
  rcases this with rfl | rfl | rfl | rfl | rfl
  · exact qf_dig hs (by decide) (hn _) (qf_cd (by omega) a1) (by omega)
  · exact qf_dig hs (by decide) (hn _) (qf_cd (by omega) a2) (by omega)
  · exact qf_dig hs (by decide) (hn _) (qf_cd (by omega) a3) (by omega)
  · exact qf_dig hs (by decide) (hn _) (qf_cd (by omega) a4) (by omega)
  · exact qf_end hs rfl (qf_cd (by omega) a5)
theorem qf_two {st c x : Nat} (h : qk_2 lt st c x) (hc : c = 115 ∨ c = 99) (hL : st + 4 ≤ L) : ra_ok1 L lt st ∧ ra_sl (ra_cd0 L lt st) = 4 := by
  obtain ⟨a0, a1, a2, a3⟩ := h
  have b0 := qf_cd (L := L) (by omega) a0
  have hs : ra_sl (ra_cd0 L lt st) = 4 := by
    rw [b0]
    rcases hc with rfl | rfl <;> rfl
  have hn : ∀ j, ¬ (ra_cd0 L lt st = 112 ∧ j = 1) := fun j z => by
    have := z.1
    omega
  refine ⟨qf_ok hs (by decide) (fun j h1 h2 => ?_), hs⟩
  have : j = 1 ∨ j = 2 ∨ j = 3 := by omega
  rcases this with rfl | rfl | rfl
  · exact qf_dig hs (by decide) (hn _) (qf_cd (by omega) a1) (by omega)
  · exact qf_dig hs (by decide) (hn _) (qf_cd (by omega) a2) (by omega)
  · exact qf_end hs rfl (qf_cd (by omega) a3)
theorem qf_one {st x : Nat} (h : qk_1 lt st 104 x) (hL : st + 3 ≤ L) : ra_ok1 L lt st ∧ ra_sl (ra_cd0 L lt st) = 3 := by
  obtain ⟨a0, a1, a2⟩ := h
  have b0 := qf_cd (L := L) (by omega) a0
  have hs : ra_sl (ra_cd0 L lt st) = 3 := by rw [b0]; rfl
  have hn : ∀ j, ¬ (ra_cd0 L lt st = 112 ∧ j = 1) := fun j z => by
    have := z.1
    omega
  refine ⟨qf_ok hs (by decide) (fun j h1 h2 => ?_), hs⟩
  have : j = 1 ∨ j = 2 := by omega
  rcases this with rfl | rfl
  · exact qf_dig hs (by decide) (hn _) (qf_cd (by omega) a1) (by omega)
  · exact qf_end hs rfl (qf_cd (by omega) a2)
theorem qf_L13 (G : Nat → Nat) (hG : G 0 = L) (hL : L ≤ 96) (hlt : ∀ j, lt j ≤ 255) : ∀ (d st n m : Nat), st ≤ L → n ≤ st → d < m → ra_ch L lt d st → ∃ y, f_X2_formFault_L13 (ra_nf G) (ra_nf lt) m (nI st) (nI n) = some (Sum.inr y) := by
  have hdone : ∀ (st n m : Nat), L ≤ st → st ≤ L → f_X2_formFault_L13 (ra_nf G) (ra_nf lt) (m + 1) (nI st) (nI n) = some (Sum.inr (nI st, nI n)) := by
    intro st n m h1 h2
    rw [f_X2_formFault_L13]
    by_cases c96 : (96 : Int32) ≤ nI n
    · rw [if_pos c96]
    · rw [if_neg c96, ra_nf_ap, hG, if_pos (nI_le (by omega) (by omega))]
  intro d
  induction d with
  | zero =>
    intro st n m h1 h3 hm hch
    obtain ⟨m, rfl⟩ : ∃ q, m = q + 1 := ⟨m - 1, by omega⟩
    exact ⟨_, hdone st n m hch h1⟩
  | succ d ih =>
    intro st n m h1 h3 hm hch
    obtain ⟨m, rfl⟩ : ∃ q, m = q + 1 := ⟨m - 1, by omega⟩
    by_cases cL : L ≤ st
    · exact ⟨_, hdone st n m cL h1⟩
    · rcases hch with hch | ⟨hok, hch⟩
      · exact absurd hch cL
      have hle := ra_ok1_lt hlt (by omega) hok
      have hs := ra_sl_le (ra_cd0 L lt st)
      obtain ⟨z, z1⟩ := hok
      have k1 : ¬ (96 : Int32) ≤ nI n := nI_ge (b := 96) (by omega) (by decide)
      have k2 : ¬ ra_nf G 0 ≤ nI st := by
        rw [ra_nf_ap, hG]
        exact nI_ge (by omega) (by omega)
      have hz0 : ¬ nI (ra_sl (ra_cd0 L lt st)) = 0 := nI_ne0 z (by omega)
      have hL49 := rc_L49 G hG hL hlt (nI n) (st := st) (by omega) (ra_sl (ra_cd0 L lt st) - 1) 1 rf_fu (by omega) (by omega) (by unfold rf_fu; omega)
      have hL49 : f_X2_formFault_L49 (ra_nf G) (ra_nf lt) (nI st) (nI n) (ra_la L lt st) (nI (ra_sl (ra_cd0 L lt st))) rf_fu 1 = some (if ra_R L lt st < ra_sl (ra_cd0 L lt st) then Sum.inl (nI (st + ra_R L lt st)) else Sum.inr (nI (ra_sl (ra_cd0 L lt st)))) := hL49
      rw [f_X2_formFault_L13, if_neg k1, if_neg k2, rc_letterAt G hG hL (by omega), Option.bind_some, rc_sl hlt, Option.bind_some, if_neg hz0, hL49, Option.bind_some, if_neg (show ¬ ra_R L lt st < ra_sl (ra_cd0 L lt st) by omega)]
      simp only [rf_sum, Option.bind_some]
      rw [nI_add, nI_1]
      exact ih (st + ra_sl (ra_cd0 L lt st)) (n + 1) m hle (by omega) (by omega) hch
theorem qt_step (G : Nat → Nat) (hG : G 0 = L) (hL : L ≤ 96) (hlt : ∀ j, lt j ≤ 255) (ng nk nt : Nat → Int32) {st n m x s : Nat} {γ κ τ γ' κ' τ' : Nat → Nat} (hst : st < L) (hn : n ≤ st) (hs : ra_sl (ra_cd0 L lt st) = s) (t1 : f_X2_takeStatement (ra_nf G) (ra_nf γ) (ra_nf κ) (ra_nf τ) (ra_nf lt) (nI st) = some (nI 1, ra_nf γ', ra_nf κ', ra_nf τ')) : f_X2_takeStatements_L17 (ra_nf G) (ra_nf lt) ng nk nt (m + 1) (nI x) (nI st) (nI n) (ra_nf γ) (ra_nf κ) (ra_nf τ) = f_X2_takeStatements_L17 (ra_nf G) (ra_nf lt) ng nk nt m (nI (x + 1)) (nI (st + s)) (nI (n + 1)) (ra_nf γ') (ra_nf κ') (ra_nf τ') := by
  have k1 : ¬ (96 : Int32) ≤ nI n := nI_ge (b := 96) (by omega) (by decide)
  have k2 : ¬ ra_nf G 0 ≤ nI st := by
    rw [ra_nf_ap, hG]
    exact nI_ge hst (by omega)
  rw [f_X2_takeStatements_L17, if_neg k1, if_neg k2, t1, Option.bind_some, if_neg (show ¬ nI 1 = 0 by decide), nI_1, Option.bind_some, rc_letterAt G hG hL (by omega), Option.bind_some, rc_sl hlt, Option.bind_some, hs, nI_add, Option.bind_some, nI_1, Option.bind_some]
theorem qt_done (G : Nat → Nat) (hG : G 0 = L) (hL : L ≤ 96) (ng nk nt g k t : Nat → Int32) {st n m : Nat} {x : Int32} (hst : st = L) : ∃ y z, f_X2_takeStatements_L17 (ra_nf G) (ra_nf lt) ng nk nt (m + 1) x (nI st) (nI n) g k t = some (Sum.inr (x, y, z, g, k, t)) := by
  rw [f_X2_takeStatements_L17]
  by_cases c : (96 : Int32) ≤ nI n
  · rw [if_pos c]
    exact ⟨_, _, rfl⟩
  · rw [if_neg c, if_pos (show ra_nf G 0 ≤ nI st by rw [ra_nf_ap, hG]; exact nI_le (by omega) (by omega))]
    exact ⟨_, _, rfl⟩
theorem qn_3 {p x : Nat} (hx : x < 1000) (h0 : ra_cd0 L lt p = 48 + x / 100) (h1 : ra_cd0 L lt (p + 1) = 48 + x / 10 % 10) (h2 : ra_cd0 L lt (p + 2) = 48 + x % 10) : ra_nu L lt p 3 = x := by
  show 10 * (10 * (10 * 0 + ra_cd0 L lt (p + 0) - 48) + ra_cd0 L lt (p + 1) - 48) + ra_cd0 L lt (p + 2) - 48 = x
  rw [Nat.add_zero, h0, h1, h2]
  omega
theorem qn_2 {p x : Nat} (hx : x < 100) (h0 : ra_cd0 L lt p = 48 + x / 10 % 10) (h1 : ra_cd0 L lt (p + 1) = 48 + x % 10) : ra_nu L lt p 2 = x := by
  show 10 * (10 * 0 + ra_cd0 L lt (p + 0) - 48) + ra_cd0 L lt (p + 1) - 48 = x
  rw [Nat.add_zero, h0, h1]
  omega
theorem qn_1 {p x : Nat} (hx : x < 10) (h0 : ra_cd0 L lt p = 48 + x % 10) : ra_nu L lt p 1 = x := by
  show 10 * 0 + ra_cd0 L lt (p + 0) - 48 = x
  rw [Nat.add_zero, h0]
  omega
theorem qt_n3 (G : Nat → Nat) (hG : G 0 = L) (hL : L ≤ 96) (hlt : ∀ j, lt j ≤ 255) {p x : Nat} (hp : p + 3 ≤ L) (hx : x < 1000) (h0 : lt p = 48 + x / 100) (h1 : lt (p + 1) = 48 + x / 10 % 10) (h2 : lt (p + 2) = 48 + x % 10) : f_X2_numberAt (ra_nf G) (ra_nf lt) (nI p) 3 = some (nI x) := by
  have b0 := qf_cd (L := L) (by omega) h0
  have b1 := qf_cd (L := L) (by omega) h1
  have b2 := qf_cd (L := L) (by omega) h2
  have h := rc_num G hG hL hlt (p := p) (dg := 3) (by omega) (by decide) (fun i hi => by
    have : i = 0 ∨ i = 1 ∨ i = 2 := by omega
    rcases this with rfl | rfl | rfl
    · rw [Nat.add_zero, b0]; omega
    · rw [b1]; omega
    · rw [b2]; omega)
  rw [qn_3 hx b0 b1 b2] at h
  exact h
theorem qt_n2 (G : Nat → Nat) (hG : G 0 = L) (hL : L ≤ 96) (hlt : ∀ j, lt j ≤ 255) {p x : Nat} (hp : p + 2 ≤ L) (hx : x < 100) (h0 : lt p = 48 + x / 10 % 10) (h1 : lt (p + 1) = 48 + x % 10) : f_X2_numberAt (ra_nf G) (ra_nf lt) (nI p) 2 = some (nI x) := by
  have b0 := qf_cd (L := L) (by omega) h0
  have b1 := qf_cd (L := L) (by omega) h1
  have h := rc_num G hG hL hlt (p := p) (dg := 2) (by omega) (by decide) (fun i hi => by
    have : i = 0 ∨ i = 1 := by omega
    rcases this with rfl | rfl
    · rw [Nat.add_zero, b0]; omega
    · rw [b1]; omega)
  rw [qn_2 hx b0 b1] at h
  exact h
theorem qt_n1 (G : Nat → Nat) (hG : G 0 = L) (hL : L ≤ 96) (hlt : ∀ j, lt j ≤ 255) {p x : Nat} (hp : p + 1 ≤ L) (hx : x < 10) (h0 : lt p = 48 + x % 10) : f_X2_numberAt (ra_nf G) (ra_nf lt) (nI p) 1 = some (nI x) := by
  have b0 := qf_cd (L := L) (by omega) h0
  have h := rc_num G hG hL hlt (p := p) (dg := 1) (by omega) (by decide) (fun i hi => by
    have : i = 0 := by omega
    rcases this with rfl
    rw [Nat.add_zero, b0]; omega)
  rw [qn_1 hx b0] at h
  exact h
theorem qt_la (G : Nat → Nat) (hG : G 0 = L) (hL : L ≤ 96) {p v : Nat} (hp : p < L) (h : lt p = v) : f_X2_letterAt (ra_nf G) (ra_nf lt) (nI p) = some (nI v) := by
  rw [rc_letterAt G hG hL (by omega)]
  unfold ra_la
  rw [if_pos hp, h]
theorem qt_kd {k : Nat} (hk : k ≤ 5) : f_X2_kindOf (nI (qk_ch k)) = some (nI k) := by
  have : k = 0 ∨ k = 1 ∨ k = 2 ∨ k = 3 ∨ k = 4 ∨ k = 5 := by omega
  rcases this with rfl | rfl | rfl | rfl | rfl | rfl <;> rfl
theorem qt_tp {γ κ τ : Nat → Nat} {k t : Nat} (h0 : γ 0 < 6) (h3 : γ 3 ≤ γ 0) (ht : t ≤ 240) (co : γ 0 = 0 ∨ γ 3 < γ 0) : f_X0_takePart (ra_nf γ) (ra_nf κ) (ra_nf τ) (nI k) (nI t) = some (1, ra_nf (ra_un γ 0 (γ 0 + 1)), ra_nf (ra_un κ (γ 0) k), ra_nf (ra_un τ (γ 0) t)) := by
  unfold f_X0_takePart
  by_cases z : γ 0 = 0
  · simp (disch := omega) only [↓reduceIte, ra_lit, ra_nf_ap, nI_add, nI_clamp, nI_ltI, nI_leI, nI_eq, Option.bind_some, if_true, if_false, not_false_eq_true, not_true_eq_false, ra_ltT, ra_ltF, ra_leT, ra_leF, ra_eqT, ra_eqF, or_false, false_or, or_true, true_or, and_true, true_and, and_false, false_and, ra_put, ra_upd]
  · have ho : γ 3 < γ 0 := by omega
    rw [rc_isOff γ (by omega) (by omega), if_pos ho]
    simp (disch := omega) only [↓reduceIte, ra_lit, ra_nf_ap, nI_add, nI_clamp, nI_ltI, nI_leI, nI_eq, Option.bind_some, if_true, if_false, not_false_eq_true, not_true_eq_false, ra_ltT, ra_ltF, ra_leT, ra_leF, ra_eqT, ra_eqF, or_false, false_or, or_true, true_or, and_true, true_and, and_false, false_and, ra_put, ra_upd]
theorem qt_part (G : Nat → Nat) (hG : G 0 = L) (hL : L ≤ 96) (hlt : ∀ j, lt j ≤ 255) {γ κ τ : Nat → Nat} {st k t : Nat} (h : qk_it lt st k t) (hk : k ≤ 5) (ht : t ≤ 240) (hst : st + 6 ≤ L) (h0 : γ 0 < 6) (h3 : γ 3 ≤ γ 0) (co : γ 0 = 0 ∨ γ 3 < γ 0) : f_X2_takeStatement (ra_nf G) (ra_nf γ) (ra_nf κ) (ra_nf τ) (ra_nf lt) (nI st) = some (nI 1, ra_nf (ra_un γ 0 (γ 0 + 1)), ra_nf (ra_un κ (γ 0) k), ra_nf (ra_un τ (γ 0) t)) := by
  obtain ⟨a0, a1, a2, a3, a4, a5⟩ := h
  unfold f_X2_takeStatement
  rw [qt_la G hG hL (by omega) a0, Option.bind_some, if_neg (by decide), if_neg (by decide), if_pos (by decide), nI_1, qt_la G hG hL (by omega) a1, Option.bind_some, qt_kd hk, Option.bind_some, show nI st + 2 = nI (st + 2) from nI_add st 2, qt_n3 G hG hL hlt (by omega) (by omega) a2 a3 a4, Option.bind_some, qt_tp h0 h3 ht co, Option.bind_some]
  exact if_pos ra_bb1
theorem qt_ring (G : Nat → Nat) (hG : G 0 = L) (hL : L ≤ 96) (hlt : ∀ j, lt j ≤ 255) {γ κ τ : Nat → Nat} {st z b : Nat} (h : qk_R lt st z b) (hz : 100 ≤ z ∧ z ≤ 250) (hb : 1 ≤ b ∧ b ≤ 9) (hst : st + 6 ≤ L) : f_X2_takeStatement (ra_nf G) (ra_nf γ) (ra_nf κ) (ra_nf τ) (ra_nf lt) (nI st) = some (nI 1, ra_nf (ra_un (ra_un γ 1 z) 2 b), ra_nf κ, ra_nf τ) := by
  obtain ⟨a0, a1, a2, a3, a4, a5⟩ := h
  unfold f_X2_takeStatement
  rw [qt_la G hG hL (by omega) a0, Option.bind_some, if_neg (by decide), if_neg (by decide), if_neg (by decide), if_pos (by decide), nI_1, qt_n3 G hG hL hlt (by omega) (by omega) a1 a2 a3, Option.bind_some, rc_ts0 (by omega), if_pos hz, Option.bind_some, if_neg (show ¬ nI 1 = 0 by decide), show nI st + 4 = nI (st + 4) from nI_add st 4, qt_n1 G hG hL hlt (by omega) (by omega) a4, Option.bind_some, rc_ts1 (by omega), if_pos hb, Option.bind_some, if_neg (show ¬ nI 1 = 0 by decide)]
  rfl
theorem qt_swell (G : Nat → Nat) (hG : G 0 = L) (hL : L ≤ 96) (hlt : ∀ j, lt j ≤ 255) {γ κ τ : Nat → Nat} {st x : Nat} (h : qk_2 lt st 115 x) (hx : x ≤ 30) (hst : st + 4 ≤ L) : f_X2_takeStatement (ra_nf G) (ra_nf γ) (ra_nf κ) (ra_nf τ) (ra_nf lt) (nI st) = some (nI 1, ra_nf (ra_un γ 4 x), ra_nf κ, ra_nf τ) := by
  obtain ⟨a0, a1, a2, a3⟩ := h
  unfold f_X2_takeStatement
  rw [qt_la G hG hL (by omega) a0, Option.bind_some, if_neg (by decide), if_neg (by decide), if_neg (by decide), if_neg (by decide), if_pos (by decide), nI_1, qt_n2 G hG hL hlt (by omega) (by omega) a1 a2, Option.bind_some, rc_ts2 (by omega), if_pos hx, Option.bind_some, if_pos ra_bb1]
theorem qt_cold (G : Nat → Nat) (hG : G 0 = L) (hL : L ≤ 96) (hlt : ∀ j, lt j ≤ 255) {γ κ τ : Nat → Nat} {st x : Nat} (h : qk_2 lt st 99 x) (hx : x ≤ 20) (hst : st + 4 ≤ L) : f_X2_takeStatement (ra_nf G) (ra_nf γ) (ra_nf κ) (ra_nf τ) (ra_nf lt) (nI st) = some (nI 1, ra_nf (ra_un γ 5 x), ra_nf κ, ra_nf τ) := by
  obtain ⟨a0, a1, a2, a3⟩ := h
  unfold f_X2_takeStatement
  rw [qt_la G hG hL (by omega) a0, Option.bind_some, if_pos (by decide), nI_1, qt_n2 G hG hL hlt (by omega) (by omega) a1 a2, Option.bind_some, rc_ts3 (by omega), if_pos hx, Option.bind_some, if_pos ra_bb1]
theorem qt_heat (G : Nat → Nat) (hG : G 0 = L) (hL : L ≤ 96) (hlt : ∀ j, lt j ≤ 255) {γ κ τ : Nat → Nat} {st x : Nat} (h : qk_1 lt st 104 x) (hx : x ≤ 9) (hst : st + 3 ≤ L) : f_X2_takeStatement (ra_nf G) (ra_nf γ) (ra_nf κ) (ra_nf τ) (ra_nf lt) (nI st) = some (nI 1, ra_nf (ra_un γ 7 x), ra_nf κ, ra_nf τ) := by
  obtain ⟨a0, a1, a2⟩ := h
  unfold f_X2_takeStatement
  rw [qt_la G hG hL (by omega) a0, Option.bind_some, if_neg (by decide), if_pos (by decide), nI_1, qt_n1 G hG hL hlt (by omega) (by omega) a1, Option.bind_some, rc_ts4 hx, Option.bind_some, if_pos ra_bb1]
end
/-- the letters of a whole hand -/
def qk_H (lt : Nat → Nat) (n z b s c x : Nat) : Prop := qk_T n lt ∧ qk_R lt (6 * n) z b ∧ qk_2 lt (6 * n + 6) 115 s ∧ qk_2 lt (6 * n + 10) 99 c ∧ qk_1 lt (6 * n + 14) 104 x
def qk_N (n z b s c x : Nat) : Prop := n ≤ 6 ∧ (100 ≤ z ∧ z ≤ 250) ∧ (1 ≤ b ∧ b ≤ 9) ∧ s ≤ 30 ∧ c ≤ 20 ∧ x ≤ 9
theorem qh_ch {lt : Nat → Nat} {n z b s c x : Nat} (h : qk_H lt n z b s c x) (hN : qk_N n z b s c x) : ∀ d j, j + d = n → ra_ch (6 * n + 17) lt (d + 4) (6 * j) := by
  obtain ⟨hT, hR, hs, hc, hx⟩ := h
  obtain ⟨n6, z1, b1, s1, c1, x1⟩ := hN
  intro d
  induction d with
  | zero =>
    intro j hj
    obtain rfl : j = n := by omega
    obtain ⟨r1, r2⟩ := qf_ring (L := 6 * j + 17) hR (by omega) (by omega)
    obtain ⟨s3, s2⟩ := qf_two (L := 6 * j + 17) hs (Or.inl rfl) (by omega)
    obtain ⟨c3, c2⟩ := qf_two (L := 6 * j + 17) hc (Or.inr rfl) (by omega)
    obtain ⟨x3, x2⟩ := qf_one (L := 6 * j + 17) hx (by omega)
    refine Or.inr ⟨r1, ?_⟩
    rw [r2]
    refine Or.inr ⟨s3, ?_⟩
    rw [s2]
    refine Or.inr ⟨c3, ?_⟩
    rw [show 6 * j + 6 + 4 = 6 * j + 10 from rfl, c2]
    refine Or.inr ⟨x3, ?_⟩
    rw [show 6 * j + 10 + 4 = 6 * j + 14 from rfl, x2]
    exact Nat.le_refl _
  | succ d ih =>
    intro j hj
    obtain ⟨k, t, hk, ht, hi⟩ := hT.2 j (by omega)
    obtain ⟨p1, p2⟩ := qf_part (L := 6 * n + 17) hi hk ht (by omega)
    have := ih (j + 1) (by omega)
    refine Or.inr ⟨p1, ?_⟩
    rw [p2, show 6 * j + 6 = 6 * (j + 1) by omega]
    exact this
theorem qh_take {lt : Nat → Nat} {n z b s c x : Nat} (h : qk_H lt n z b s c x) (hN : qk_N n z b s c x) (G : Nat → Nat) (hG : G 0 = 6 * n + 17) (ng nk nt : Nat → Int32) : ∀ (d j m : Nat) (γ κ τ : Nat → Nat), j + d = n → d + 5 < m → ra_ok γ κ τ → γ 0 = j → γ 3 = 0 → γ 8 ≤ 999 →
    ∃ γ' κ' τ' y w, f_X2_takeStatements_L17 (ra_nf G) (ra_nf lt) ng nk nt m (nI j) (nI (6 * j)) (nI j) (ra_nf γ) (ra_nf κ) (ra_nf τ) = some (Sum.inr (nI (n + 4), y, w, ra_nf γ', ra_nf κ', ra_nf τ')) ∧ ra_ok γ' κ' τ' ∧ γ' 0 = n ∧ γ' 8 ≤ 999 := by
  obtain ⟨hT, hR, hs, hc, hx⟩ := h
  obtain ⟨n6, z1, b1, s1, c1, x1⟩ := hN
  have hlt := hT.1
  have hL : 6 * n + 17 ≤ 96 := by omega
  intro d
  induction d with
  | zero =>
    intro j m γ κ τ hj hm hok h0 h3 h8
    obtain rfl : j = n := by omega
    obtain ⟨m, rfl⟩ : ∃ q, m = q + 1 + 1 + 1 + 1 + 1 := ⟨m - 5, by omega⟩
    obtain ⟨r1, r2⟩ := qf_ring (L := 6 * j + 17) hR (by omega) (by omega)
    obtain ⟨s3, s2⟩ := qf_two (L := 6 * j + 17) hs (Or.inl rfl) (by omega)
    obtain ⟨c3, c2⟩ := qf_two (L := 6 * j + 17) hc (Or.inr rfl) (by omega)
    obtain ⟨x3, x2⟩ := qf_one (L := 6 * j + 17) hx (by omega)
    obtain ⟨k0, k1, k2, k3, k4, k5, k6, k7, k8, k9, k10, k11⟩ := hok
    rw [qt_step G hG hL hlt ng nk nt (by omega) (by omega) r2 (qt_ring G hG hL hlt (γ := γ) (κ := κ) (τ := τ) hR z1 b1 (by omega))]
    rw [qt_step G hG hL hlt ng nk nt (by omega) (by omega) s2 (qt_swell G hG hL hlt (γ := ra_un (ra_un γ 1 z) 2 b) (κ := κ) (τ := τ) hs s1 (by omega))]
    rw [show 6 * j + 6 + 4 = 6 * j + 10 from rfl]
    rw [qt_step G hG hL hlt ng nk nt (by omega) (by omega) c2 (qt_cold G hG hL hlt (γ := ra_un (ra_un (ra_un γ 1 z) 2 b) 4 s) (κ := κ) (τ := τ) hc c1 (by omega))]
    rw [show 6 * j + 10 + 4 = 6 * j + 14 from rfl]
    rw [qt_step G hG hL hlt ng nk nt (by omega) (by omega) x2 (qt_heat G hG hL hlt (γ := ra_un (ra_un (ra_un (ra_un γ 1 z) 2 b) 4 s) 5 c) (κ := κ) (τ := τ) hx x1 (by omega))]
    obtain ⟨y, w, e⟩ := qt_done (lt := lt) G hG hL ng nk nt (ra_nf (ra_un (ra_un (ra_un (ra_un (ra_un γ 1 z) 2 b) 4 s) 5 c) 7 x)) (ra_nf κ) (ra_nf τ) (st := 6 * j + 14 + 3) (n := j + 1 + 1 + 1 + 1) (m := m) (x := nI (j + 1 + 1 + 1 + 1)) rfl
    exact ⟨_, κ, τ, y, w, e, ⟨k0, k1, z1.1, z1.2, b1.1, b1.2, s1, c1, k8, x1, k10, k11⟩, h0, h8⟩
  | succ d ih =>
    intro j m γ κ τ hj hm hok h0 h3 h8
    obtain ⟨m, rfl⟩ : ∃ q, m = q + 1 := ⟨m - 1, by omega⟩
    obtain ⟨k, t, hk, ht, hi⟩ := hT.2 j (by omega)
    obtain ⟨p1, p2⟩ := qf_part (L := 6 * n + 17) hi hk ht (by omega)
    obtain ⟨k0, k1, k2, k3, k4, k5, k6, k7, k8, k9, k10, k11⟩ := hok
    rw [qt_step G hG hL hlt ng nk nt (by omega) (by omega) p2 (qt_part G hG hL hlt (γ := γ) (κ := κ) (τ := τ) hi hk ht (by omega) (by omega) k1 (by omega)), show 6 * j + 6 = 6 * (j + 1) by omega]
    refine ih (j + 1) m (ra_un γ 0 (γ 0 + 1)) (ra_un κ (γ 0) k) (ra_un τ (γ 0) t) (by omega) (by omega) ⟨?_, ?_, k2, k3, k4, k5, k6, k7, k8, k9, ?_, ?_⟩ ?_ h3 h8
    · show γ 0 + 1 ≤ 6
      omega
    · show γ 3 ≤ γ 0 + 1
      omega
    · intro i
      unfold ra_un
      split
      · exact hk
      · exact k10 i
    · intro i
      unfold ra_un
      split
      · exact ht
      · exact k11 i
    · show γ 0 + 1 = j + 1
      omega
theorem qh_hand {lt γ κ τ : Nat → Nat} {n z b s c x : Nat} (h : qk_H lt n z b s c x) (hN : qk_N n z b s c x) (G : Nat → Nat) (hG : G 0 = 6 * n + 17) (ta tb tc : Nat → Int32) (hok : ra_ok γ κ τ) (h0 : γ 0 = 0) (h8 : γ 8 ≤ 999) :
    ∃ γ' κ' τ' a' b' c', f_X2_hand (ra_nf G) (ra_nf γ) (ra_nf κ) (ra_nf τ) ta tb tc (ra_nf lt) = some (nI (n + 4), ra_nf (ra_un G 0 0), ra_nf γ', ra_nf κ', ra_nf τ', a', b', c') ∧ ra_ok γ' κ' τ' ∧ γ' 0 = n ∧ γ' 8 ≤ 999 := by
  have n6 := hN.1
  have hz : upd (ra_nf G) 0 0 = ra_nf (ra_un G 0 0) := ra_upd G 0 0
  have h3 : γ 3 = 0 := by
    have := hok.2.1
    omega
  obtain ⟨y1, e1⟩ := qf_L13 G hG (by omega) h.1.1 (n + 4) 0 0 rf_fu (by omega) (by omega) (by unfold rf_fu; omega) (qh_ch h hN n 0 (by omega))
  obtain ⟨γ', κ', τ', y, w, e2, q1, q2, q3⟩ := qh_take h hN G hG (ra_nf γ) (ra_nf κ) (ra_nf τ) n 0 rf_fu γ κ τ (by omega) (by unfold rf_fu; omega) hok h0 h3 h8
  have e1 : f_X2_formFault_L13 (ra_nf G) (ra_nf lt) rf_fu 0 0 = some (Sum.inr y1) := e1
  have e2 : f_X2_takeStatements_L17 (ra_nf G) (ra_nf lt) (ra_nf γ) (ra_nf κ) (ra_nf τ) rf_fu 0 0 0 (ra_nf γ) (ra_nf κ) (ra_nf τ) = some (Sum.inr (nI (n + 4), y, w, ra_nf γ', ra_nf κ', ra_nf τ')) := e2
  refine ⟨γ', κ', τ', ra_nf γ', ra_nf κ', ra_nf τ', ?_, q1, q2, q3⟩
  unfold f_X2_hand f_X2_formFault
  rw [if_neg (show ¬ ra_nf G 0 = 0 by rw [ra_nf_ap, hG]; exact nI_ne0 (by omega) (by omega)), hz]
  unfold f_X2_takeStatements
  rw [rc_copy, Option.bind_some, e2, e1]
  rfl
end QAHand
