/-! the class's way to the least: going on from a place -/
section RSpread
variable {γ κ τ : Nat → Nat}
theorem rc_stand (g f : Nat → Nat) {p k : Nat} (hp : p < 558) : f_X1_stand (ra_nf g) (ra_nf f) (nI p) (nI k) = some (ra_nf (ra_un (ra_un (ra_un f 3 (p / 31 / 3)) 4 (p % 31)) 5 k)) := by
  have hrem : rf_rem (nI p) (nI 31) = nI (p % 31) := pk_rem (by omega) (by decide) (by decide)
  unfold f_X1_stand
  simp (disch := omega) only [↓reduceIte, ra_lit, ra_nf_ap, ra_st_lo, nI_add, nI_clamp, nI_ltI, nI_leI, nI_eq, Option.bind_some, if_true, if_false, not_false_eq_true, not_true_eq_false, ra_ltT, ra_ltF, ra_leT, ra_leF, ra_eqT, ra_eqF, or_false, false_or, or_true, true_or, and_true, true_and, and_false, false_and, pk_div, hrem, ra_upd]
/-- a kind of try from a place: what the loop does -/
theorem rk_spS (S : Nat → Int32) (hok : ra_ok γ κ τ) {hb : Bool} {g f : Nat → Nat} (W H : Nat → Int32) (hcf : rk_cf γ f) (hg2 : g 2 = if hb then 1 else 0) {P p k a m : Nat} (hp : p < 558) (hk : k ≤ 20) (hfr : p / 31 / 3 < γ 0) (ha : a < 7) :
    ∃ f2, rk_cf γ f2 ∧ ((rd_al a (rd_xp p k) ∧ rd_kp γ κ τ a (rd_xp p k) ∧ (f2 3, (if a = 5 then p / 31 % 3 + 1 else p / 31 % 3), f2 4, f2 5) = rd_st γ κ τ a (rd_xp p k) ∧
      f_X1_spread_L11 (ra_nf κ) (ra_nf τ) S (nI P) (nI p) (nI k) (nI (p / 31 % 3)) (m + 1) (nI a) (ra_nf g) (ra_nf f) W H = (f_X1_arrive (ra_nf g) (ra_nf f2) W H S (nI (P + rd_c hb a)) (nI (if a = 5 then p / 31 % 3 + 1 else p / 31 % 3))).bind fun (q : (Nat → Int32) × (Nat → Int32) × (Nat → Int32)) => f_X1_spread_L11 (ra_nf κ) (ra_nf τ) S (nI P) (nI p) (nI k) (nI (p / 31 % 3)) m (nI (a + 1)) q.1 (ra_nf f2) q.2.1 q.2.2) ∨
      (¬ (rd_al a (rd_xp p k) ∧ rd_kp γ κ τ a (rd_xp p k)) ∧
      f_X1_spread_L11 (ra_nf κ) (ra_nf τ) S (nI P) (nI p) (nI k) (nI (p / 31 % 3)) (m + 1) (nI a) (ra_nf g) (ra_nf f) W H = f_X1_spread_L11 (ra_nf κ) (ra_nf τ) S (nI P) (nI p) (nI k) (nI (p / 31 % 3)) m (nI (a + 1)) (ra_nf g) (ra_nf f2) W H)) := by
  obtain ⟨h0, h1, h2, h3, h4, h5, h6, h7, h8, h9, h10, h11⟩ := id hok
  obtain ⟨f0, f1, f2, f7, f6⟩ := id hcf
  have hst := rc_stand g f (k := k) hp
  have hbase : rk_cf γ (ra_un (ra_un (ra_un f 3 (p / 31 / 3)) 4 (p % 31)) 5 k) := hcf
  have e3 : (ra_un (ra_un (ra_un f 3 (p / 31 / 3)) 4 (p % 31)) 5 k) 3 = p / 31 / 3 := rfl
  have e4 : (ra_un (ra_un (ra_un f 3 (p / 31 / 3)) 4 (p % 31)) 5 k) 4 = p % 31 := rfl
  have e5 : (ra_un (ra_un (ra_un f 3 (p / 31 / 3)) 4 (p % 31)) 5 k) 5 = k := rfl
  generalize ra_un (ra_un (ra_un f 3 (p / 31 / 3)) 4 (p % 31)) 5 k = s at hst hbase e3 e4 e5
  obtain ⟨s0, s1, s2, s7, s6⟩ := id hbase
  have hoks : ra_ok s κ τ := ⟨by omega, by omega, by omega, by omega, by omega, by omega, by omega, by omega, s6, by omega, h10, h11⟩
  have hov : ra_ov s κ τ a ↔ rd_b γ κ τ a (rd_xp p k) := by
    unfold ra_ov rd_b rd_xp
    rw [e3, e4, e5, s1, s2, s7]
  have hgo := rc_over hoks (k := a) (by omega)
  have hstr := rc_strain (γ := s) ha (by omega) (by omega) s6
  have hmv : f_X2_movePrice (nI a) (ra_nf g 2) = some (nI (rd_c hb a)) := by
    rw [ra_nf_ap, hg2]
    exact rc_movePrice (by omega)
  have hth : p / 31 % 3 < 3 := Nat.mod_lt _ (by decide)
  have c6' : ¬ (6 : Int32) < nI a := nI_nlt (a := 6) (b := a) (by omega) (by decide)
  have w3 : (ra_wear s a) 3 = p / 31 / 3 := e3
  have w4 : (ra_wear s a) 4 = min 30 (p % 31 + ra_sw a) := by show min 30 (s 4 + ra_sw a) = _; rw [e4]
  have w5 : (ra_wear s a) 5 = ra_cd a k := by show ra_cd a (s 5) = _; rw [e5]
  have wcf : ∀ v, rk_cf γ (ra_un (ra_wear s a) 3 v) := fun v => ⟨s0, s1, s2, s7, Nat.min_le_left _ _⟩
  have hup : ∀ v, upd (ra_nf (ra_wear s a)) 3 (nI v) = ra_nf (ra_un (ra_wear s a) 3 v) := fun v => ra_upd _ _ _
  have hst7 : rd_st γ κ τ a (rd_xp p k) = (p / 31 / 3 + (if rd_b γ κ τ a (rd_xp p k) then 1 else 0), (if a = 5 then p / 31 % 3 + 1 else p / 31 % 3), min 30 (p % 31 + ra_sw a), ra_cd a k) := by
    unfold rd_st
    rw [if_neg (by omega)]
    rfl
  have n0 : nI (p / 31 / 3) + 0 = nI (p / 31 / 3) := nI_add (p / 31 / 3) 0
  have n1 : nI (p / 31 / 3) + 1 = nI (p / 31 / 3 + 1) := nI_1 _
  have u1 : nI (p / 31 % 3) + 1 = nI (p / 31 % 3 + 1) := nI_1 _
  rw [f_X1_spread_L11, if_neg c6', hst, Option.bind_some]
  by_cases o : rd_b γ κ τ a (rd_xp p k)
  · rw [if_pos (show s 3 < s 0 ∧ ra_ov s κ τ a from ⟨by omega, hov.mpr o⟩)] at hgo
    rw [if_pos o] at hst7
    by_cases c5 : a = 5
    · have x5 : nI a = 5 := by rw [c5]; rfl
      rw [if_pos x5, hgo, Option.bind_some, if_neg (show ¬ nI 1 = 0 by decide)]
      by_cases cu : p / 31 % 3 < 2
      · refine ⟨ra_un (ra_wear s a) 3 (p / 31 / 3 + 1), wcf _, Or.inl ⟨⟨by omega, fun z => by have := z.2; have : p / 31 % 3 = 2 := this; omega⟩, Or.inr (Or.inr o), ?_, ?_⟩⟩
        · rw [hst7]
          show (p / 31 / 3 + 1, _, (ra_wear s a) 4, (ra_wear s a) 5) = _
          rw [w4, w5]
        · rw [if_pos (show nI (p / 31 % 3) < 2 from nI_lt (a := p / 31 % 3) (b := 2) cu (by decide)), hstr, Option.bind_some, if_neg (show ¬ nI 1 = 0 by decide), ra_nf_ap, w3, n1, Option.bind_some, hmv, Option.bind_some, hup, nI_add, u1, if_pos c5]
          simp only [Option.bind_some, nI_1]
      · refine ⟨s, hbase, Or.inr ⟨fun z => z.1.2 ⟨c5, by show p / 31 % 3 = 2; omega⟩, ?_⟩⟩
        rw [if_neg (show ¬ nI (p / 31 % 3) < 2 from nI_nlt (a := p / 31 % 3) (b := 2) (by omega) (by omega)), Option.bind_some, nI_1]
    · have x5 : ¬ nI a = 5 := fun z => c5 ((nI_eq (b := 5) (by omega) (by decide)).mp z)
      refine ⟨ra_un (ra_wear s a) 3 (p / 31 / 3 + 1), wcf _, Or.inl ⟨⟨by omega, fun z => c5 z.1⟩, Or.inr (Or.inr o), ?_, ?_⟩⟩
      · rw [hst7]
        show (p / 31 / 3 + 1, _, (ra_wear s a) 4, (ra_wear s a) 5) = _
        rw [w4, w5]
      · rw [if_neg x5, hgo, Option.bind_some, if_neg (show ¬ nI 1 = 0 by decide), hstr, Option.bind_some, if_neg (show ¬ nI 1 = 0 by decide), ra_nf_ap, w3, n1, Option.bind_some, hmv, Option.bind_some, hup, nI_add, if_neg c5]
        simp only [Option.bind_some, nI_1]
  · rw [if_neg (show ¬ (s 3 < s 0 ∧ ra_ov s κ τ a) from fun z => o (hov.mp z.2))] at hgo
    rw [if_neg o] at hst7
    by_cases c6 : a = 6
    · have x6 : nI a = 6 := by rw [c6]; rfl
      have c5 : ¬ a = 5 := by omega
      have x5 : ¬ nI a = 5 := fun z => c5 ((nI_eq (b := 5) (by omega) (by decide)).mp z)
      refine ⟨ra_un (ra_wear s a) 3 (p / 31 / 3), wcf _, Or.inl ⟨⟨by omega, fun z => c5 z.1⟩, Or.inr (Or.inl c6), ?_, ?_⟩⟩
      · rw [hst7]
        show (p / 31 / 3, _, (ra_wear s a) 4, (ra_wear s a) 5) = _
        rw [w4, w5]
        rfl
      · rw [if_neg x5, hgo, Option.bind_some, if_pos (show nI 0 = 0 from rfl), if_pos x6, hstr, Option.bind_some, if_pos (show nI 0 = 0 from rfl), ra_nf_ap, w3, n0, Option.bind_some, hmv, Option.bind_some, hup, nI_add, if_neg c5]
        simp only [Option.bind_some, nI_1]
    · have x6 : ¬ nI a = 6 := fun z => c6 ((nI_eq (b := 6) (by omega) (by decide)).mp z)
      have hno : ¬ (rd_al a (rd_xp p k) ∧ rd_kp γ κ τ a (rd_xp p k)) := fun z => by
        rcases z.2 with y | y | y
        · omega
        · exact c6 y
        · exact o y
      refine ⟨s, hbase, Or.inr ⟨hno, ?_⟩⟩
      by_cases c5 : a = 5
      · have x5 : nI a = 5 := by rw [c5]; rfl
        rw [if_pos x5, hgo, Option.bind_some, if_pos (show nI 0 = 0 from rfl), if_neg x6, Option.bind_some, nI_1]
      · have x5 : ¬ nI a = 5 := fun z => c5 ((nI_eq (b := 5) (by omega) (by decide)).mp z)
        rw [if_neg x5, hgo, Option.bind_some, if_pos (show nI 0 = 0 from rfl), if_neg x6, Option.bind_some, nI_1]
theorem rk_I_sub {hb : Bool} {x0 : rd_X} {mst P : Nat} {E K K' : rd_X → Nat → Prop} {g W H S : Nat → Nat} (h : ∀ y q, K' y q → K y q) (hI : rk_I γ κ τ hb x0 mst P E K g W H S) : rk_I γ κ τ hb x0 mst P E K' g W H S := by
  obtain ⟨a1, a2, a3, a4, a5, a6, a7⟩ := hI
  exact ⟨a1, a2, a3, a4, a5, a6, fun y q hk => a7 y q (h y q hk)⟩
theorem rk_spL (hok : ra_ok γ κ τ) {hb : Bool} {x0 : rd_X} {mst P : Nat} {E : rd_X → Nat → Prop} {S : Nat → Nat} (hm : mst ≤ 200) (hP : P ≤ 300) {p k : Nat} (hp : p < 558) (hk : k ≤ 20) (hfr : p / 31 / 3 < γ 0) (hr : rd_rc γ κ τ hb x0 (rd_xp p k) P) :
    ∀ (d a m : Nat) (K : rd_X → Nat → Prop) (g f W H : Nat → Nat), a + d = 7 → d < m → rk_I γ κ τ hb x0 mst P E K g W H S → (g 2 = if hb then 1 else 0) → rk_cf γ f →
    ∃ K' g' f' W' H', f_X1_spread_L11 (ra_nf κ) (ra_nf τ) (ra_nf S) (nI P) (nI p) (nI k) (nI (p / 31 % 3)) m (nI a) (ra_nf g) (ra_nf f) (ra_nf W) (ra_nf H) = some (nI 7, ra_nf g', ra_nf f', ra_nf W', ra_nf H') ∧ (g' 2 = if hb then 1 else 0) ∧ rk_cf γ f' ∧ rk_I γ κ τ hb x0 mst P E K' g' W' H' S ∧ (∀ y q, K y q → K' y q) ∧
      (∀ b, a ≤ b → b < 7 → rd_al b (rd_xp p k) → rd_kp γ κ τ b (rd_xp p k) → K' (rd_st γ κ τ b (rd_xp p k)) (P + rd_c hb b)) ∧ (∀ j, j < 558 → W' (P % 9 * 558 + j) = W (P % 9 * 558 + j)) := by
  have hbd : rd_bd (γ 0) (rd_xp p k) := ⟨Nat.le_of_lt hfr, by show p / 31 % 3 ≤ 2; omega, by show p % 31 ≤ 30; omega, hk⟩
  intro d
  induction d with
  | zero =>
    intro a m K g f W H ha hm' hI hg2 hcf
    obtain ⟨m, rfl⟩ : ∃ q, m = q + 1 := ⟨m - 1, by omega⟩
    obtain rfl : a = 7 := by omega
    refine ⟨K, g, f, W, H, ?_, hg2, hcf, hI, fun y q h => h, fun b h1 h2 => by omega, fun j _ => rfl⟩
    rw [f_X1_spread_L11, if_pos (by decide)]
  | succ d ih =>
    intro a m K g f W H ha hm' hI hg2 hcf
    obtain ⟨m, rfl⟩ : ∃ q, m = q + 1 := ⟨m - 1, by omega⟩
    obtain ⟨f2, hcf2, hcase⟩ := rk_spS (ra_nf S) hok (hb := hb) (P := P) (m := m) (ra_nf W) (ra_nf H) hcf hg2 hp hk hfr (show a < 7 by omega)
    rcases hcase with ⟨z1, z2, z3, z4⟩ | ⟨z1, z2⟩
    · have hc1 := rd_c_pos (h := hb) (a := a) (by omega)
      have hc8 := rd_c_le hb a
      have hr2 := rd_rc_s hr (show (rd_xp p k).1 < γ 0 from hfr) z1
      have hbd2 := rd_st_bd (κ := κ) (τ := τ) hbd (show (rd_xp p k).1 < γ 0 from hfr) z1
      rw [← z3] at hr2 hbd2
      obtain ⟨b1, b2, b3, b4⟩ := hbd2
      obtain ⟨g', W', H', e1, e2, e3, e4, e5⟩ := rk_arrive hok hI hm hcf2 (price := P + rd_c hb a) (used := if a = 5 then p / 31 % 3 + 1 else p / 31 % 3) (by omega) (by omega) hP b2 b1 b3 b4 hr2
      rw [z4, e1, Option.bind_some]
      obtain ⟨K', g2, f3, W2, H2, y1, y2, y3, y4, y5, y6, y7⟩ := ih (a + 1) m _ g' f2 W' H' (by omega) (by omega) e3 (by rw [e2]; exact hg2) hcf2
      refine ⟨K', g2, f3, W2, H2, y1, y2, y3, y4, fun y q h => y5 y q (Or.inl h), fun b c1 c2 c3 c4 => ?_, fun j hj => ?_⟩
      · by_cases e : b = a
        · subst e
          exact y5 _ _ (Or.inr ⟨z3.symm, rfl⟩)
        · exact y6 b (by omega) c2 c3 c4
      · rw [y7 j hj]
        by_cases cf : γ 0 ≤ f2 3
        · rw [e5 (Or.inr cf)]
        · refine e4 _ ?_
          have hpl : rd_pl (f2 3, (if a = 5 then p / 31 % 3 + 1 else p / 31 % 3), f2 4, f2 5) < 558 := rd_pl_lt (by have := hok.1; show f2 3 < 6; omega) b2 b3
          omega
    · rw [z2]
      obtain ⟨K', g2, f3, W2, H2, y1, y2, y3, y4, y5, y6, y7⟩ := ih (a + 1) m K g f2 W H (by omega) (by omega) hI hg2 hcf2
      refine ⟨K', g2, f3, W2, H2, y1, y2, y3, y4, y5, fun b c1 c2 c3 c4 => ?_, y7⟩
      by_cases e : b = a
      · subst e
        exact absurd ⟨c3, c4⟩ z1
      · exact y6 b (by omega) c2 c3 c4
theorem rk_spread (hok : ra_ok γ κ τ) {hb : Bool} {x0 : rd_X} {mst P : Nat} {E K : rd_X → Nat → Prop} {g f W H S : Nat → Nat} (hm : mst ≤ 200) (hP : P ≤ 300) {p k : Nat} (hp : p < 558) (hk : k ≤ 20) (hfr : p / 31 / 3 < γ 0) (hr : rd_rc γ κ τ hb x0 (rd_xp p k) P)
    (hI : rk_I γ κ τ hb x0 mst P E K g W H S) (hg2 : g 2 = if hb then 1 else 0) (hcf : rk_cf γ f) (hS : k < S p) :
    ∃ K' g' f' W' H', f_X1_spread (ra_nf g) (ra_nf f) (ra_nf κ) (ra_nf τ) (ra_nf W) (ra_nf H) (ra_nf S) (nI P) (nI p) (nI k) = some (ra_nf g', ra_nf f', ra_nf W', ra_nf H') ∧ (g' 2 = if hb then 1 else 0) ∧ rk_cf γ f' ∧ rk_I γ κ τ hb x0 mst P E K' g' W' H' S ∧ (∀ y q, K y q → K' y q) ∧
      (∀ b, rd_al b (rd_xp p k) → rd_kp γ κ τ b (rd_xp p k) → K' (rd_st γ κ τ b (rd_xp p k)) (P + rd_c hb b)) ∧ (∀ j, p ≤ j → j < 558 → W' (P % 9 * 558 + j) = W (P % 9 * 558 + j)) := by
  have hbd : rd_bd (γ 0) (rd_xp p k) := ⟨Nat.le_of_lt hfr, by show p / 31 % 3 ≤ 2; omega, by show p % 31 ≤ 30; omega, hk⟩
  have hrem : rf_rem (nI p / 31) 3 = nI (p / 31 % 3) := by
    rw [show (nI p / 31 : Int32) = nI (p / 31) from pk_div (d := 31) (by omega) (by decide) (by decide)]
    exact pk_rem (d := 3) (by omega) (by decide) (by decide)
  obtain ⟨K1, g1, f1, W1, H1, y1, y2, y3, y4, y5, y6, y7⟩ := rk_spL hok hm hP hp hk hfr hr 7 0 rf_fu K g f W H rfl (by unfold rf_fu; omega) hI hg2 hcf
  have y1 : f_X1_spread_L11 (ra_nf κ) (ra_nf τ) (ra_nf S) (nI P) (nI p) (nI k) (nI (p / 31 % 3)) rf_fu 0 (ra_nf g) (ra_nf f) (ra_nf W) (ra_nf H) = _ := y1
  have hst := rc_stand g1 f1 (k := k) hp
  have hbase : rk_cf γ (ra_un (ra_un (ra_un f1 3 (p / 31 / 3)) 4 (p % 31)) 5 k) := y3
  have e3 : (ra_un (ra_un (ra_un f1 3 (p / 31 / 3)) 4 (p % 31)) 5 k) 3 = p / 31 / 3 := rfl
  have e4 : (ra_un (ra_un (ra_un f1 3 (p / 31 / 3)) 4 (p % 31)) 5 k) 4 = p % 31 := rfl
  have e5 : (ra_un (ra_un (ra_un f1 3 (p / 31 / 3)) 4 (p % 31)) 5 k) 5 = k := rfl
  generalize ra_un (ra_un (ra_un f1 3 (p / 31 / 3)) 4 (p % 31)) 5 k = s at hst hbase e3 e4 e5
  have hrest := rc_rest (γ := s) (m := 5) (by decide) (by omega) (by omega) hbase.2.2.2.2
  have hrest : f_X0_rest (ra_nf s) 5 = _ := hrest
  have hcf2 : rk_cf γ (ra_wt s 5) := ⟨hbase.1, hbase.2.1, hbase.2.2.1, hbase.2.2.2.1, by show s 6 - 5 ≤ 99; have := hbase.2.2.2.2; omega⟩
  have w3 : (ra_wt s 5) 3 = p / 31 / 3 := e3
  have w4 : (ra_wt s 5) 4 = p % 31 - 2 := by show s 4 - 5 / 2 = _; rw [e4]
  have w5 : (ra_wt s 5) 5 = k - 1 := by show s 5 - 5 / 3 = _; rw [e5]
  generalize ra_wt s 5 = f2 at hrest hcf2 w3 w4 w5
  have hal7 : rd_al 7 (rd_xp p k) := ⟨Nat.le_refl _, fun z => by have := z.1; omega⟩
  have hst7 : rd_st γ κ τ 7 (rd_xp p k) = (f2 3, p / 31 % 3, f2 4, f2 5) := by
    unfold rd_st
    rw [if_pos rfl, w3, w4, w5]
    rfl
  have hr2 := rd_rc_s hr (show (rd_xp p k).1 < γ 0 from hfr) hal7
  rw [hst7] at hr2
  have hc8 := rd_c_le hb 7
  have hmv : f_X2_movePrice 7 (ra_nf g1 2) = some (nI (rd_c hb 7)) := by
    rw [ra_nf_ap, y2]
    exact rc_movePrice (a := 7) (by decide)
  have hth : p / 31 % 3 < 3 := Nat.mod_lt _ (by decide)
  obtain ⟨g', W', H', b1, b2, b3, b4, b5⟩ := rk_arrive hok y4 hm hcf2 (price := P + rd_c hb 7) (used := p / 31 % 3) (by omega) (by omega) hP (by omega) (by omega) (by omega) (by omega) hr2
  refine ⟨_, g', f2, W', H', ?_, by rw [b2]; exact y2, hcf2, b3, fun y q h => Or.inl (y5 y q h), fun b c1 c2 => ?_, fun j hj hj2 => ?_⟩
  · unfold f_X1_spread
    rw [hrem, Option.bind_some, y1, Option.bind_some]
    show (f_X1_stand (ra_nf g1) (ra_nf f1) (nI p) (nI k)).bind _ = _
    rw [hst, Option.bind_some, hrest, Option.bind_some]
    show (f_X2_movePrice 7 (ra_nf g1 2)).bind _ = _
    rw [hmv, Option.bind_some]
    show (f_X1_arrive (ra_nf g1) (ra_nf f2) (ra_nf W1) (ra_nf H1) (ra_nf S) (nI P + nI (rd_c hb 7)) (nI (p / 31 % 3))).bind _ = _
    rw [nI_add, b1]
    rfl
  · by_cases e : b = 7
    · subst e
      exact Or.inr ⟨hst7, rfl⟩
    · exact Or.inl (y6 b (Nat.zero_le _) (by have := c1.1; omega) c1 c2)
  · rw [← y7 j hj2]
    have hpl : rd_pl (f2 3, p / 31 % 3, f2 4, f2 5) < 558 := rd_pl_lt (by have := hok.1; show f2 3 < 6; omega) (by show p / 31 % 3 ≤ 2; omega) (by show f2 4 ≤ 30; omega)
    by_cases hz : p % 31 = 0
    · have epl : rd_pl (f2 3, p / 31 % 3, f2 4, f2 5) = p := by
        show (f2 3 * 3 + p / 31 % 3) * 31 + f2 4 = p
        rw [w3, w4]
        omega
      rw [b5 (Or.inl (by rw [epl, w5]; omega))]
    · refine b4 _ ?_
      have epl : rd_pl (f2 3, p / 31 % 3, f2 4, f2 5) < p := by
        show (f2 3 * 3 + p / 31 % 3) * 31 + f2 4 < p
        rw [w3, w4]
        omega
      have hmm : (P + rd_c hb 7) % 9 < 9 := Nat.mod_lt _ (by decide)
      omega
theorem rk_seeL (g : Nat → Nat) {p k : Nat} (hp : p < 558) (hk : k ≤ 20) : ∀ (d i m : Nat) (S : Nat → Nat), p % 31 + i + d = 31 → d < m → (∀ j, j < 558 → S j ≤ 21) →
    ∃ y S', f_X1_see_L8 (ra_nf g) (nI p) (nI k) (nI (p % 31)) m (nI i) (ra_nf S) = some (y, ra_nf S') ∧ (∀ j, S' j = S j ∨ (S' j = k + 1 ∧ ∃ i', i ≤ i' ∧ j = p + i' ∧ p % 31 + i' < 31)) := by
  intro d
  induction d with
  | zero =>
    intro i m S hi hm hS
    obtain ⟨m, rfl⟩ : ∃ q, m = q + 1 := ⟨m - 1, by omega⟩
    refine ⟨nI i, S, ?_, fun j => Or.inl rfl⟩
    rw [f_X1_see_L8, nI_add, if_pos (show (31 : Int32) ≤ nI (p % 31 + i) from nI_le (a := 31) (b := p % 31 + i) (by omega) (by omega))]
  | succ d ih =>
    intro i m S hi hm hS
    obtain ⟨m, rfl⟩ : ∃ q, m = q + 1 := ⟨m - 1, by omega⟩
    have hpi : p + i < 558 := by omega
    have hSi := hS (p + i) hpi
    rw [f_X1_see_L8, nI_add, if_neg (show ¬ (31 : Int32) ≤ nI (p % 31 + i) from nI_ge (b := 31) (a := p % 31 + i) (by omega) (by decide)), nI_add, ra_at _ hpi (by decide), Option.bind_some, ra_nf_ap]
    by_cases c : k < S (p + i)
    · rw [if_pos (nI_lt c (by omega))]
      exact ⟨_, S, rfl, fun j => Or.inl rfl⟩
    · rw [if_neg (nI_nlt (by omega) (by omega)), nI_1, ra_put _ _ hpi (by decide), Option.bind_some, ra_upd, nI_1, Option.bind_some]
      obtain ⟨y, S', e1, e2⟩ := ih (i + 1) m (ra_un S (p + i) (k + 1)) (by omega) (by omega) (fun j hj => by
        unfold ra_un
        split
        · omega
        · exact hS j hj)
      refine ⟨y, S', e1, fun j => ?_⟩
      rcases e2 j with z | ⟨z, i', z1, z2, z3⟩
      · by_cases e : j = p + i
        · right
          rw [e, ra_us] at z
          rw [e]
          exact ⟨z, i, Nat.le_refl _, rfl, by omega⟩
        · rw [ra_ud _ _ e] at z
          exact Or.inl z
      · exact Or.inr ⟨z, i', by omega, z2, z3⟩
theorem rk_see (g : Nat → Nat) {p k : Nat} (hp : p < 558) (hk : k ≤ 20) (S : Nat → Nat) (hS : ∀ j, j < 558 → S j ≤ 21) (hn : S p ≤ k) :
    ∃ S', f_X1_see (ra_nf g) (ra_nf S) (nI p) (nI k) = some (ra_nf S') ∧ (∀ j, S' j = S j ∨ (S' j = k + 1 ∧ ∃ i', j = p + i' ∧ p % 31 + i' < 31)) ∧ S' p = k + 1 := by
  have hrem : rf_rem (nI p) 31 = nI (p % 31) := pk_rem (d := 31) (by omega) (by decide) (by decide)
  have h31 : p % 31 < 31 := Nat.mod_lt _ (by decide)
  obtain ⟨y, S', e1, e2⟩ := rk_seeL g hp hk (30 - p % 31) 1 19999 (ra_un S p (k + 1)) (by omega) (by omega) (fun j hj => by
    unfold ra_un
    split
    · omega
    · exact hS j hj)
  have hfu : rf_fu = 19999 + 1 := rfl
  refine ⟨S', ?_, fun j => ?_, ?_⟩
  · unfold f_X1_see
    rw [hrem, Option.bind_some, hfu, f_X1_see_L8]
    have i0 : nI (p % 31) + 0 = nI (p % 31) := nI_add (p % 31) 0
    have i1 : nI p + 0 = nI p := nI_add p 0
    rw [i0, i1, if_neg (show ¬ (31 : Int32) ≤ nI (p % 31) from nI_ge (b := 31) (a := p % 31) h31 (by decide)), ra_at _ hp (by decide), Option.bind_some, ra_nf_ap, if_neg (nI_nlt hn (by omega)), nI_1, ra_put _ _ hp (by decide), Option.bind_some, ra_upd, Option.bind_some]
    have e1 : f_X1_see_L8 (ra_nf g) (nI p) (nI k) (nI (p % 31)) 19999 (0 + 1) (ra_nf (ra_un S p (k + 1))) = _ := e1
    rw [e1]
    rfl
  · rcases e2 j with z | ⟨z, i', z1, z2, z3⟩
    · by_cases e : j = p
      · right
        rw [e, ra_us] at z
        rw [e]
        exact ⟨z, 0, rfl, h31⟩
      · rw [ra_ud _ _ e] at z
        exact Or.inl z
    · exact Or.inr ⟨z, i', z2, z3⟩
  · rcases e2 p with z | ⟨z, i', z1, z2, z3⟩
    · rw [ra_us] at z
      exact z
    · exact z
end RSpread
