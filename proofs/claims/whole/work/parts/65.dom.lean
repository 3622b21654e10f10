/-! of two places the one that is nowhere worse; the class's way to the least: its words -/
section RDom
theorem ra_tk_sc {k th sw sw' co co' he : Nat} (h1 : sw ≤ sw') (h2 : co' ≤ co) : ra_tk k th sw co he ≤ ra_tk k th sw' co' he := by
  unfold ra_tk
  repeat' split
  all_goals omega
theorem ra_cd_mono {k a b : Nat} (h : a ≤ b) : ra_cd k a ≤ ra_cd k b := by
  unfold ra_cd
  split <;> omega
def rd_dom (x' x : rd_X) : Prop := x.1 ≤ x'.1 ∧ x'.2.1 ≤ x.2.1 ∧ x'.2.2.1 ≤ x.2.2.1 ∧ x.2.2.2 ≤ x'.2.2.2
theorem rd_dom_r (x : rd_X) : rd_dom x x := ⟨Nat.le_refl _, Nat.le_refl _, Nat.le_refl _, Nat.le_refl _⟩
theorem rd_dom_t {x y z : rd_X} (h1 : rd_dom x y) (h2 : rd_dom y z) : rd_dom x z := ⟨Nat.le_trans h2.1 h1.1, Nat.le_trans h1.2.1 h2.2.1, Nat.le_trans h1.2.2.1 h2.2.2.1, Nat.le_trans h2.2.2.2 h1.2.2.2⟩
def rd_kp (γ κ τ : Nat → Nat) (a : Nat) (x : rd_X) : Prop := a = 7 ∨ a = 6 ∨ rd_b γ κ τ a x
variable {γ κ τ : Nat → Nat}
theorem rd_b_mono {a : Nat} {x' x : rd_X} (h : rd_dom x' x) (e : x'.1 = x.1) (hb : rd_b γ κ τ a x) : rd_b γ κ τ a x' := by
  unfold rd_b at hb ⊢
  rw [e]
  exact Nat.le_trans (ra_tk_sc h.2.2.1 (ra_cd_mono h.2.2.2)) hb
theorem rd_dstep {a : Nat} {x' x : rd_X} (h : rd_dom x' x) (ha : rd_al a x) (hx : rd_bd (γ 0) x) (hx' : rd_bd (γ 0) x') :
    rd_dom x' (rd_st γ κ τ a x) ∨ (rd_al a x' ∧ rd_kp γ κ τ a x' ∧ rd_dom (rd_st γ κ τ a x') (rd_st γ κ τ a x)) := by
  obtain ⟨d1, d2, d3, d4⟩ := id h
  have hb3 := hx'.2.2.1
  have hal : rd_al a x' := ⟨ha.1, fun z => ha.2 ⟨z.1, by have := hx.2.1; omega⟩⟩
  by_cases c7 : a = 7
  · right
    refine ⟨hal, Or.inl c7, ?_⟩
    unfold rd_st
    rw [if_pos c7, if_pos c7]
    exact ⟨d1, d2, by show x'.2.2.1 - 2 ≤ x.2.2.1 - 2; omega, by show x.2.2.2 - 1 ≤ x'.2.2.2 - 1; omega⟩
  · have hst : ∀ y : rd_X, rd_st γ κ τ a y = (y.1 + (if rd_b γ κ τ a y then 1 else 0), (if a = 5 then y.2.1 + 1 else y.2.1), min 30 (y.2.2.1 + ra_sw a), ra_cd a y.2.2.2) := by
      intro y
      unfold rd_st
      rw [if_neg c7]
    have hfr : x.1 + (if rd_b γ κ τ a x then 1 else 0) ≤ x'.1 + (if rd_b γ κ τ a x' then 1 else 0) := by
      by_cases e : x'.1 = x.1
      · by_cases hb : rd_b γ κ τ a x
        · rw [if_pos hb, if_pos (rd_b_mono h e hb)]
          omega
        · rw [if_neg hb]
          omega
      · split <;> omega
    have hth : (if a = 5 then x'.2.1 + 1 else x'.2.1) ≤ (if a = 5 then x.2.1 + 1 else x.2.1) := by
      split <;> omega
    by_cases c6 : a = 6
    · right
      refine ⟨hal, Or.inr (Or.inl c6), ?_⟩
      rw [hst, hst]
      exact ⟨hfr, hth, by show min 30 (x'.2.2.1 + ra_sw a) ≤ min 30 (x.2.2.1 + ra_sw a); omega, ra_cd_mono d4⟩
    · by_cases hb : rd_b γ κ τ a x'
      · right
        refine ⟨hal, Or.inr (Or.inr hb), ?_⟩
        rw [hst, hst]
        exact ⟨hfr, hth, by show min 30 (x'.2.2.1 + ra_sw a) ≤ min 30 (x.2.2.1 + ra_sw a); omega, ra_cd_mono d4⟩
      · left
        rw [hst]
        rw [if_neg hb] at hfr
        refine ⟨hfr, ?_, ?_, ?_⟩
        · show x'.2.1 ≤ (if a = 5 then x.2.1 + 1 else x.2.1)
          split <;> omega
        · show x'.2.2.1 ≤ min 30 (x.2.2.1 + ra_sw a)
          omega
        · show ra_cd a x.2.2.2 ≤ x'.2.2.2
          unfold ra_cd
          rw [if_neg c6]
          exact d4
/-- with all gone on from, no way off is cheaper than the best -/
theorem rd_fin {h : Bool} {best : Nat} {E : rd_X → Nat → Prop} (hE : ∀ x p, E x p → x.1 < γ 0 ∧ rd_bd (γ 0) x ∧ ∀ a, rd_al a x → rd_kp γ κ τ a x → best ≤ p + rd_c h a ∨ ∃ y p', rd_dom y (rd_st γ κ τ a x) ∧ E y p' ∧ p' ≤ p + rd_c h a) :
    ∀ (l : List Nat) (x y x' : rd_X) (p : Nat), E x' p → rd_dom x' x → rd_bd (γ 0) x → rd_go γ κ τ l x y → γ 0 ≤ y.1 → best ≤ p + rd_cs h l := by
  intro l
  induction l with
  | nil =>
    intro x y x' p h1 h2 h3 h4 h5
    have h4 : x = y := h4
    subst h4
    have := (hE x' p h1).1
    have := h2.1
    omega
  | cons a l ih =>
    intro x y x' p h1 h2 h3 h4 h5
    obtain ⟨g1, g2, g3⟩ := h4
    have hbd := rd_st_bd (κ := κ) (τ := τ) h3 g1 g2
    show best ≤ p + (rd_c h a + rd_cs h l)
    obtain ⟨e1, e2, e3⟩ := hE x' p h1
    rcases rd_dstep (κ := κ) (τ := τ) h2 g2 h3 e2 with z | ⟨z1, z2, z3⟩
    · have := ih _ y x' p h1 z hbd g3 h5
      omega
    · rcases e3 a z1 z2 with w | ⟨y', p', w1, w2, w3⟩
      · omega
      · have := ih _ y y' p' w2 (rd_dom_t w1 z3) hbd g3 h5
        omega
def rd_pl (x : rd_X) : Nat := (x.1 * 3 + x.2.1) * 31 + x.2.2.1
def rd_xp (p k : Nat) : rd_X := (p / 31 / 3, p / 31 % 3, p % 31, k)
theorem rd_pl_xp {x : rd_X} (h2 : x.2.1 ≤ 2) (h3 : x.2.2.1 ≤ 30) : rd_xp (rd_pl x) x.2.2.2 = x := by
  obtain ⟨fr, th, sw, co⟩ := x
  simp only at h2 h3
  have e : rd_pl (fr, th, sw, co) = (fr * 3 + th) * 31 + sw := rfl
  unfold rd_xp
  rw [e]
  have a1 : ((fr * 3 + th) * 31 + sw) / 31 / 3 = fr := by omega
  have a2 : ((fr * 3 + th) * 31 + sw) / 31 % 3 = th := by omega
  have a3 : ((fr * 3 + th) * 31 + sw) % 31 = sw := by omega
  rw [a1, a2, a3]
theorem rd_xp_pl (p k : Nat) : rd_pl (rd_xp p k) = p := by
  show (p / 31 / 3 * 3 + p / 31 % 3) * 31 + p % 31 = p
  omega
theorem rd_pl_lt {x : rd_X} (h1 : x.1 < 6) (h2 : x.2.1 ≤ 2) (h3 : x.2.2.1 ≤ 30) : rd_pl x < 558 := by
  show (x.1 * 3 + x.2.1) * 31 + x.2.2.1 < 558
  omega
theorem rc_movePrice {h : Bool} {a : Nat} (ha : a < 8) : f_X2_movePrice (nI a) (nI (if h then 1 else 0)) = some (nI (rd_c h a)) := by
  have h2 : ∀ k, k < 8 → rf_a2 k = nI (if k = 7 then 5 else ra_mi k) := by decide
  have h4 : ∀ k, k < 8 → rf_a4 k = nI (if k = 7 then 0 else ra_hm k) := by decide
  unfold f_X2_movePrice rd_c
  cases h with
  | false =>
    have e0 : (if (false = true) then 1 else 0 : Nat) = 0 := rfl
    rw [e0, if_pos (show nI 0 = 0 from rfl), ra_at _ ha (by decide), Option.bind_some, h2 a ha]
    rfl
  | true =>
    have e0 : (if (true = true) then 1 else 0 : Nat) = 1 := rfl
    rw [e0, if_neg (show ¬ nI 1 = 0 by decide), ra_at _ ha (by decide), Option.bind_some, h4 a ha]
    rfl
/-- arrive: what it does to the rows -/
theorem rc_arrive (g f W H S : Nat → Nat) {price used : Nat} (hp : price < 1000) (hb : g 1 < 1000) (hg0 : g 0 < 100000) (h0 : f 0 ≤ 6) (h3 : f 3 ≤ f 0) (hu : used ≤ 2) (h4 : f 4 ≤ 30) (h5 : f 5 ≤ 20) (hW : ∀ i, i < 5022 → W i ≤ 21) (hS : ∀ i, i < 558 → S i ≤ 21) (hH : ∀ i, i < 9 → H i < 10000) :
    f_X1_arrive (ra_nf g) (ra_nf f) (ra_nf W) (ra_nf H) (ra_nf S) (nI price) (nI used) = some (
      if g 1 ≤ price then (ra_nf g, ra_nf W, ra_nf H)
      else if f 0 ≤ f 3 then (ra_nf (ra_un g 1 price), ra_nf W, ra_nf H)
      else if f 5 < S (rd_pl (f 3, used, f 4, f 5)) ∨ f 5 < W (price % 9 * 558 + rd_pl (f 3, used, f 4, f 5)) then (ra_nf g, ra_nf W, ra_nf H)
      else if W (price % 9 * 558 + rd_pl (f 3, used, f 4, f 5)) = 0 then (ra_nf (ra_un g 0 (g 0 + 1)), ra_nf (ra_un W (price % 9 * 558 + rd_pl (f 3, used, f 4, f 5)) (f 5 + 1)), ra_nf (ra_un H (price % 9) (H (price % 9) + 1)))
      else (ra_nf g, ra_nf (ra_un W (price % 9 * 558 + rd_pl (f 3, used, f 4, f 5)) (f 5 + 1)), ra_nf H)) := by
  unfold f_X1_arrive
  rw [rc_isOff f (by omega) (by omega)]
  by_cases c1 : g 1 ≤ price
  · rw [if_pos c1]
    simp (disch := omega) only [↓reduceIte, ra_lit, ra_nf_ap, ra_st_lo, nI_add, nI_clamp, nI_ltI, nI_leI, nI_eq, Option.bind_some, if_true, if_false, not_false_eq_true, not_true_eq_false, ra_ltT, ra_ltF, ra_leT, ra_leF, ra_eqT, ra_eqF, or_false, false_or, or_true, true_or, and_true, true_and, and_false, false_and]
  · rw [if_neg c1]
    by_cases c2 : f 0 ≤ f 3
    · rw [if_pos c2]
      simp (disch := omega) only [↓reduceIte, ra_lit, ra_nf_ap, ra_st_lo, nI_add, nI_clamp, nI_ltI, nI_leI, nI_eq, Option.bind_some, if_true, if_false, not_false_eq_true, not_true_eq_false, ra_ltT, ra_ltF, ra_leT, ra_leF, ra_eqT, ra_eqF, or_false, false_or, or_true, true_or, and_true, true_and, and_false, false_and, if_neg (show ¬ f 3 < f 0 by omega), ra_upd]
    · rw [if_neg c2]
      have hpl : rd_pl (f 3, used, f 4, f 5) < 558 := rd_pl_lt (by show f 3 < 6; omega) hu h4
      have hple : rd_pl (f 3, used, f 4, f 5) = (f 3 * 3 + used) * 31 + f 4 := rfl
      have hm9 : price % 9 < 9 := Nat.mod_lt _ (by decide)
      have hrem : rf_rem (nI price) (nI 9) = nI (price % 9) := pk_rem (by omega) (by decide) (by decide)
      rw [hple] at hpl
      rw [hple]
      have hWi := hW (price % 9 * 558 + ((f 3 * 3 + used) * 31 + f 4)) (by omega)
      have hSi := hS ((f 3 * 3 + used) * 31 + f 4) hpl
      have hHi := hH (price % 9) hm9
      simp (disch := omega) only [↓reduceIte, ra_lit, ra_nf_ap, ra_st_lo, nI_add, nI_clamp, nI_ltI, nI_leI, nI_eq, Option.bind_some, if_true, if_false, not_false_eq_true, not_true_eq_false, ra_ltT, ra_ltF, ra_leT, ra_leF, ra_eqT, ra_eqF, or_false, false_or, or_true, true_or, and_true, true_and, and_false, false_and, if_pos (show f 3 < f 0 by omega), pk_mul, hrem, ra_at]
      have hi : price % 9 * 558 + ((f 3 * 3 + used) * 31 + f 4) < 5022 := by omega
      generalize price % 9 * 558 + ((f 3 * 3 + used) * 31 + f 4) = i at hWi hi
      generalize (f 3 * 3 + used) * 31 + f 4 = p at hpl hSi
      by_cases c3 : f 5 < S p
      · simp only [c3, true_or, if_true]
      · by_cases c4 : f 5 < W i
        · simp only [c3, c4, or_true, if_true, if_false]
          rw [if_neg (by omega)]
        · simp only [c3, c4, or_false, if_false]
          rw [if_pos (by omega)]
          rw [ra_put _ _ hi (by decide), ra_upd]
          by_cases c5 : W i = 0
          · simp (disch := omega) only [↓reduceIte, ra_lit, ra_nf_ap, ra_st_lo, nI_add, nI_clamp, nI_ltI, nI_leI, nI_eq, Option.bind_some, if_true, if_false, not_false_eq_true, not_true_eq_false, ra_ltT, ra_ltF, ra_leT, ra_leF, ra_eqT, ra_eqF, or_false, false_or, or_true, true_or, and_true, true_and, and_false, false_and, c5, ra_put, ra_upd]
          · simp (disch := omega) only [↓reduceIte, ra_lit, ra_nf_ap, ra_st_lo, nI_add, nI_clamp, nI_ltI, nI_leI, nI_eq, Option.bind_some, if_true, if_false, not_false_eq_true, not_true_eq_false, ra_ltT, ra_ltF, ra_leT, ra_leF, ra_eqT, ra_eqF, or_false, false_or, or_true, true_or, and_true, true_and, and_false, false_and, if_neg c5]
end RDom
