/-! soonest, gentlest -/
section RSoon
variable {γ κ τ : Nat → Nat}
theorem ra_room0 (γ κ τ : Nat → Nat) : f_X3_roomOf (ra_st γ κ τ 4) (ra_st γ κ τ 5) (ra_st γ κ τ 3) 0 = some (nI (rd_e (γ 3, 0, γ 4, γ 5))) := by
  rw [ra_st_lo _ _ _ (by decide), ra_st_lo _ _ _ (by decide), ra_st_lo _ _ _ (by decide)]
  exact rr_roomOf (γ 4) (γ 5) (γ 3) 0
/-- the least, both sides -/
theorem ra_sn0 (M : Nat → Nat) (h : ra_ok γ κ τ) {hb : Bool} {mst : Nat} (hm : mst ≤ 150) (s1 s2 s3 s4 s5 s6 s7 C : Nat → Int32) :
    ∃ r b1 b2 b3 b4 b5 b6 b7 C', f_X1_least s1 s2 s3 s4 s5 s6 s7 (ra_nf γ) (ra_nf κ) (ra_nf τ) 0 (nI (if hb then 1 else 0)) (nI mst) = some (r, b1, b2, b3, b4, b5, b6, b7) ∧
      f_X3_off (ra_nf M) (ra_st γ κ τ) C 0 (nI mst) (nI (if hb then 1 else 0)) = some (r, C') := by
  obtain ⟨h0, h1, h2, h3, h4, h5, h6, h7, h8, h9, h10, h11⟩ := id h
  obtain ⟨r, b1, b2, b3, b4, b5, b6, b7, e1, e2⟩ := rc_least h s1 s2 s3 s4 s5 s6 s7 (hb := hb) (mst := mst) (used := 0) (by omega) (by omega)
  have e1 : f_X1_least s1 s2 s3 s4 s5 s6 s7 (ra_nf γ) (ra_nf κ) (ra_nf τ) 0 (nI (if hb then 1 else 0)) (nI mst) = _ := e1
  unfold f_X3_off
  rw [rr_isOff M γ κ τ (by omega) (by omega), ra_room0]
  by_cases ho : γ 3 < γ 0
  · have hx0 : rd_bd (γ 0) (γ 3, 0, γ 4, γ 5) := ⟨h1, Nat.zero_le _, h6, h7⟩
    obtain ⟨r', C', e3, e4⟩ := rr_least M h C (hb := hb) hx0 (lim := mst) (by omega)
    have := rd_best_eq e2 e4
    subst this
    refine ⟨r, b1, b2, b3, b4, b5, b6, b7, C', e1, ?_⟩
    rw [if_pos ho, Option.bind_some, if_pos (show nI 0 = 0 from rfl), Option.bind_some, e3]
    rfl
  · refine ⟨r, b1, b2, b3, b4, b5, b6, b7, C, e1, ?_⟩
    have er : r = 0 := by
      have hoff : rd_off γ κ τ hb (γ 3, 0, γ 4, γ 5) 0 := ⟨[], (γ 3, 0, γ 4, γ 5), rfl, by show γ 0 ≤ γ 3; omega, rfl⟩
      rcases e2 with ⟨t, a1, a2, a3, a4⟩ | ⟨a1, a2⟩
      · have : t = 0 := by
          by_cases e : t = 0
          · exact e
          · exact absurd hoff (a4 0 (by omega))
        rw [a2, this]
        rfl
      · exact absurd hoff (a2 0 (Nat.zero_le _))
    rw [er, if_neg ho, Option.bind_some, if_neg (show ¬ nI 1 = 0 by decide)]
    rfl
theorem ra_sn1 (G M : Nat → Nat) (h : ra_ok γ κ τ) {hb : Bool} {mst : Nat} (hm : mst ≤ 150) (ta tb tc s1 s2 s3 s4 s5 s6 s7 C : Nat → Int32) :
    ∃ r b1 b2 b3 b4 b5 b6 b7 b8 b9 b10 C', f_X2_firstMove (ra_nf G) (ra_nf γ) (ra_nf κ) (ra_nf τ) ta tb tc s1 s2 s3 s4 s5 s6 s7 (nI (if hb then 1 else 0)) (nI mst) = some (r, b1, b2, b3, b4, b5, b6, b7, b8, b9, b10) ∧
      f_X3_off (ra_nf M) (ra_st γ κ τ) C (nI 1) (nI mst) (nI (if hb then 1 else 0)) = some (r, C') := by
  obtain ⟨h0, h1, h2, h3, h4, h5, h6, h7, h8, h9, h10, h11⟩ := id h
  obtain ⟨r, b1, b2, b3, b4, b5, b6, b7, e1, e2⟩ := rc_least h s1 s2 s3 s4 s5 s6 s7 (hb := hb) (mst := mst) (used := 0) (by omega) (by omega)
  have e1 : f_X1_least s1 s2 s3 s4 s5 s6 s7 (ra_nf γ) (ra_nf κ) (ra_nf τ) 0 (nI (if hb then 1 else 0)) (nI mst) = _ := e1
  unfold f_X3_off f_X2_firstMove
  rw [rr_isOff M γ κ τ (by omega) (by omega), ra_room0, e1, Option.bind_some]
  by_cases ho : γ 3 < γ 0
  · have hx0 : rd_bd (γ 0) (γ 3, 0, γ 4, γ 5) := ⟨h1, Nat.zero_le _, h6, h7⟩
    obtain ⟨r', C', e3, e4⟩ := rr_least M h C (hb := hb) hx0 (lim := mst) (by omega)
    have := rd_best_eq e2 e4
    subst this
    rw [if_pos ho, Option.bind_some, if_pos (show nI 0 = 0 from rfl), Option.bind_some, e3, Option.bind_some, if_neg (show ¬ nI 1 = 0 by decide)]
    rcases e2 with ⟨t, a1, a2, a3, a4⟩ | ⟨a1, a2⟩
    · subst a2
      obtain ⟨l, y, g1, g2, g3⟩ := a3
      have hpos := rd_off_pos (h := hb) l _ y g1 ho g2
      obtain ⟨b, hb7, hgd⟩ := rd_gd_ex (h := hb) ho a4 l y g1 g2 g3
      obtain ⟨r, c1, c2, c3, c4, c5, c6, c7, c8, c9, c10, C2, f1, f2⟩ := ra_fmL G M h ho (hb := hb) (nI mst) (nI 1) (nI mst) (tot := t) (by omega) a4 8 0 rf_fu rf_fu ta tb tc b1 b2 b3 b4 b5 b6 b7 C' rfl (by unfold rf_fu; omega) (by unfold rf_fu; omega) ⟨b, Nat.zero_le _, hb7, hgd⟩
      have f1 : f_X2_firstMove_L25 (ra_nf G) (ra_nf γ) (ra_nf κ) (ra_nf τ) (nI (if hb then 1 else 0)) (nI mst) (nI t) rf_fu 0 ta tb tc b1 b2 b3 b4 b5 b6 b7 = _ := f1
      have f2 : f_X3_off_L67 (ra_nf M) (ra_st γ κ τ) (nI 1) (nI mst) (nI (if hb then 1 else 0)) (nI (rd_e (γ 3, 0, γ 4, γ 5))) (nI t) rf_fu 0 C' = _ := f2
      refine ⟨r, c1, c2, c3, c4, c5, c6, c7, c8, c9, c10, C2, ?_, ?_⟩
      · rw [if_pos (show (0 : Int32) < nI t from nI_lt (a := 0) (b := t) (by omega) (by omega)), f1]
        rfl
      · rw [if_pos (show (0 : Int32) ≤ nI t from nI_pos' (by omega)), f2]
        rfl
    · subst a1
      rw [if_neg (show ¬ (0 : Int32) < -9 by decide), if_neg (show ¬ (0 : Int32) ≤ -9 by decide)]
      exact ⟨_, _, _, _, _, _, _, _, _, _, _, _, rfl, rfl⟩
  · have er : r = 0 := by
      have hoff : rd_off γ κ τ hb (γ 3, 0, γ 4, γ 5) 0 := ⟨[], (γ 3, 0, γ 4, γ 5), rfl, by show γ 0 ≤ γ 3; omega, rfl⟩
      rcases e2 with ⟨t, a1, a2, a3, a4⟩ | ⟨a1, a2⟩
      · have : t = 0 := by
          by_cases e : t = 0
          · exact e
          · exact absurd hoff (a4 0 (by omega))
        rw [a2, this]
        rfl
      · exact absurd hoff (a2 0 (Nat.zero_le _))
    rw [er, if_neg ho, Option.bind_some, if_neg (show ¬ nI 1 = 0 by decide), if_neg (show ¬ nI 1 = 0 by decide), if_neg (show ¬ (0 : Int32) < 0 by decide)]
    exact ⟨_, _, _, _, _, _, _, _, _, _, _, _, rfl, rfl⟩
theorem tm_soonest (G M φ : Nat → Nat) (h : ra_ok γ κ τ) (ta tb tc s1 s2 s3 s4 s5 s6 s7 C : Nat → Int32) (p : Int32) :
    ∃ r b1 b2 b3 b4 b5 b6 b7 b8 b9 b10 C' φ', f_X2_soonest (ra_nf G) (ra_nf γ) (ra_nf κ) (ra_nf τ) ta tb tc s1 s2 s3 s4 s5 s6 s7 (ra_nf φ) p = some (r, b1, b2, b3, b4, b5, b6, b7, b8, b9, b10, ra_nf φ') ∧ f_X3_soonest (ra_nf M) (ra_st γ κ τ) (ra_nf φ) C p = some (r, ra_nf φ', C') := by
  unfold f_X2_soonest f_X3_soonest
  rcases ra_either p with ⟨hp, e1, e2⟩ | ⟨e1, e2⟩
  · rw [e1, e2, Option.bind_some, Option.bind_some, if_neg (show ¬ nI 1 = 0 by decide), if_neg (show ¬ nI 1 = 0 by decide)]
    rcases hp with rfl | rfl
    · obtain ⟨r, b1, b2, b3, b4, b5, b6, b7, C', f1, f2⟩ := ra_sn0 M h (hb := false) (mst := 120) (by decide) s1 s2 s3 s4 s5 s6 s7 C
      have f1 : f_X1_least s1 s2 s3 s4 s5 s6 s7 (ra_nf γ) (ra_nf κ) (ra_nf τ) 0 0 120 = _ := f1
      have f2 : f_X3_off (ra_nf M) (ra_st γ κ τ) C (nI 0) 120 0 = _ := f2
      rw [if_pos (show nI 0 = 0 from rfl), f1, f2]
      exact ⟨_, _, _, _, _, _, _, _, _, _, _, _, _, rfl, rfl⟩
    · obtain ⟨r, b1, b2, b3, b4, b5, b6, b7, b8, b9, b10, C', f1, f2⟩ := ra_sn1 G M h (hb := false) (mst := 120) (by decide) ta tb tc s1 s2 s3 s4 s5 s6 s7 C
      have f1 : f_X2_firstMove (ra_nf G) (ra_nf γ) (ra_nf κ) (ra_nf τ) ta tb tc s1 s2 s3 s4 s5 s6 s7 0 120 = _ := f1
      have f2 : f_X3_off (ra_nf M) (ra_st γ κ τ) C (nI 1) 120 0 = _ := f2
      rw [if_neg (show ¬ nI 1 = 0 by decide), f1, f2]
      exact ⟨_, _, _, _, _, _, _, _, _, _, _, _, _, rfl, rfl⟩
  · rw [e1, e2]
    simp (disch := omega) only [↓reduceIte, ra_lit, ra_nf_ap, ra_st_lo, nI_add, nI_clamp, nI_ltI, nI_leI, nI_eq, Option.bind_some, if_true, if_false, not_false_eq_true, not_true_eq_false, ra_ltT, ra_ltF, ra_leT, ra_leF, ra_eqT, ra_eqF, or_false, false_or, or_true, true_or, and_true, true_and, and_false, false_and, rc_refuse, rr_no]
    exact ⟨_, _, _, _, _, _, _, _, _, _, _, _, _, rfl, rfl⟩
theorem tm_gentlest (G M φ : Nat → Nat) (h : ra_ok γ κ τ) (ta tb tc s1 s2 s3 s4 s5 s6 s7 C : Nat → Int32) (p : Int32) :
    ∃ r b1 b2 b3 b4 b5 b6 b7 b8 b9 b10 C' φ', f_X2_gentlest (ra_nf G) (ra_nf γ) (ra_nf κ) (ra_nf τ) ta tb tc s1 s2 s3 s4 s5 s6 s7 (ra_nf φ) p = some (r, b1, b2, b3, b4, b5, b6, b7, b8, b9, b10, ra_nf φ') ∧ f_X3_gentlest (ra_nf M) (ra_st γ κ τ) (ra_nf φ) C p = some (r, ra_nf φ', C') := by
  unfold f_X2_gentlest f_X3_gentlest
  rcases ra_either p with ⟨hp, e1, e2⟩ | ⟨e1, e2⟩
  · rw [e1, e2, Option.bind_some, Option.bind_some, if_neg (show ¬ nI 1 = 0 by decide), if_neg (show ¬ nI 1 = 0 by decide)]
    rcases hp with rfl | rfl
    · obtain ⟨r, b1, b2, b3, b4, b5, b6, b7, C', f1, f2⟩ := ra_sn0 M h (hb := true) (mst := 60) (by decide) s1 s2 s3 s4 s5 s6 s7 C
      have f1 : f_X1_least s1 s2 s3 s4 s5 s6 s7 (ra_nf γ) (ra_nf κ) (ra_nf τ) 0 1 60 = _ := f1
      have f2 : f_X3_off (ra_nf M) (ra_st γ κ τ) C (nI 0) 60 1 = _ := f2
      rw [if_pos (show nI 0 = 0 from rfl), f1, f2]
      exact ⟨_, _, _, _, _, _, _, _, _, _, _, _, _, rfl, rfl⟩
    · obtain ⟨r, b1, b2, b3, b4, b5, b6, b7, b8, b9, b10, C', f1, f2⟩ := ra_sn1 G M h (hb := true) (mst := 60) (by decide) ta tb tc s1 s2 s3 s4 s5 s6 s7 C
      have f1 : f_X2_firstMove (ra_nf G) (ra_nf γ) (ra_nf κ) (ra_nf τ) ta tb tc s1 s2 s3 s4 s5 s6 s7 1 60 = _ := f1
      have f2 : f_X3_off (ra_nf M) (ra_st γ κ τ) C (nI 1) 60 1 = _ := f2
      rw [if_neg (show ¬ nI 1 = 0 by decide), f1, f2]
      exact ⟨_, _, _, _, _, _, _, _, _, _, _, _, _, rfl, rfl⟩
  · rw [e1, e2]
    simp (disch := omega) only [↓reduceIte, ra_lit, ra_nf_ap, ra_st_lo, nI_add, nI_clamp, nI_ltI, nI_leI, nI_eq, Option.bind_some, if_true, if_false, not_false_eq_true, not_true_eq_false, ra_ltT, ra_ltF, ra_leT, ra_leF, ra_eqT, ra_eqF, or_false, false_or, or_true, true_or, and_true, true_and, and_false, false_and, rc_refuse, rr_no]
    exact ⟨_, _, _, _, _, _, _, _, _, _, _, _, _, rfl, rfl⟩
end RSoon
