/-! ways off: a place is (front, threads, swell, cold); a try or a wait (7) goes from one to another at a cost -/
abbrev rd_X : Type := Nat × Nat × Nat × Nat
section RDist
abbrev rd_b (γ κ τ : Nat → Nat) (a : Nat) (x : rd_X) : Prop := ra_tk (κ x.1) (τ x.1) x.2.2.1 (ra_cd a x.2.2.2) (γ 7) ≤ γ 1 + ra_al a (γ 2)
def rd_st (γ κ τ : Nat → Nat) (a : Nat) (x : rd_X) : rd_X :=
  if a = 7 then (x.1, x.2.1, x.2.2.1 - 2, x.2.2.2 - 1)
  else (x.1 + (if rd_b γ κ τ a x then 1 else 0), (if a = 5 then x.2.1 + 1 else x.2.1), min 30 (x.2.2.1 + ra_sw a), ra_cd a x.2.2.2)
def rd_al (a : Nat) (x : rd_X) : Prop := a ≤ 7 ∧ ¬ (a = 5 ∧ x.2.1 = 2)
def rd_c (h : Bool) (a : Nat) : Nat := if a = 7 then (if h then 0 else 5) else if h then ra_hm a else ra_mi a
theorem rd_c_pos {h : Bool} {a : Nat} (ha : a ≠ 7) : 1 ≤ rd_c h a := by
  unfold rd_c
  rw [if_neg ha]
  split
  · exact (ra_hm_le a).1
  · exact (ra_mi_le a).1
theorem rd_c_le (h : Bool) (a : Nat) : rd_c h a ≤ 8 := by
  unfold rd_c
  split
  · split <;> omega
  · split
    · have := ra_hm_le a; omega
    · exact (ra_mi_le a).2
def rd_go (γ κ τ : Nat → Nat) : List Nat → rd_X → rd_X → Prop
  | [], x, y => x = y
  | a :: l, x, y => x.1 < γ 0 ∧ rd_al a x ∧ rd_go γ κ τ l (rd_st γ κ τ a x) y
def rd_cs (h : Bool) : List Nat → Nat
  | [] => 0
  | a :: l => rd_c h a + rd_cs h l
/-- from x it can be off at cost t -/
def rd_off (γ κ τ : Nat → Nat) (h : Bool) (x : rd_X) (t : Nat) : Prop := ∃ l y, rd_go γ κ τ l x y ∧ γ 0 ≤ y.1 ∧ rd_cs h l = t
/-- from x one comes to y at cost t -/
def rd_rc (γ κ τ : Nat → Nat) (h : Bool) (x y : rd_X) (t : Nat) : Prop := ∃ l, rd_go γ κ τ l x y ∧ rd_cs h l = t
def rd_best (γ κ τ : Nat → Nat) (h : Bool) (x : rd_X) (L : Nat) (r : Int32) : Prop :=
  (∃ t, t ≤ L ∧ r = nI t ∧ rd_off γ κ τ h x t ∧ ∀ t', t' < t → ¬ rd_off γ κ τ h x t') ∨ (r = -9 ∧ ∀ t, t ≤ L → ¬ rd_off γ κ τ h x t)
theorem rd_best_eq {γ κ τ : Nat → Nat} {h : Bool} {x : rd_X} {L : Nat} {r r' : Int32} (h1 : rd_best γ κ τ h x L r) (h2 : rd_best γ κ τ h x L r') : r = r' := by
  rcases h1 with ⟨t, a1, a2, a3, a4⟩ | ⟨a1, a2⟩
  · rcases h2 with ⟨t', b1, b2, b3, b4⟩ | ⟨b1, b2⟩
    · have e : t = t' := by
        rcases Nat.lt_trichotomy t t' with z | z | z
        · exact absurd a3 (b4 t z)
        · exact z
        · exact absurd b3 (a4 t' z)
      rw [a2, b2, e]
    · exact absurd a3 (b2 t a1)
  · rcases h2 with ⟨t', b1, b2, b3, b4⟩ | ⟨b1, b2⟩
    · exact absurd b3 (a2 t' b1)
    · rw [a1, b1]
def rd_bd (pa : Nat) (x : rd_X) : Prop := x.1 ≤ pa ∧ x.2.1 ≤ 2 ∧ x.2.2.1 ≤ 30 ∧ x.2.2.2 ≤ 20
theorem rd_st_bd {γ κ τ : Nat → Nat} {a : Nat} {x : rd_X} (hx : rd_bd (γ 0) x) (hp : x.1 < γ 0) (ha : rd_al a x) : rd_bd (γ 0) (rd_st γ κ τ a x) := by
  obtain ⟨h1, h2, h3, h4⟩ := hx
  unfold rd_st
  split
  · exact ⟨h1, h2, by show x.2.2.1 - 2 ≤ 30; omega, by show x.2.2.2 - 1 ≤ 20; omega⟩
  · refine ⟨?_, ?_, ?_, ?_⟩
    · show x.1 + (if rd_b γ κ τ a x then 1 else 0) ≤ γ 0
      split <;> omega
    · show (if a = 5 then x.2.1 + 1 else x.2.1) ≤ 2
      split
      · rename_i e
        have : ¬ x.2.1 = 2 := fun z => ha.2 ⟨e, z⟩
        omega
      · exact h2
    · show min 30 (x.2.2.1 + ra_sw a) ≤ 30
      omega
    · exact (ra_cd_le h4).1
theorem rd_go_app {γ κ τ : Nat → Nat} : ∀ (l : List Nat) (x y : rd_X) (a : Nat), rd_go γ κ τ l x y → y.1 < γ 0 → rd_al a y → rd_go γ κ τ (l ++ [a]) x (rd_st γ κ τ a y) := by
  intro l
  induction l with
  | nil =>
    intro x y a h hy ha
    have h : x = y := h
    subst h
    exact ⟨hy, ha, rfl⟩
  | cons b l ih =>
    intro x y a h hy ha
    exact ⟨h.1, h.2.1, ih _ _ _ h.2.2 hy ha⟩
theorem rd_cs_app (h : Bool) (l : List Nat) (a : Nat) : rd_cs h (l ++ [a]) = rd_cs h l + rd_c h a := by
  induction l with
  | nil => show rd_c h a + 0 = 0 + rd_c h a; omega
  | cons b l ih =>
    show rd_c h b + rd_cs h (l ++ [a]) = rd_c h b + rd_cs h l + rd_c h a
    rw [ih]
    omega
theorem rd_rc_0 {γ κ τ : Nat → Nat} {h : Bool} (x : rd_X) : rd_rc γ κ τ h x x 0 := ⟨[], rfl, rfl⟩
theorem rd_rc_s {γ κ τ : Nat → Nat} {h : Bool} {x y : rd_X} {t a : Nat} (hr : rd_rc γ κ τ h x y t) (hy : y.1 < γ 0) (ha : rd_al a y) : rd_rc γ κ τ h x (rd_st γ κ τ a y) (t + rd_c h a) := by
  obtain ⟨l, h1, h2⟩ := hr
  exact ⟨l ++ [a], rd_go_app l x y a h1 hy ha, by rw [rd_cs_app, h2]⟩
theorem rd_rc_off {γ κ τ : Nat → Nat} {h : Bool} {x y : rd_X} {t : Nat} (hr : rd_rc γ κ τ h x y t) (hy : γ 0 ≤ y.1) : rd_off γ κ τ h x t := by
  obtain ⟨l, h1, h2⟩ := hr
  exact ⟨l, y, h1, hy, h2⟩
def rd_e (x : rd_X) : Nat := ((x.2.2.1 * 21 + x.2.2.2) * 7 + x.1) * 3 + x.2.1
def rd_d (r : Nat) : rd_X := (r / 3 % 7, r % 3, r / 441, r / 21 % 21)
theorem rd_de {pa : Nat} (hp : pa ≤ 6) {x : rd_X} (h : rd_bd pa x) : rd_d (rd_e x) = x ∧ rd_e x < 13671 := by
  obtain ⟨fr, th, sw, co⟩ := x
  obtain ⟨h1, h2, h3, h4⟩ := h
  simp only at h1 h2 h3 h4
  have e1 : rd_e (fr, th, sw, co) = ((sw * 21 + co) * 7 + fr) * 3 + th := rfl
  unfold rd_d
  rw [e1]
  refine ⟨?_, by omega⟩
  have a1 : (((sw * 21 + co) * 7 + fr) * 3 + th) / 3 % 7 = fr := by omega
  have a2 : (((sw * 21 + co) * 7 + fr) * 3 + th) % 3 = th := by omega
  have a3 : (((sw * 21 + co) * 7 + fr) * 3 + th) / 441 = sw := by omega
  have a4 : (((sw * 21 + co) * 7 + fr) * 3 + th) / 21 % 21 = co := by omega
  rw [a1, a2, a3, a4]
theorem rd_ed (r : Nat) (h : r < 13671) : rd_e (rd_d r) = r ∧ rd_bd 6 (rd_d r) := by
  refine ⟨?_, ?_⟩
  · show ((r / 441 * 21 + r / 21 % 21) * 7 + r / 3 % 7) * 3 + r % 3 = r
    omega
  · refine ⟨?_, ?_, ?_, ?_⟩
    · show r / 3 % 7 ≤ 6
      omega
    · show r % 3 ≤ 2
      omega
    · show r / 441 ≤ 30
      omega
    · show r / 21 % 21 ≤ 20
      omega
theorem rd_e_inj {pa : Nat} (hp : pa ≤ 6) {x y : rd_X} (hx : rd_bd pa x) (hy : rd_bd pa y) (e : rd_e x = rd_e y) : x = y := by
  rw [← (rd_de hp hx).1, ← (rd_de hp hy).1, e]
/-- all places below T gone on from: every way is seen -/
theorem rd_all {γ κ τ : Nat → Nat} {h : Bool} {c : Nat → Nat} {T : Nat} (hE : ∀ x : rd_X, rd_bd (γ 0) x → c (rd_e x) < T → x.1 < γ 0 ∧ ∀ a, rd_al a x → c (rd_e (rd_st γ κ τ a x)) ≤ c (rd_e x) + rd_c h a) :
    ∀ (l : List Nat) (x y : rd_X) (c0 : Nat), rd_bd (γ 0) x → c (rd_e x) ≤ c0 → rd_go γ κ τ l x y → c0 + rd_cs h l < T → rd_bd (γ 0) y ∧ c (rd_e y) ≤ c0 + rd_cs h l := by
  intro l
  induction l with
  | nil =>
    intro x y c0 hx hc hr ht
    have hr : x = y := hr
    subst hr
    exact ⟨hx, hc⟩
  | cons a l ih =>
    intro x y c0 hx hc hr ht
    obtain ⟨h1, h2, h3⟩ := hr
    have ht' : c0 + (rd_c h a + rd_cs h l) < T := ht
    obtain ⟨hlt, hex⟩ := hE x hx (by omega)
    have hz1 := hex a h2
    have := ih _ y (c0 + rd_c h a) (rd_st_bd hx hlt h2) (by omega) h3 (by omega)
    refine ⟨this.1, ?_⟩
    show c (rd_e y) ≤ c0 + (rd_c h a + rd_cs h l)
    omega
theorem rr_roomOf (a b c d : Nat) : f_X3_roomOf (nI a) (nI b) (nI c) (nI d) = some (nI (((a * 21 + b) * 7 + c) * 3 + d)) := by
  unfold f_X3_roomOf
  simp (disch := omega) only [ra_lit, pk_mul, nI_add]
theorem rr_costOf {h : Bool} {a : Nat} (ha : a < 8) : f_X3_costOf (nI a) (nI (if h then 1 else 0)) = some (nI (rd_c h a)) := by
  unfold f_X3_costOf rd_c
  by_cases e : a = 7
  · subst e
    cases h <;> rfl
  · cases h with
    | false =>
      have e0 : (if (false = true) then 1 else 0 : Nat) = 0 := rfl
      rw [e0]
      simp (disch := omega) only [↓reduceIte, ra_lit, ra_nf_ap, ra_st_lo, nI_add, nI_clamp, nI_ltI, nI_leI, nI_eq, Option.bind_some, if_true, if_false, not_false_eq_true, not_true_eq_false, ra_ltT, ra_ltF, ra_leT, ra_leF, ra_eqT, ra_eqF, or_false, false_or, or_true, true_or, and_true, true_and, and_false, false_and, ra_miR, Bool.false_eq_true]
    | true =>
      have e0 : (if (true = true) then 1 else 0 : Nat) = 1 := rfl
      rw [e0]
      simp (disch := omega) only [↓reduceIte, ra_lit, ra_nf_ap, ra_st_lo, nI_add, nI_clamp, nI_ltI, nI_leI, nI_eq, Option.bind_some, if_true, if_false, not_false_eq_true, not_true_eq_false, ra_ltT, ra_ltF, ra_leT, ra_leF, ra_eqT, ra_eqF, or_false, false_or, or_true, true_or, and_true, true_and, and_false, false_and, ra_hmR]
theorem rr_roomBy {γ κ τ : Nat → Nat} (M : Nat → Nat) (h : ra_ok γ κ τ) {x : rd_X} (hx : rd_bd (γ 0) x) (hlt : x.1 < γ 0) {a : Nat} (ha : a < 8) :
    (rd_al a x ∧ f_X3_roomBy (ra_nf M) (ra_st γ κ τ) (nI (rd_e x)) (nI a) = some (nI (rd_e (rd_st γ κ τ a x)))) ∨ (¬ rd_al a x ∧ f_X3_roomBy (ra_nf M) (ra_st γ κ τ) (nI (rd_e x)) (nI a) = some (-nI 9)) := by
  obtain ⟨h0, h1', h2', h3', h4', h5, h6, h7, h8, h9, h10, h11⟩ := id h
  obtain ⟨hde, hlt2⟩ := rd_de h0 hx
  obtain ⟨fr, th, sw, co⟩ := x
  obtain ⟨h1, h2, h3, h4⟩ := hx
  simp only at h1 h2 h3 h4 hlt
  have d1 : rd_e (fr, th, sw, co) / 3 % 7 = fr := congrArg (fun z : rd_X => z.1) hde
  have d2 : rd_e (fr, th, sw, co) % 3 = th := congrArg (fun z : rd_X => z.2.1) hde
  have d3 : rd_e (fr, th, sw, co) / 441 = sw := congrArg (fun z : rd_X => z.2.2.1) hde
  have d4 : rd_e (fr, th, sw, co) / 21 % 21 = co := congrArg (fun z : rd_X => z.2.2.2) hde
  generalize rd_e (fr, th, sw, co) = r at d1 d2 d3 d4 hlt2
  have q3 : (nI r / 3 : Int32) = nI (r / 3) := pk_div (d := 3) (by omega) (by decide) (by decide)
  have q21 : (nI r / 21 : Int32) = nI (r / 21) := pk_div (d := 21) (by omega) (by decide) (by decide)
  have q441 : (nI r / 441 : Int32) = nI (r / 441) := pk_div (d := 441) (by omega) (by decide) (by decide)
  have e1 : rf_rem (nI r) 3 = nI th := by
    rw [← d2]
    exact pk_rem (d := 3) (by omega) (by decide) (by decide)
  have e2 : rf_rem (nI r / 3) 7 = nI fr := by
    rw [q3, ← d1]
    exact pk_rem (d := 7) (by omega) (by decide) (by decide)
  have e3 : rf_rem (nI r / 21) 21 = nI co := by
    rw [q21, ← d4]
    exact pk_rem (d := 21) (by omega) (by decide) (by decide)
  have e4 : (nI r / 441 : Int32) = nI sw := by rw [q441, d3]
  have hsw := ra_sw_le a
  have hcd := ra_cd_le (k := a) h4
  unfold f_X3_roomBy
  rw [e1, e2, e3, e4]
  simp only [Option.bind_some]
  by_cases c7 : a = 7
  · subst c7
    left
    refine ⟨⟨by omega, fun z => by omega⟩, ?_⟩
    rw [if_pos (show nI 7 = 7 from rfl), ra_most, ra_most, show rf_max 0 (nI sw - 2) = nI (sw - 2) from ra_mx (b := 2) (by omega) (by decide), show rf_max 0 (nI co - 1) = nI (co - 1) from ra_mx (b := 1) (by omega) (by decide), Option.bind_some, Option.bind_some, rr_roomOf]
    rfl
  · have n7 : ¬ nI a = 7 := fun z => c7 ((nI_eq (b := 7) (by omega) (by decide)).mp z)
    have hov := rr_over (g := M) h (k := a) (j := fr) (sw := sw) (co := co) (by omega) (by omega) h3 h4
    have hst : rd_st γ κ τ a (fr, th, sw, co) = (fr + (if rd_b γ κ τ a (fr, th, sw, co) then 1 else 0), (if a = 5 then th + 1 else th), min 30 (sw + ra_sw a), ra_cd a co) := by
      unfold rd_st
      rw [if_neg c7]
    have hend : ∀ f2 t2 : Nat, (f_X3_swellsBy (nI a)).bind (fun (q10 : Int32) => (f_X3_least 30 (nI sw + q10)).bind fun (q11 : Int32) => (f_X3_coldBy (nI a) (nI co)).bind fun (q12 : Int32) => (f_X3_roomOf q11 q12 (nI f2) (nI t2)).bind fun (q15 : Int32) => some q15) = some (nI (rd_e (f2, t2, min 30 (sw + ra_sw a), ra_cd a co))) := by
      intro f2 t2
      rw [ra_swR (by omega), Option.bind_some, ra_least, nI_add, show rf_min 30 (nI (sw + ra_sw a)) = nI (min 30 (sw + ra_sw a)) from ra_mnn (a := 30) (by decide) (by omega), Option.bind_some, ra_cdR (by omega) (by omega), Option.bind_some, rr_roomOf]
      rfl
    have f0 : (nI fr + 0 : Int32) = nI (fr + 0) := nI_add fr 0
    have f1 : (nI fr + 1 : Int32) = nI (fr + 1) := nI_add fr 1
    have t0 : (nI th + 0 : Int32) = nI (th + 0) := nI_add th 0
    have t1 : (nI th + 1 : Int32) = nI (th + 1) := nI_add th 1
    rw [if_neg n7, hov]
    simp only [Option.bind_some]
    by_cases c5 : a = 5
    · subst c5
      rw [if_pos (show nI 5 = 5 from rfl)]
      by_cases ct : th = 2
      · subst ct
        right
        refine ⟨fun z => z.2 ⟨rfl, rfl⟩, ?_⟩
        rw [if_pos (show nI 2 = 2 from rfl)]
        rfl
      · have nt : ¬ nI th = 2 := fun z => ct ((nI_eq (b := 2) (by omega) (by decide)).mp z)
        left
        refine ⟨⟨by omega, fun z => ct z.2⟩, ?_⟩
        rw [if_neg nt, hst]
        by_cases o : rd_b γ κ τ 5 (fr, th, sw, co)
        · simp only [if_pos o]
          rw [if_neg (show ¬ nI 1 = 0 by decide), f1]
          simp only [Option.bind_some, if_pos (show nI 5 = 5 from rfl), t1]
          exact hend (fr + 1) (th + 1)
        · simp only [if_neg o]
          rw [if_pos (show nI 0 = 0 from rfl), f0]
          simp only [Option.bind_some, if_pos (show nI 5 = 5 from rfl), t1]
          exact hend (fr + 0) (th + 1)
    · have n5 : ¬ nI a = 5 := fun z => c5 ((nI_eq (b := 5) (by omega) (by decide)).mp z)
      left
      refine ⟨⟨by omega, fun z => c5 z.1⟩, ?_⟩
      rw [if_neg n5, hst]
      by_cases o : rd_b γ κ τ a (fr, th, sw, co)
      · simp only [if_pos o]
        rw [if_neg (show ¬ nI 1 = 0 by decide), f1]
        simp only [Option.bind_some, if_neg n5, t0, if_neg c5]
        exact hend (fr + 1) (th + 0)
      · simp only [if_neg o]
        rw [if_pos (show nI 0 = 0 from rfl), f0]
        simp only [Option.bind_some, if_neg n5, t0, if_neg c5]
        exact hend (fr + 0) (th + 0)
end RDist
