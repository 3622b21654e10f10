/-! the first move: soonest, gentlest -/
section RFirst
variable {γ κ τ : Nat → Nat}
theorem rd_st_cf {f : Nat → Nat} (h : f 0 = γ 0 ∧ f 1 = γ 1 ∧ f 2 = γ 2 ∧ f 7 = γ 7) (a : Nat) (x : rd_X) : rd_st f κ τ a x = rd_st γ κ τ a x := by
  obtain ⟨h0, h1, h2, h7⟩ := h
  have e : rd_b f κ τ a x ↔ rd_b γ κ τ a x := by
    unfold rd_b
    rw [h1, h2, h7]
  unfold rd_st
  by_cases c : a = 7
  · rw [if_pos c, if_pos c]
  · rw [if_neg c, if_neg c]
    by_cases o : rd_b γ κ τ a x
    · rw [if_pos o, if_pos (e.mpr o)]
    · rw [if_neg o, if_neg (fun z => o (e.mp z))]
theorem rd_go_cf {f : Nat → Nat} (h : f 0 = γ 0 ∧ f 1 = γ 1 ∧ f 2 = γ 2 ∧ f 7 = γ 7) : ∀ (l : List Nat) (x y : rd_X), rd_go f κ τ l x y ↔ rd_go γ κ τ l x y := by
  intro l
  induction l with
  | nil => intro x y; exact Iff.rfl
  | cons a l ih =>
    intro x y
    show (x.1 < f 0 ∧ rd_al a x ∧ rd_go f κ τ l (rd_st f κ τ a x) y) ↔ (x.1 < γ 0 ∧ rd_al a x ∧ rd_go γ κ τ l (rd_st γ κ τ a x) y)
    rw [h.1, rd_st_cf h, ih]
theorem rd_off_cf {f : Nat → Nat} (h : f 0 = γ 0 ∧ f 1 = γ 1 ∧ f 2 = γ 2 ∧ f 7 = γ 7) (hb : Bool) (x : rd_X) (t : Nat) : rd_off f κ τ hb x t ↔ rd_off γ κ τ hb x t := by
  unfold rd_off
  constructor
  · rintro ⟨l, y, h1, h2, h3⟩
    exact ⟨l, y, (rd_go_cf h l x y).mp h1, by rw [← h.1]; exact h2, h3⟩
  · rintro ⟨l, y, h1, h2, h3⟩
    exact ⟨l, y, (rd_go_cf h l x y).mpr h1, by rw [h.1]; exact h2, h3⟩
theorem rd_best_cf {f : Nat → Nat} (h : f 0 = γ 0 ∧ f 1 = γ 1 ∧ f 2 = γ 2 ∧ f 7 = γ 7) {hb : Bool} {x : rd_X} {L : Nat} {r : Int32} (hr : rd_best f κ τ hb x L r) : rd_best γ κ τ hb x L r := by
  rcases hr with ⟨t, h1, h2, h3, h4⟩ | ⟨h1, h2⟩
  · exact Or.inl ⟨t, h1, h2, (rd_off_cf h hb x t).mp h3, fun t' ht' z => h4 t' ht' ((rd_off_cf h hb x t').mpr z)⟩
  · exact Or.inr ⟨h1, fun t ht z => h2 t ht ((rd_off_cf h hb x t).mpr z)⟩
theorem ra_mv_cf (γ κ τ : Nat → Nat) (a : Nat) : (ra_mv γ κ τ a) 0 = γ 0 ∧ (ra_mv γ κ τ a) 1 = γ 1 ∧ (ra_mv γ κ τ a) 2 = γ 2 ∧ (ra_mv γ κ τ a) 7 = γ 7 := by
  unfold ra_mv
  split
  · unfold ra_tr
    split
    · exact ⟨rfl, rfl, rfl, rfl⟩
    · exact ⟨rfl, rfl, rfl, rfl⟩
  · split
    · exact ⟨rfl, rfl, rfl, rfl⟩
    · exact ⟨rfl, rfl, rfl, rfl⟩
theorem ra_mv_st (γ κ τ : Nat → Nat) {a : Nat} (ha : a < 8) : rd_st γ κ τ a (γ 3, 0, γ 4, γ 5) = ((ra_mv γ κ τ a) 3, (if a = 5 then 1 else 0), (ra_mv γ κ τ a) 4, (ra_mv γ κ τ a) 5) := by
  unfold rd_st ra_mv
  by_cases c7 : a = 7
  · subst c7
    rfl
  · rw [if_neg c7, if_pos (show a < 7 by omega)]
    have e : rd_b γ κ τ a (γ 3, 0, γ 4, γ 5) ↔ ra_ov γ κ τ a := Iff.rfl
    unfold ra_tr
    by_cases o : ra_ov γ κ τ a
    · rw [if_pos (e.mpr o), if_pos o]
      rfl
    · rw [if_neg (fun z => o (e.mp z)), if_neg o]
      rfl
theorem rd_off_pos {h : Bool} : ∀ (l : List Nat) (x y : rd_X), rd_go γ κ τ l x y → x.1 < γ 0 → γ 0 ≤ y.1 → 1 ≤ rd_cs h l := by
  intro l
  induction l with
  | nil =>
    intro x y h1 h2 h3
    have h1 : x = y := h1
    subst h1
    omega
  | cons a l ih =>
    intro x y h1 h2 h3
    show 1 ≤ rd_c h a + rd_cs h l
    by_cases c7 : a = 7
    · have hs : (rd_st γ κ τ a x).1 = x.1 := by
        unfold rd_st
        rw [if_pos c7]
      have := ih _ y h1.2.2 (by rw [hs]; exact h2) h3
      omega
    · have := rd_c_pos (h := h) c7
      omega
/-- a first move of a least way that is a move -/
def rd_gd (γ κ τ : Nat → Nat) (h : Bool) (x0 : rd_X) (tot b : Nat) : Prop := rd_al b x0 ∧ rd_c h b ≤ tot ∧ rd_st γ κ τ b x0 ≠ x0 ∧ rd_off γ κ τ h (rd_st γ κ τ b x0) (tot - rd_c h b)
theorem rd_gd_ex {h : Bool} {x0 : rd_X} {tot : Nat} (hx : x0.1 < γ 0) (hmin : ∀ t, t < tot → ¬ rd_off γ κ τ h x0 t) : ∀ (l : List Nat) (y : rd_X), rd_go γ κ τ l x0 y → γ 0 ≤ y.1 → rd_cs h l = tot → ∃ b, b ≤ 7 ∧ rd_gd γ κ τ h x0 tot b := by
  intro l
  induction l with
  | nil =>
    intro y h1 h2 h3
    have h1 : x0 = y := h1
    subst h1
    omega
  | cons a l ih =>
    intro y h1 h2 h3
    obtain ⟨g1, g2, g3⟩ := h1
    have h3 : rd_c h a + rd_cs h l = tot := h3
    by_cases e : rd_st γ κ τ a x0 = x0
    · rw [e] at g3
      have hoff : rd_off γ κ τ h x0 (rd_cs h l) := ⟨l, y, g3, h2, rfl⟩
      have : ¬ rd_cs h l < tot := fun z => hmin _ z hoff
      exact ih y g3 h2 (by omega)
    · exact ⟨a, g2.1, g2, by omega, e, ⟨l, y, g3, h2, by omega⟩⟩
theorem rd_off_s {h : Bool} {x0 : rd_X} {a t : Nat} (hx : x0.1 < γ 0) (ha : rd_al a x0) (ho : rd_off γ κ τ h (rd_st γ κ τ a x0) t) : rd_off γ κ τ h x0 (rd_c h a + t) := by
  obtain ⟨l, y, h1, h2, h3⟩ := ho
  exact ⟨a :: l, y, ⟨hx, ha, h1⟩, h2, by show rd_c h a + rd_cs h l = _; rw [h3]⟩
/-- whether the rest of a move is the least left -/
theorem rd_best_rest {h : Bool} {x0 : rd_X} {tot a : Nat} {r : Int32} (hx : x0.1 < γ 0) (ha : rd_al a x0) (hc : rd_c h a ≤ tot) (ht : tot < 1000) (hmin : ∀ t, t < tot → ¬ rd_off γ κ τ h x0 t) (hr : rd_best γ κ τ h (rd_st γ κ τ a x0) (tot - rd_c h a) r) :
    r = nI (tot - rd_c h a) ↔ rd_off γ κ τ h (rd_st γ κ τ a x0) (tot - rd_c h a) := by
  rcases hr with ⟨t, h1, h2, h3, h4⟩ | ⟨h1, h2⟩
  · constructor
    · intro e
      rw [h2] at e
      have e := (nI_eq (by omega) (by omega)).mp e
      rw [← e]
      exact h3
    · intro ho
      have : ¬ (tot - rd_c h a < t) := fun z => h4 _ z ho
      have h5 := rd_off_s hx ha h3
      have h6 : ¬ (rd_c h a + t < tot) := fun z => hmin _ z h5
      rw [h2]
      congr 1
      omega
  · constructor
    · intro e
      rw [h1] at e
      have e := congrArg Int32.toInt e
      rw [nI_toInt (by omega), show (-9 : Int32).toInt = -9 by decide] at e
      omega
    · intro ho
      exact absurd ho (h2 _ (Nat.le_refl _))
theorem ra_fmL (G M : Nat → Nat) (h : ra_ok γ κ τ) (ho : γ 3 < γ 0) {hb : Bool} (p2 p1r p2r : Int32) {tot : Nat} (ht : tot ≤ 150) (hmin : ∀ t, t < tot → ¬ rd_off γ κ τ hb (γ 3, 0, γ 4, γ 5) t) :
    ∀ (d a m m' : Nat) (ta tb tc s1 s2 s3 s4 s5 s6 s7 C : Nat → Int32), a + d = 8 → d < m → d < m' → (∃ b, a ≤ b ∧ b ≤ 7 ∧ rd_gd γ κ τ hb (γ 3, 0, γ 4, γ 5) tot b) →
    ∃ r b1 b2 b3 b4 b5 b6 b7 b8 b9 b10 C', f_X2_firstMove_L25 (ra_nf G) (ra_nf γ) (ra_nf κ) (ra_nf τ) (nI (if hb then 1 else 0)) p2 (nI tot) m (nI a) ta tb tc s1 s2 s3 s4 s5 s6 s7 = some (Sum.inl (r, b1, b2, b3, b4, b5, b6, b7, b8, b9, b10)) ∧
      f_X3_off_L67 (ra_nf M) (ra_st γ κ τ) p1r p2r (nI (if hb then 1 else 0)) (nI (rd_e (γ 3, 0, γ 4, γ 5))) (nI tot) m' (nI a) C = some (Sum.inl (r, C')) := by
  obtain ⟨h0, h1, h2, h3, h4, h5, h6, h7, h8, h9, h10, h11⟩ := id h
  have hx0 : rd_bd (γ 0) (γ 3, 0, γ 4, γ 5) := ⟨h1, Nat.zero_le _, h6, h7⟩
  obtain ⟨-, he0⟩ := rd_de h0 hx0
  intro d
  induction d with
  | zero =>
    intro a m m' ta tb tc s1 s2 s3 s4 s5 s6 s7 C ha hm hm' hex
    obtain ⟨b, b1, b2, b3⟩ := hex
    omega
  | succ d ih =>
    intro a m m' ta tb tc s1 s2 s3 s4 s5 s6 s7 C ha hm hm' hex
    obtain ⟨m, rfl⟩ : ∃ q, m = q + 1 := ⟨m - 1, by omega⟩
    obtain ⟨m', rfl⟩ : ∃ q, m' = q + 1 := ⟨m' - 1, by omega⟩
    have ha8 : a < 8 := by omega
    have hal : rd_al a (γ 3, 0, γ 4, γ 5) := ⟨by omega, fun z => by have : (0 : Nat) = 2 := z.2; omega⟩
    have hc8 := rd_c_le hb a
    have c7 : ¬ (7 : Int32) < nI a := nI_nlt (a := 7) (b := a) (by omega) (by decide)
    have hmv := rc_move h ho (v := a) (by omega)
    have hmp := rc_movePrice (h := hb) ha8
    have hco := rr_costOf (h := hb) ha8
    have hyb := rd_st_bd (κ := κ) (τ := τ) hx0 ho hal
    obtain ⟨-, hey⟩ := rd_de h0 hyb
    have hrb : f_X3_roomBy (ra_nf M) (ra_st γ κ τ) (nI (rd_e (γ 3, 0, γ 4, γ 5))) (nI a) = some (nI (rd_e (rd_st γ κ τ a (γ 3, 0, γ 4, γ 5)))) := by
      rcases rr_roomBy M h hx0 ho ha8 with ⟨_, z⟩ | ⟨z, _⟩
      · exact z
      · exact absurd hal z
    have hnext : ¬ rd_gd γ κ τ hb (γ 3, 0, γ 4, γ 5) tot a → ∃ b, a + 1 ≤ b ∧ b ≤ 7 ∧ rd_gd γ κ τ hb (γ 3, 0, γ 4, γ 5) tot b := by
      intro hn
      obtain ⟨b, b1, b2, b3⟩ := hex
      have : b ≠ a := fun e => hn (by rw [← e]; exact b3)
      exact ⟨b, by omega, b2, b3⟩
    rw [f_X2_firstMove_L25, f_X3_off_L67, if_neg c7, if_neg c7, hmp, hco, hrb]
    simp only [Option.bind_some, rc_copy]
    by_cases cc : rd_c hb a ≤ tot
    · rw [pk_sub cc]
      have n0 : ¬ nI (tot - rd_c hb a) < 0 := nI_pos (by omega)
      obtain ⟨rr, C', e1, e2⟩ := rr_least M h C (hb := hb) hyb (lim := tot - rd_c hb a) (by omega)
      have hmvok := ra_mv_ok (v := a) h ho
      obtain ⟨r, w1, w2, w3, w4, w5, w6, w7, e3, e4⟩ := rc_least hmvok s1 s2 s3 s4 s5 s6 s7 (hb := hb) (mst := tot - rd_c hb a) (used := if a = 5 then 1 else 0) (by omega) (by split <;> omega)
      have e4 := rd_best_cf (ra_mv_cf γ κ τ a) e4
      rw [← ra_mv_st γ κ τ ha8] at e4
      have hrr := rd_best_eq e4 e2
      subst hrr
      have hiff := rd_best_rest ho hal cc (by omega) hmin e4
      have nE : ¬ nI (rd_e (rd_st γ κ τ a (γ 3, 0, γ 4, γ 5))) < 0 := nI_pos (by omega)
      simp only [hmv, Option.bind_some, if_neg n0, if_neg nE]
      by_cases hg : rd_gd γ κ τ hb (γ 3, 0, γ 4, γ 5) tot a
      · have hst0 : ¬ nI (rd_e (rd_st γ κ τ a (γ 3, 0, γ 4, γ 5))) = nI (rd_e (γ 3, 0, γ 4, γ 5)) := fun z => hg.2.2.1 (rd_e_inj h0 hyb hx0 ((nI_eq (by omega) (by omega)).mp z))
        have her : r = nI (tot - rd_c hb a) := hiff.mpr hg.2.2.2
        rw [if_neg hst0, e1, Option.bind_some, if_pos her]
        by_cases c5 : a = 5
        · have x5 : nI a = 5 := by rw [c5]; rfl
          rw [if_pos c5] at e3
          have e3 : f_X1_least s1 s2 s3 s4 s5 s6 s7 (ra_nf (ra_mv γ κ τ a)) (ra_nf κ) (ra_nf τ) 1 (nI (if hb then 1 else 0)) (nI (tot - rd_c hb a)) = _ := e3
          rw [if_pos x5, e3, Option.bind_some, if_pos her]
          exact ⟨_, _, _, _, _, _, _, _, _, _, _, _, rfl, rfl⟩
        · have x5 : ¬ nI a = 5 := fun z => c5 ((nI_eq (b := 5) (by omega) (by decide)).mp z)
          rw [if_neg c5] at e3
          have e3 : f_X1_least s1 s2 s3 s4 s5 s6 s7 (ra_nf (ra_mv γ κ τ a)) (ra_nf κ) (ra_nf τ) 0 (nI (if hb then 1 else 0)) (nI (tot - rd_c hb a)) = _ := e3
          rw [if_neg x5, e3, Option.bind_some, if_pos her]
          exact ⟨_, _, _, _, _, _, _, _, _, _, _, _, rfl, rfl⟩
      · have hex' := hnext hg
        have hner : ¬ r = nI (tot - rd_c hb a) := by
          intro her
          have hoff := hiff.mp her
          have hself : rd_st γ κ τ a (γ 3, 0, γ 4, γ 5) = (γ 3, 0, γ 4, γ 5) := by
            by_cases e : rd_st γ κ τ a (γ 3, 0, γ 4, γ 5) = (γ 3, 0, γ 4, γ 5)
            · exact e
            · exact absurd ⟨hal, cc, e, hoff⟩ hg
          rw [hself] at hoff
          have : ¬ (tot - rd_c hb a < tot) := fun z => hmin _ z hoff
          have ha7 : a = 7 := by
            by_cases e : a = 7
            · exact e
            · have := rd_c_pos (h := hb) e
              omega
          obtain ⟨b, b1, b2, b3⟩ := hex'
          omega
        have hB : ∃ C2, (if nI (rd_e (rd_st γ κ τ a (γ 3, 0, γ 4, γ 5))) = nI (rd_e (γ 3, 0, γ 4, γ 5)) then f_X3_off_L67 (ra_nf M) (ra_st γ κ τ) p1r p2r (nI (if hb then 1 else 0)) (nI (rd_e (γ 3, 0, γ 4, γ 5))) (nI tot) m' (nI a + 1) C else (f_X3_leastFrom (ra_nf M) (ra_st γ κ τ) C (nI (rd_e (rd_st γ κ τ a (γ 3, 0, γ 4, γ 5)))) (nI (tot - rd_c hb a)) (nI (if hb then 1 else 0))).bind fun (q11 : Int32 × (Nat → Int32)) => if q11.1 = nI (tot - rd_c hb a) then (some (Sum.inl (nI a, q11.2))) else f_X3_off_L67 (ra_nf M) (ra_st γ κ τ) p1r p2r (nI (if hb then 1 else 0)) (nI (rd_e (γ 3, 0, γ 4, γ 5))) (nI tot) m' (nI a + 1) q11.2) = f_X3_off_L67 (ra_nf M) (ra_st γ κ τ) p1r p2r (nI (if hb then 1 else 0)) (nI (rd_e (γ 3, 0, γ 4, γ 5))) (nI tot) m' (nI (a + 1)) C2 := by
          rw [nI_1]
          by_cases cs : nI (rd_e (rd_st γ κ τ a (γ 3, 0, γ 4, γ 5))) = nI (rd_e (γ 3, 0, γ 4, γ 5))
          · rw [if_pos cs]
            exact ⟨C, rfl⟩
          · rw [if_neg cs, e1, Option.bind_some, if_neg hner]
            exact ⟨_, rfl⟩
        obtain ⟨C2, hB⟩ := hB
        rw [hB]
        by_cases c5 : a = 5
        · have x5 : nI a = 5 := by rw [c5]; rfl
          rw [if_pos c5] at e3
          have e3 : f_X1_least s1 s2 s3 s4 s5 s6 s7 (ra_nf (ra_mv γ κ τ a)) (ra_nf κ) (ra_nf τ) 1 (nI (if hb then 1 else 0)) (nI (tot - rd_c hb a)) = _ := e3
          rw [if_pos x5, e3, Option.bind_some, if_neg hner, nI_1]
          exact ih (a + 1) m m' _ _ _ _ _ _ _ _ _ _ _ (by omega) (by omega) (by omega) hex'
        · have x5 : ¬ nI a = 5 := fun z => c5 ((nI_eq (b := 5) (by omega) (by decide)).mp z)
          rw [if_neg c5] at e3
          have e3 : f_X1_least s1 s2 s3 s4 s5 s6 s7 (ra_nf (ra_mv γ κ τ a)) (ra_nf κ) (ra_nf τ) 0 (nI (if hb then 1 else 0)) (nI (tot - rd_c hb a)) = _ := e3
          rw [if_neg x5, e3, Option.bind_some, if_neg hner, nI_1]
          exact ih (a + 1) m m' _ _ _ _ _ _ _ _ _ _ _ (by omega) (by omega) (by omega) hex'
    · have n0 : nI tot - nI (rd_c hb a) < 0 := pk_sneg (by omega) (by omega)
      have hng : ¬ rd_gd γ κ τ hb (γ 3, 0, γ 4, γ 5) tot a := fun z => cc z.2.1
      simp only [hmv, Option.bind_some, if_pos n0, nI_1]
      have hcl : ∀ X : Option ((Int32 × (Nat → Int32) × (Nat → Int32) × (Nat → Int32) × (Nat → Int32) × (Nat → Int32) × (Nat → Int32) × (Nat → Int32) × (Nat → Int32) × (Nat → Int32) × (Nat → Int32)) ⊕ (Int32 × (Nat → Int32) × (Nat → Int32) × (Nat → Int32) × (Nat → Int32) × (Nat → Int32) × (Nat → Int32) × (Nat → Int32) × (Nat → Int32) × (Nat → Int32) × (Nat → Int32))), (if nI a = 5 then X else X) = X := fun X => by split <;> rfl
      rw [hcl]
      exact ih (a + 1) m m' _ _ _ _ _ _ _ _ _ _ _ (by omega) (by omega) (by omega) (hnext hng)
end RFirst
