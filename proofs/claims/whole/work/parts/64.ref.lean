/-! the reference's row of costs comes to the least -/
section RRef
variable {γ κ τ : Nat → Nat}
theorem rr_L89 (M : Nat → Nat) (h : ra_ok γ κ τ) (p1 p2 : Int32) {hb : Bool} {x : rd_X} (hx : rd_bd (γ 0) x) (hlt : x.1 < γ 0) {t : Nat} (ht : t ≤ 1000) :
    ∀ (d a n : Nat) (c : Nat → Nat), a + d = 8 → d < n → (∀ q, q < 13671 → c q ≤ 1000000000) → ∃ c' : Nat → Nat, f_X3_leastFrom_L89 (ra_nf M) (ra_st γ κ τ) p1 p2 (nI (if hb then 1 else 0)) (nI t) (nI (rd_e x)) n (nI a) (ra_nf c) = some (nI 8, ra_nf c') ∧ (∀ q, c' q ≤ c q) ∧ (∀ b, a ≤ b → rd_al b x → c' (rd_e (rd_st γ κ τ b x)) ≤ t + rd_c hb b) ∧ (∀ q, c' q = c q ∨ ∃ b, rd_al b x ∧ rd_e (rd_st γ κ τ b x) = q ∧ c' q = t + rd_c hb b) := by
  intro d
  induction d with
  | zero =>
    intro a n c had hn hC
    obtain ⟨n, rfl⟩ : ∃ m, n = m + 1 := ⟨n - 1, by omega⟩
    obtain rfl : a = 8 := by omega
    refine ⟨c, ?_, fun q => Nat.le_refl _, fun b h1 h2 => by have := h2.1; omega, fun q => Or.inl rfl⟩
    rw [f_X3_leastFrom_L89, if_pos (by decide)]
  | succ d ih =>
    intro a n c had hn hC
    obtain ⟨n, rfl⟩ : ∃ m, n = m + 1 := ⟨n - 1, by omega⟩
    have ha : a < 8 := by omega
    have c0 : ¬ (7 : Int32) < nI a := nI_nlt (b := a) (a := 7) (by omega) (by decide)
    rw [f_X3_leastFrom_L89, if_neg c0]
    rcases rr_roomBy M h hx hlt ha with ⟨hal, hr⟩ | ⟨hal, hr⟩
    · have hyb := rd_st_bd (κ := κ) (τ := τ) hx hlt hal
      obtain ⟨-, hy2⟩ := rd_de h.1 hyb
      have hc8 := rd_c_le hb a
      have hCy := hC _ hy2
      obtain ⟨c', h1, h3, h4, h5⟩ := ih (a + 1) n (ra_un c (rd_e (rd_st γ κ τ a x)) (min (c (rd_e (rd_st γ κ τ a x))) (t + rd_c hb a))) (by omega) (by omega) (fun q hq => by
        unfold ra_un
        split
        · omega
        · exact hC q hq)
      generalize hy : rd_st γ κ τ a x = y at hr hyb hy2 hCy h1 h3 h4 h5 ⊢
      have c2 : ¬ (nI (rd_e y) < 0 ∨ 13671 ≤ (nI (rd_e y)).toNatClampNeg) := nI_in (N := 13671) hy2 (by decide)
      have c3 : (nI (rd_e y)).toNatClampNeg = rd_e y := nI_clamp (by omega)
      refine ⟨c', ?_, fun q => ?_, fun b b1 b2 => ?_, fun q => ?_⟩
      · rw [hr, Option.bind_some, if_neg (nI_pos (by omega)), if_pos c2, rr_costOf ha, Option.bind_some, c3, ra_nf_ap, ra_least, nI_add, ra_mnn (by omega) (by omega), Option.bind_some]
        rw [c3] at c2
        rw [if_pos c2, ra_upd, nI_1]
        exact h1
      · have := h3 q
        unfold ra_un at this
        split at this
        · rename_i e
          rw [e] at this ⊢
          omega
        · exact this
      · by_cases e : b = a
        · subst e
          rw [hy]
          have := h3 (rd_e y)
          unfold ra_un at this
          rw [if_pos rfl] at this
          omega
        · exact h4 b (by omega) b2
      · rcases h5 q with z | z
        · unfold ra_un at z
          by_cases e : q = rd_e y
          · rw [if_pos e] at z
            by_cases hm : c (rd_e y) ≤ t + rd_c hb a
            · left
              rw [z, e]
              omega
            · right
              exact ⟨a, hal, by rw [hy, e], by rw [z]; omega⟩
          · rw [if_neg e] at z
            exact Or.inl z
        · exact Or.inr z
    · obtain ⟨c', h1, h3, h4, h5⟩ := ih (a + 1) n c (by omega) (by omega) hC
      refine ⟨c', ?_, h3, fun b b1 b2 => ?_, h5⟩
      · rw [hr, Option.bind_some, if_pos (by decide), Option.bind_some, nI_1]
        exact h1
      · by_cases e : b = a
        · subst e
          exact absurd b2 hal
        · exact h4 b (by omega) b2
def rd_I (γ κ τ : Nat → Nat) (h : Bool) (x0 : rd_X) (t n : Nat) (c : Nat → Nat) : Prop :=
  (∀ q, q < 13671 → c q ≤ 1000000000) ∧ (∀ x, rd_bd (γ 0) x → c (rd_e x) < 1000000000 → rd_rc γ κ τ h x0 x (c (rd_e x))) ∧
  (∀ x, rd_bd (γ 0) x → (c (rd_e x) < t ∨ (c (rd_e x) = t ∧ n ≤ rd_e x)) → x.1 < γ 0 ∧ ∀ a, rd_al a x → c (rd_e (rd_st γ κ τ a x)) ≤ c (rd_e x) + rd_c h a) ∧ c (rd_e x0) = 0 ∧ ∀ q, q < 13671 → γ 0 < (rd_d q).1 → c q = 1000000000
theorem rd_e_wait {pa : Nat} {x : rd_X} (hx : rd_bd pa x) : rd_e (x.1, x.2.1, x.2.2.1 - 2, x.2.2.2 - 1) ≤ rd_e x := by
  show (((x.2.2.1 - 2) * 21 + (x.2.2.2 - 1)) * 7 + x.1) * 3 + x.2.1 ≤ ((x.2.2.1 * 21 + x.2.2.2) * 7 + x.1) * 3 + x.2.1
  omega
theorem rr_L47 (M : Nat → Nat) (h : ra_ok γ κ τ) (p1 p2 : Int32) {hb : Bool} {x0 : rd_X} (hx0 : rd_bd (γ 0) x0) {t : Nat} (ht : t ≤ 1000) :
    ∀ (n m : Nat) (c : Nat → Nat), n ≤ 13671 → n < m → rd_I γ κ τ hb x0 t n c →
    (∃ c', f_X3_leastFrom_L47 (ra_nf M) (ra_st γ κ τ) p1 p2 (nI (if hb then 1 else 0)) (nI t) m (ra_te n) (ra_nf c) = some (Sum.inl (nI t, ra_nf c')) ∧ rd_off γ κ τ hb x0 t ∧ ∀ t', t' < t → ¬ rd_off γ κ τ hb x0 t') ∨
    (∃ y c', f_X3_leastFrom_L47 (ra_nf M) (ra_st γ κ τ) p1 p2 (nI (if hb then 1 else 0)) (nI t) m (ra_te n) (ra_nf c) = some (Sum.inr (y, ra_nf c')) ∧ rd_I γ κ τ hb x0 t 0 c') := by
  intro n
  induction n with
  | zero =>
    intro m c hn hm hI
    obtain ⟨m, rfl⟩ : ∃ q, m = q + 1 := ⟨m - 1, by omega⟩
    right
    refine ⟨ra_te 0, c, ?_, hI⟩
    rw [f_X3_leastFrom_L47, if_pos (by decide)]
  | succ n ih =>
    intro m c hn hm hI
    obtain ⟨m, rfl⟩ : ∃ q, m = q + 1 := ⟨m - 1, by omega⟩
    obtain ⟨hC, hS, hE, hz, hN⟩ := id hI
    have h6 := h.1
    obtain ⟨hed, hbd6⟩ := rd_ed n (by omega)
    have k1 : ¬ nI n < 0 := nI_pos (by omega)
    have k2 : ¬ (nI n < 0 ∨ 13671 ≤ (nI n).toNatClampNeg) := nI_in (N := 13671) (by omega) (by decide)
    have k3 : (nI n).toNatClampNeg = n := nI_clamp (by omega)
    have hcn := hC n (by omega)
    rw [f_X3_leastFrom_L47, ra_te_s, if_neg k1, if_pos k2, k3, ra_nf_ap]
    by_cases cn : c n = t
    · have q3 : (nI n / 3 : Int32) = nI (n / 3) := pk_div (d := 3) (by omega) (by decide) (by decide)
      have e2 : rf_rem (nI n / 3) 7 = nI (n / 3 % 7) := by
        rw [q3]
        exact pk_rem (d := 7) (by omega) (by decide) (by decide)
      rw [if_pos (show nI (c n) = nI t by rw [cn]), e2, Option.bind_some, ra_st_lo _ _ _ (by decide)]
      have hfr : (rd_d n).1 = n / 3 % 7 := rfl
      by_cases cf : n / 3 % 7 = γ 0
      · rw [if_pos (show nI (n / 3 % 7) = nI (γ 0) by rw [cf])]
        left
        have hbd : rd_bd (γ 0) (rd_d n) := ⟨by rw [hfr]; omega, hbd6.2⟩
        have hr := hS (rd_d n) hbd (by rw [hed]; omega)
        rw [hed, cn] at hr
        refine ⟨c, rfl, rd_rc_off hr (by rw [hfr]; omega), ?_⟩
        intro t' ht' hoff
        obtain ⟨l, y, g1, g2, g3⟩ := hoff
        have := rd_all (h := hb) (c := c) (T := t) (fun x hx hlt => hE x hx (Or.inl hlt)) l x0 y 0 hx0 (by omega) g1 (by omega)
        have h2 := (hE y this.1 (Or.inl (by omega))).1
        omega
      · have hneq : ¬ nI (n / 3 % 7) = nI (γ 0) := fun z => cf ((nI_eq (by omega) (by omega)).mp z)
        rw [if_neg hneq]
        by_cases cb : n / 3 % 7 ≤ γ 0
        · have hbd : rd_bd (γ 0) (rd_d n) := ⟨by rw [hfr]; exact cb, hbd6.2⟩
          have hlt : (rd_d n).1 < γ 0 := by rw [hfr]; omega
          obtain ⟨c', h1, h2, h3, h4⟩ := rr_L89 (hb := hb) M h p1 p2 hbd hlt ht 8 0 rf_fu c rfl (by unfold rf_fu; omega) hC
          rw [hed] at h1
          have h1 : f_X3_leastFrom_L89 (ra_nf M) (ra_st γ κ τ) p1 p2 (nI (if hb then 1 else 0)) (nI t) (nI n) rf_fu 0 (ra_nf c) = _ := h1
          rw [h1, Option.bind_some, ra_te_p, Option.bind_some]
          have hle : ∀ q, c q ≤ t → c' q = c q := fun q hq => by
            rcases h4 q with z | ⟨b, b1, b2, b3⟩
            · exact z
            · have := h2 q
              omega
          have hr0 := hS (rd_d n) hbd (by rw [hed]; omega)
          rw [hed, cn] at hr0
          refine ih m c' (by omega) (by omega) ⟨fun q hq => Nat.le_trans (h2 q) (hC q hq), ?_, ?_, ?_, ?_⟩
          · intro x hx hlt9
            rcases h4 (rd_e x) with z | ⟨b, b1, b2, b3⟩
            · rw [z] at hlt9 ⊢
              exact hS x hx hlt9
            · have hyb := rd_st_bd (κ := κ) (τ := τ) hbd hlt b1
              have ex := rd_e_inj h6 hyb hx b2
              rw [b3, ← ex]
              exact rd_rc_s hr0 hlt b1
          · intro x hx hcase
            have hcx : c (rd_e x) ≤ t ∧ (c (rd_e x) < t ∨ n ≤ rd_e x) ∧ c' (rd_e x) = c (rd_e x) := by
              rcases h4 (rd_e x) with z | ⟨b, b1, b2, b3⟩
              · rw [z] at hcase
                rcases hcase with z1 | ⟨z1, z2⟩
                · exact ⟨by omega, Or.inl z1, z⟩
                · exact ⟨by omega, Or.inr z2, z⟩
              · have h8 := rd_c_le hb b
                have hle2 := h2 (rd_e x)
                rcases hcase with z1 | ⟨z1, z2⟩
                · omega
                · have hc0 : rd_c hb b = 0 := by omega
                  have b7 : b = 7 := by
                    by_cases e : b = 7
                    · exact e
                    · have := rd_c_pos (h := hb) e
                      omega
                  subst b7
                  have hw := rd_e_wait hbd
                  have hst : rd_st γ κ τ 7 (rd_d n) = ((rd_d n).1, (rd_d n).2.1, (rd_d n).2.2.1 - 2, (rd_d n).2.2.2 - 1) := by
                    unfold rd_st
                    rw [if_pos rfl]
                  rw [hst] at b2
                  rw [b2, hed] at hw
                  have en : rd_e x = n := by omega
                  rw [en] at z1 ⊢
                  exact ⟨by omega, Or.inr (by omega), by omega⟩
            obtain ⟨z1, z2, z3⟩ := hcx
            by_cases en : rd_e x = n
            · have ex : x = rd_d n := by
                rw [← (rd_de h6 hx).1, en]
              rw [ex]
              refine ⟨hlt, fun a ha => ?_⟩
              have := h3 a (Nat.zero_le _) ha
              rw [hed, hle n (by omega), cn]
              exact this
            · have hE' := hE x hx (by
                rcases z2 with z2 | z2
                · exact Or.inl z2
                · by_cases e1 : c (rd_e x) < t
                  · exact Or.inl e1
                  · exact Or.inr ⟨by omega, by omega⟩)
              refine ⟨hE'.1, fun a ha => ?_⟩
              rw [z3]
              exact Nat.le_trans (h2 _) (hE'.2 a ha)
          · rw [hle _ (by omega)]
            exact hz
          · intro q hq hq2
            rcases h4 q with z | ⟨b, b1, b2, b3⟩
            · rw [z]
              exact hN q hq hq2
            · have hyb := rd_st_bd (κ := κ) (τ := τ) hbd hlt b1
              have := (rd_de h6 hyb).1
              rw [b2] at this
              rw [this] at hq2
              have := hyb.1
              omega
        · have := hN n (by omega) (by rw [hfr]; omega)
          omega
    · have hneq : ¬ nI (c n) = nI t := fun z => cn ((nI_eq (by omega) (by omega)).mp z)
      rw [if_neg hneq, ra_te_p, Option.bind_some]
      refine ih m c (by omega) (by omega) ⟨hC, hS, fun x hx hcase => ?_, hz, hN⟩
      refine hE x hx ?_
      rcases hcase with z | ⟨z1, z2⟩
      · exact Or.inl z
      · right
        refine ⟨z1, ?_⟩
        by_cases en : rd_e x = n
        · rw [en] at z1
          exact absurd z1 cn
        · omega
theorem rr_L36 (M : Nat → Nat) (h : ra_ok γ κ τ) (p1 : Int32) {hb : Bool} {x0 : rd_X} (hx0 : rd_bd (γ 0) x0) {lim : Nat} (hl : lim ≤ 200) :
    ∀ (d t m : Nat) (c : Nat → Nat), t + d = lim + 1 → d < m → rd_I γ κ τ hb x0 t 13671 c →
    (∃ t0 c', f_X3_leastFrom_L36 (ra_nf M) (ra_st γ κ τ) p1 (nI lim) (nI (if hb then 1 else 0)) m (nI t) (ra_nf c) = some (Sum.inl (nI t0, ra_nf c')) ∧ t0 ≤ lim ∧ rd_off γ κ τ hb x0 t0 ∧ ∀ t', t' < t0 → ¬ rd_off γ κ τ hb x0 t') ∨
    (∃ y c', f_X3_leastFrom_L36 (ra_nf M) (ra_st γ κ τ) p1 (nI lim) (nI (if hb then 1 else 0)) m (nI t) (ra_nf c) = some (Sum.inr (y, ra_nf c')) ∧ ∀ t', t' ≤ lim → ¬ rd_off γ κ τ hb x0 t') := by
  intro d
  induction d with
  | zero =>
    intro t m c ht hm hI
    obtain ⟨m, rfl⟩ : ∃ q, m = q + 1 := ⟨m - 1, by omega⟩
    obtain rfl : t = lim + 1 := by omega
    right
    refine ⟨nI (lim + 1), c, ?_, ?_⟩
    · rw [f_X3_leastFrom_L36, if_pos (nI_lt (by omega) (by omega))]
    · intro t' ht' hoff
      obtain ⟨hC, hS, hE, hz, hN⟩ := hI
      obtain ⟨l, y, g1, g2, g3⟩ := hoff
      have := rd_all (h := hb) (c := c) (T := lim + 1) (fun x hx hlt => hE x hx (Or.inl hlt)) l x0 y 0 hx0 (by omega) g1 (by omega)
      have h2 := (hE y this.1 (Or.inl (by omega))).1
      omega
  | succ d ih =>
    intro t m c ht hm hI
    obtain ⟨m, rfl⟩ : ∃ q, m = q + 1 := ⟨m - 1, by omega⟩
    have k1 : ¬ nI lim < nI t := nI_nlt (by omega) (by omega)
    rcases rr_L47 (hb := hb) M h p1 (nI lim) hx0 (t := t) (by omega) 13671 rf_fu c (Nat.le_refl _) (by unfold rf_fu; omega) hI with ⟨c', e1, e2, e3⟩ | ⟨y, c', e1, e2⟩
    · left
      have e1 : f_X3_leastFrom_L47 (ra_nf M) (ra_st γ κ τ) p1 (nI lim) (nI (if hb then 1 else 0)) (nI t) rf_fu 13670 (ra_nf c) = _ := e1
      refine ⟨t, c', ?_, by omega, e2, e3⟩
      rw [f_X3_leastFrom_L36, if_neg k1, e1]
      rfl
    · have e1 : f_X3_leastFrom_L47 (ra_nf M) (ra_st γ κ τ) p1 (nI lim) (nI (if hb then 1 else 0)) (nI t) rf_fu 13670 (ra_nf c) = _ := e1
      obtain ⟨hC, hS, hE, hz, hN⟩ := e2
      have e4 : f_X3_leastFrom_L36 (ra_nf M) (ra_st γ κ τ) p1 (nI lim) (nI (if hb then 1 else 0)) (m + 1) (nI t) (ra_nf c) = f_X3_leastFrom_L36 (ra_nf M) (ra_st γ κ τ) p1 (nI lim) (nI (if hb then 1 else 0)) m (nI (t + 1)) (ra_nf c') := by
        rw [f_X3_leastFrom_L36, if_neg k1, e1, Option.bind_some]
        simp only [rf_sum, Option.bind_some, nI_1]
      rw [e4]
      refine ih (t + 1) m c' (by omega) (by omega) ⟨hC, hS, fun x hx hcase => hE x hx ?_, hz, hN⟩
      rcases hcase with z | ⟨z1, z2⟩
      · by_cases e : c' (rd_e x) < t
        · exact Or.inl e
        · exact Or.inr ⟨by omega, Nat.zero_le _⟩
      · have := (rd_de h.1 hx).2
        omega
theorem rr_L3 (M : Nat → Nat) (p1 p2 p3 : Int32) : ∀ (d k m : Nat) (C : Nat → Int32), k + d = 13671 → d < m → (∀ q, q < k → C q = nI 1000000000) →
    ∃ y C', f_X3_leastFrom_L3 (ra_nf M) (ra_st γ κ τ) p1 p2 p3 m (nI k) C = some (y, C') ∧ ∀ q, q < 13671 → C' q = nI 1000000000 := by
  intro d
  induction d with
  | zero =>
    intro k m C hk hm hC
    obtain ⟨m, rfl⟩ : ∃ q, m = q + 1 := ⟨m - 1, by omega⟩
    obtain rfl : k = 13671 := by omega
    refine ⟨nI 13671, C, ?_, hC⟩
    rw [f_X3_leastFrom_L3, if_pos (show (13671 : Int32) ≤ nI 13671 from nI_le (a := 13671) (b := 13671) (Nat.le_refl _) (by decide))]
  | succ d ih =>
    intro k m C hk hm hC
    obtain ⟨m, rfl⟩ : ∃ q, m = q + 1 := ⟨m - 1, by omega⟩
    have k1 : ¬ (13671 : Int32) ≤ nI k := nI_ge (b := 13671) (by omega) (by decide)
    have k2 : ¬ (nI k < 0 ∨ 13671 ≤ (nI k).toNatClampNeg) := nI_in (N := 13671) (by omega) (by decide)
    have k3 : (nI k).toNatClampNeg = k := nI_clamp (by omega)
    rw [f_X3_leastFrom_L3, if_neg k1, if_pos k2, k3, Option.bind_some, nI_1]
    exact ih (k + 1) m _ (by omega) (by omega) (fun q hq => by
      unfold upd
      by_cases e : q = k
      · rw [if_pos e]
        rfl
      · rw [if_neg e]
        exact hC q (by omega))
theorem rr_least (M : Nat → Nat) (h : ra_ok γ κ τ) (C : Nat → Int32) {hb : Bool} {x0 : rd_X} (hx0 : rd_bd (γ 0) x0) {lim : Nat} (hl : lim ≤ 200) :
    ∃ r C', f_X3_leastFrom (ra_nf M) (ra_st γ κ τ) C (nI (rd_e x0)) (nI lim) (nI (if hb then 1 else 0)) = some (r, C') ∧ rd_best γ κ τ hb x0 lim r := by
  have h6 := h.1
  obtain ⟨hde, hlt⟩ := rd_de h6 hx0
  obtain ⟨y, C1, e1, e2⟩ := rr_L3 (γ := γ) (κ := κ) (τ := τ) M (nI (rd_e x0)) (nI lim) (nI (if hb then 1 else 0)) 13671 0 rf_fu C rfl (by unfold rf_fu; omega) (fun q hq => absurd hq (Nat.not_lt_zero q))
  have e1 : f_X3_leastFrom_L3 (ra_nf M) (ra_st γ κ τ) (nI (rd_e x0)) (nI lim) (nI (if hb then 1 else 0)) rf_fu 0 C = _ := e1
  obtain ⟨z, hz⟩ := ra_fex C1
  have hC1 : C1 = ra_nf (fun q => if q < 13671 then 1000000000 else z q) := by
    funext q
    show C1 q = nI (if q < 13671 then 1000000000 else z q)
    by_cases c : q < 13671
    · rw [if_pos c, e2 q c]
    · rw [if_neg c, hz]
      rfl
  have k2 : ¬ (nI (rd_e x0) < 0 ∨ 13671 ≤ (nI (rd_e x0)).toNatClampNeg) := nI_in (N := 13671) hlt (by decide)
  have k3 : (nI (rd_e x0)).toNatClampNeg = rd_e x0 := nI_clamp (by omega)
  have hu : upd C1 (rd_e x0) 0 = ra_nf (ra_un (fun q => if q < 13671 then 1000000000 else z q) (rd_e x0) 0) := by
    rw [hC1]
    exact ra_upd _ _ 0
  have hv : ∀ q, q < 13671 → ra_un (fun q => if q < 13671 then 1000000000 else z q) (rd_e x0) 0 q = if q = rd_e x0 then 0 else 1000000000 := by
    intro q hq
    unfold ra_un
    split
    · rfl
    · exact if_pos hq
  generalize ra_un (fun q => if q < 13671 then 1000000000 else z q) (rd_e x0) 0 = c at hu hv
  have hI : rd_I γ κ τ hb x0 0 13671 c := by
    refine ⟨fun q hq => ?_, fun x hx hlt9 => ?_, fun x hx hcase => ?_, ?_, fun q hq hq2 => ?_⟩
    · rw [hv q hq]
      split <;> omega
    · have hx2 := (rd_de h6 hx).2
      rw [hv _ hx2] at hlt9 ⊢
      by_cases e : rd_e x = rd_e x0
      · rw [if_pos e, rd_e_inj h6 hx hx0 e]
        exact rd_rc_0 x0
      · rw [if_neg e] at hlt9
        omega
    · have hx2 := (rd_de h6 hx).2
      omega
    · rw [hv _ hlt, if_pos rfl]
    · rw [hv q hq, if_neg]
      intro e
      rw [e, hde] at hq2
      have := hx0.1
      omega
  unfold f_X3_leastFrom
  rw [e1, Option.bind_some, if_pos k2, k3]
  rcases rr_L36 (hb := hb) M h (nI (rd_e x0)) hx0 hl (lim + 1) 0 rf_fu c (by omega) (by unfold rf_fu; omega) hI with ⟨t0, c', g1, g2, g3, g4⟩ | ⟨y', c', g1, g2⟩
  · have g1 : f_X3_leastFrom_L36 (ra_nf M) (ra_st γ κ τ) (nI (rd_e x0)) (nI lim) (nI (if hb then 1 else 0)) rf_fu 0 (ra_nf c) = _ := g1
    refine ⟨nI t0, ra_nf c', ?_, Or.inl ⟨t0, g2, rfl, g3, g4⟩⟩
    show (f_X3_leastFrom_L36 (ra_nf M) (ra_st γ κ τ) (nI (rd_e x0)) (nI lim) (nI (if hb then 1 else 0)) rf_fu 0 (upd C1 (rd_e x0) 0)).bind _ = _
    rw [hu, g1]
    rfl
  · have g1 : f_X3_leastFrom_L36 (ra_nf M) (ra_st γ κ τ) (nI (rd_e x0)) (nI lim) (nI (if hb then 1 else 0)) rf_fu 0 (ra_nf c) = _ := g1
    refine ⟨-9, ra_nf c', ?_, Or.inr ⟨rfl, g2⟩⟩
    show (f_X3_leastFrom_L36 (ra_nf M) (ra_st γ κ τ) (nI (rd_e x0)) (nI lim) (nI (if hb then 1 else 0)) rf_fu 0 (upd C1 (rd_e x0) 0)).bind _ = _
    rw [hu, g1]
    rfl
end RRef
