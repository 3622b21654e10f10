/-! the class's way to the least: layer by layer, to the end -/
section RLeast
variable {γ κ τ : Nat → Nat}
def rk_dn (γ κ τ : Nat → Nat) (h : Bool) (E K : rd_X → Nat → Prop) : Prop := ∀ x q a, E x q → rd_al a x → rd_kp γ κ τ a x → K (rd_st γ κ τ a x) (q + rd_c h a)
theorem rk_pop {hb : Bool} {x0 : rd_X} {mst P : Nat} {E E' K : rd_X → Nat → Prop} {g W H S : Nat → Nat} {p k : Nat} (hp : p < 558) (hw : W (P % 9 * 558 + p) = k + 1) (hI : rk_I γ κ τ hb x0 mst P E K g W H S)
    (hE : ∀ x q, E x q → E' x q) (hE6 : ∀ x q, E' x q → q ≤ P ∧ x.1 < γ 0 ∧ rd_bd (γ 0) x) (hc : ∃ y q, rd_dom y (rd_xp p k) ∧ E' y q ∧ q ≤ P) :
    rk_I γ κ τ hb x0 mst P E' K (ra_un g 0 (g 0 - 1)) (ra_un W (P % 9 * 558 + p) 0) (ra_un H (P % 9) (H (P % 9) - 1)) S ∧ 1 ≤ H (P % 9) ∧ 1 ≤ g 0 := by
  obtain ⟨⟨a1, a2⟩, ⟨a3, a4⟩, a5, a6, ⟨a7, a8⟩, a9, a10⟩ := hI
  have hm9 : P % 9 < 9 := Nat.mod_lt _ (by decide)
  have hn := rk_n_dn (W := W) (l := P % 9) hp (by omega)
  have hH := a7 _ hm9
  have hH1 : 1 ≤ H (P % 9) := by omega
  have hsm := rk_sm_up (H := H) (v := H (P % 9) - 1) hm9
  have hsm0 : H (P % 9) ≤ rk_sm H := by
    unfold rk_sm
    have : P % 9 = 0 ∨ P % 9 = 1 ∨ P % 9 = 2 ∨ P % 9 = 3 ∨ P % 9 = 4 ∨ P % 9 = 5 ∨ P % 9 = 6 ∨ P % 9 = 7 ∨ P % 9 = 8 := by omega
    rcases this with e | e | e | e | e | e | e | e | e
    all_goals rw [e]; omega
  refine ⟨⟨⟨a1, a2⟩, ⟨fun i hi => ?_, a4⟩, fun l p' k' hl hp' hw' => ?_, fun p' k' h1 h2 => ?_, ⟨fun l hl => ?_, ?_⟩, hE6, fun y q hk => ?_⟩, hH1, by omega⟩
  · unfold ra_un
    split
    · omega
    · exact a3 i hi
  · by_cases e : l * 558 + p' = P % 9 * 558 + p
    · rw [e, ra_us] at hw'
      omega
    · rw [ra_ud _ _ e] at hw'
      exact a5 l p' k' hl hp' hw'
  · obtain ⟨y, q, e1, e2, e3⟩ := a6 p' k' h1 h2
    exact ⟨y, q, hE y q e1, e2, e3⟩
  · by_cases e : l = P % 9
    · rw [e, ra_us]
      omega
    · rw [ra_ud _ _ e, rk_n_ot hp e, a7 l hl]
  · show g 0 - 1 = _
    omega
  · rcases a10 y q hk with z | ⟨y', hd, z⟩
    · exact Or.inl z
    · right
      rcases z with ⟨q', z1, z2⟩ | ⟨l, h1, h2, h3, h4, h5, h6⟩
      · exact ⟨y', hd, Or.inl ⟨q', hE y' q' z1, z2⟩⟩
      · by_cases e : l * 558 + rd_pl y' = P % 9 * 558 + p
        · have el : l = P % 9 := by omega
          have ep : rd_pl y' = p := by omega
          rw [e, hw] at h6
          have ey : rd_xp p k = y' := by
            have hx := rd_pl_xp h4 h5
            rw [ep, show y'.2.2.2 = k by omega] at hx
            exact hx
          obtain ⟨y2, q2, c1, c2, c3⟩ := hc
          rw [ey] at c1
          rw [el, rk_pr_0] at h2
          exact ⟨y2, rd_dom_t c1 hd, Or.inl ⟨q2, c2, by omega⟩⟩
        · refine ⟨y', hd, Or.inr ⟨l, h1, h2, h3, h4, h5, ?_⟩⟩
          rw [ra_ud _ _ e]
          exact h6
theorem rk_slL (hok : ra_ok γ κ τ) {hb : Bool} {x0 : rd_X} {mst P : Nat} (hm : mst ≤ 200) (hP : P ≤ 300) :
    ∀ (n m : Nat) (E K : rd_X → Nat → Prop) (g f W H S : Nat → Nat), n ≤ 558 → n < m → rk_I γ κ τ hb x0 mst P E K g W H S → rk_dn γ κ τ hb E K → (g 2 = if hb then 1 else 0) → rk_cf γ f → (∀ j, n ≤ j → j < 558 → W (P % 9 * 558 + j) = 0) →
    ∃ y E' K' g' f' W' H' S', f_X1_spreadLayer_L9 (ra_nf κ) (ra_nf τ) (nI P) (nI (P % 9)) m (ra_te n) (ra_nf g) (ra_nf f) (ra_nf W) (ra_nf H) (ra_nf S) = some (y, ra_nf g', ra_nf f', ra_nf W', ra_nf H', ra_nf S') ∧ rk_I γ κ τ hb x0 mst P E' K' g' W' H' S' ∧ rk_dn γ κ τ hb E' K' ∧ (g' 2 = if hb then 1 else 0) ∧ rk_cf γ f' ∧ (∀ y q, K y q → K' y q) ∧ (∀ j, j < 558 → W' (P % 9 * 558 + j) = 0) := by
  have hm9 : P % 9 < 9 := Nat.mod_lt _ (by decide)
  intro n
  induction n with
  | zero =>
    intro m E K g f W H S hn hm' hI hdn hg2 hcf hz
    obtain ⟨m, rfl⟩ : ∃ q, m = q + 1 := ⟨m - 1, by omega⟩
    refine ⟨ra_te 0, E, K, g, f, W, H, S, ?_, hI, hdn, hg2, hcf, fun y q h => h, fun j hj => hz j (Nat.zero_le _) hj⟩
    rw [f_X1_spreadLayer_L9, if_pos (by decide)]
  | succ p ih =>
    intro m E K g f W H S hn hm' hI hdn hg2 hcf hz
    obtain ⟨m, rfl⟩ : ∃ q, m = q + 1 := ⟨m - 1, by omega⟩
    obtain ⟨⟨a1, a2⟩, ⟨a3, a4⟩, a5, a6, ⟨a7, a8⟩, a9, a10⟩ := id hI
    have hp : p < 558 := by omega
    have hHl : H (P % 9) ≤ 558 := by rw [a7 _ hm9]; exact rk_n_le W _
    have hg0 : g 0 ≤ 5022 := by rw [a8]; exact rk_sm_le a7
    have hWp := a3 (P % 9 * 558 + p) (by omega)
    have hSp := a4 p hp
    rw [f_X1_spreadLayer_L9, ra_te_s, if_neg (nI_pos (by omega)), ra_at _ hm9 (by decide), Option.bind_some, ra_nf_ap]
    by_cases h0 : H (P % 9) = 0
    · rw [if_pos (show nI (H (P % 9)) ≤ 0 by rw [h0]; decide)]
      refine ⟨_, E, K, g, f, W, H, S, rfl, hI, hdn, hg2, hcf, fun y q h => h, fun j hj => ?_⟩
      have hc := a7 _ hm9
      rw [h0] at hc
      by_cases e : W (P % 9 * 558 + j) = 0
      · exact e
      · have := ra_cnt_ge (f := fun p => decide (W (P % 9 * 558 + p) ≠ 0)) (i := j) (decide_eq_true e) 558 hj
        unfold rk_n at hc
        omega
    · rw [if_neg (nI_nle (by omega) (by omega))]
      have e1 : nI (P % 9) * 558 + nI p = nI (P % 9 * 558 + p) := by
        show nI (P % 9) * nI 558 + nI p = _
        rw [pk_mul, nI_add]
      have hi : P % 9 * 558 + p < 5022 := by omega
      rw [e1, Option.bind_some, ra_at _ hi (by decide), Option.bind_some, ra_nf_ap, show nI (W (P % 9 * 558 + p)) - 1 = ra_te (W (P % 9 * 558 + p)) from rfl, Option.bind_some]
      have e0 : ((0 : Int32) ≤ ra_te (W (P % 9 * 558 + p))) = (0 + 1 ≤ W (P % 9 * 558 + p)) := ra_le_te (c := 0) (by omega) (by decide)
      by_cases cw : W (P % 9 * 558 + p) = 0
      · have n0 : ¬ (0 : Int32) ≤ ra_te (W (P % 9 * 558 + p)) := fun z => by rw [e0] at z; omega
        rw [if_neg n0, ra_te_p, Option.bind_some]
        exact ih m E K g f W H S (by omega) (by omega) hI hdn hg2 hcf (fun j h1 h2 => by
          by_cases e : j = p
          · rw [e]; exact cw
          · exact hz j (by omega) h2)
      · obtain ⟨k, hk⟩ : ∃ k, W (P % 9 * 558 + p) = k + 1 := ⟨W (P % 9 * 558 + p) - 1, by omega⟩
        have y0 : (0 : Int32) ≤ ra_te (W (P % 9 * 558 + p)) := by rw [e0]; omega
        rw [if_pos y0, hk, ra_te_s]
        obtain ⟨hr, hfr⟩ := a5 (P % 9) p k hm9 hp hk
        rw [rk_pr_0] at hr
        have hbd : rd_bd (γ 0) (rd_xp p k) := ⟨Nat.le_of_lt hfr, by show p / 31 % 3 ≤ 2; omega, by show p % 31 ≤ 30; omega, by show k ≤ 20; omega⟩
        have p1 : f_X2_put 5022 (ra_nf W) (nI (P % 9 * 558 + p)) 0 = some (ra_nf (ra_un W (P % 9 * 558 + p) 0)) := by
          rw [ra_put _ _ hi (by decide)]
          exact congrArg some (ra_upd W _ 0)
        have p2 : f_X2_put 9 (ra_nf H) (nI (P % 9)) (nI (H (P % 9)) - 1) = some (ra_nf (ra_un H (P % 9) (H (P % 9) - 1))) := by
          rw [ra_put _ _ hm9 (by decide), show nI (H (P % 9)) - 1 = nI (H (P % 9) - 1) from pk_sub (b := 1) (by omega), ra_upd]
        rw [p1, Option.bind_some, Option.bind_some, p2, Option.bind_some, ra_nf_ap]
        by_cases cs : k < S p
        · obtain ⟨y, q, e1, e2, e3⟩ := a6 p k hp cs
          obtain ⟨hI2, b1, b2⟩ := rk_pop (E' := E) hp hk hI (fun x q h => h) a9 ⟨y, q, e3, e1, e2⟩
          rw [show nI (g 0) - 1 = nI (g 0 - 1) from pk_sub (b := 1) b2, Option.bind_some, ra_at _ hp (by decide), Option.bind_some, ra_nf_ap, if_pos (nI_lt cs (by omega)), ra_te_p, Option.bind_some, ra_upd]
          exact ih m E K _ f _ _ S (by omega) (by omega) hI2 hdn hg2 hcf (fun j h1 h2 => by
            by_cases e : j = p
            · rw [e, ra_us]
            · rw [ra_ud _ _ (by omega)]
              exact hz j (by omega) h2)
        · obtain ⟨hI2, b1, b2⟩ := rk_pop (E' := fun x q => E x q ∨ (x = rd_xp p k ∧ q = P)) hp hk hI (fun x q h => Or.inl h) (fun x q h => by
            rcases h with h | ⟨rfl, rfl⟩
            · exact a9 x q h
            · exact ⟨Nat.le_refl _, hfr, hbd⟩) ⟨rd_xp p k, P, rd_dom_r _, Or.inr ⟨rfl, rfl⟩, Nat.le_refl _⟩
          rw [show nI (g 0) - 1 = nI (g 0 - 1) from pk_sub (b := 1) b2, Option.bind_some, ra_at _ hp (by decide), Option.bind_some, ra_nf_ap, if_neg (nI_nlt (by omega) (by omega)), ra_upd]
          obtain ⟨S', s1, s2, s3⟩ := rk_see (ra_un g 0 (g 0 - 1)) hp (show k ≤ 20 by omega) S a4 (by omega)
          rw [s1, Option.bind_some]
          have hI3 : rk_I γ κ τ hb x0 mst P (fun x q => E x q ∨ (x = rd_xp p k ∧ q = P)) K (ra_un g 0 (g 0 - 1)) (ra_un W (P % 9 * 558 + p) 0) (ra_un H (P % 9) (H (P % 9) - 1)) S' := by
            obtain ⟨c1, ⟨c3, c4⟩, c5, c6, c7, c8, c9⟩ := hI2
            refine ⟨c1, ⟨c3, fun j hj => ?_⟩, c5, fun p' k' h1 h2 => ?_, c7, c8, c9⟩
            · rcases s2 j with z | ⟨z, _⟩
              · rw [z]; exact c4 j hj
              · omega
            · rcases s2 p' with z | ⟨z, i', z1, z2⟩
              · rw [z] at h2
                exact c6 p' k' h1 h2
              · refine ⟨rd_xp p k, P, Or.inr ⟨rfl, rfl⟩, Nat.le_refl _, ?_, ?_, ?_, ?_⟩
                · show p' / 31 / 3 ≤ p / 31 / 3
                  have : p' / 31 = p / 31 := by omega
                  rw [this]
                  exact Nat.le_refl _
                · show p / 31 % 3 ≤ p' / 31 % 3
                  have : p' / 31 = p / 31 := by omega
                  rw [this]
                  exact Nat.le_refl _
                · show p % 31 ≤ p' % 31
                  omega
                · show k' ≤ k
                  omega
          obtain ⟨K', g', f', W', H', t1, t2, t3, t4, t5, t6, t7⟩ := rk_spread hok hm hP hp (show k ≤ 20 by omega) hfr hr hI3 hg2 hcf (by omega)
          rw [t1, Option.bind_some, ra_te_p, Option.bind_some]
          have hdn' : rk_dn γ κ τ hb (fun x q => E x q ∨ (x = rd_xp p k ∧ q = P)) K' := by
            intro x q a h1 h2 h3
            rcases h1 with h1 | ⟨rfl, rfl⟩
            · exact t5 _ _ (hdn x q a h1 h2 h3)
            · exact t6 a h2 h3
          obtain ⟨y, E2, K2, g2, f2, W2, H2, S2, u1, u2, u3, u4, u5, u6, u7⟩ := ih m _ K' g' f' W' H' S' (by omega) (by omega) t4 hdn' t2 t3 (fun j h1 h2 => by
            rw [t7 j h1 h2]
            by_cases e : j = p
            · rw [e, ra_us]
            · rw [ra_ud _ _ (by omega)]
              exact hz j (by omega) h2)
          exact ⟨y, E2, K2, g2, f2, W2, H2, S2, u1, u2, u3, u4, u5, fun y q h => u6 y q (t5 y q h), u7⟩
theorem rk_next {hb : Bool} {x0 : rd_X} {mst P : Nat} {E K : rd_X → Nat → Prop} {g W H S : Nat → Nat} (hI : rk_I γ κ τ hb x0 mst P E K g W H S) (hz : ∀ j, j < 558 → W (P % 9 * 558 + j) = 0) : rk_I γ κ τ hb x0 mst (P + 1) E K g W H S := by
  obtain ⟨a1, a2, a5, a6, a7, a9, a10⟩ := hI
  refine ⟨a1, a2, fun l p k hl hp hw => ?_, fun p k h1 h2 => ?_, a7, fun x q h => ?_, fun y q hk => ?_⟩
  · by_cases e : l = P % 9
    · rw [e, hz p hp] at hw
      omega
    · rw [rk_pr_s hl e]
      exact a5 l p k hl hp hw
  · obtain ⟨y, q, e1, e2, e3⟩ := a6 p k h1 h2
    exact ⟨y, q, e1, by omega, e3⟩
  · obtain ⟨e1, e2⟩ := a9 x q h
    exact ⟨by omega, e2⟩
  · rcases a10 y q hk with z | ⟨y', hd, z⟩
    · exact Or.inl z
    · right
      rcases z with z | ⟨l, h1, h2, h3, h4, h5, h6⟩
      · exact ⟨y', hd, Or.inl z⟩
      · by_cases e : l = P % 9
        · rw [e, hz _ h3] at h6
          omega
        · exact ⟨y', hd, Or.inr ⟨l, h1, by rw [rk_pr_s h1 e]; exact h2, h3, h4, h5, h6⟩⟩
/-- at the end the best is the least -/
theorem rk_end {hb : Bool} {x0 : rd_X} {mst P : Nat} {E K : rd_X → Nat → Prop} {g W H S : Nat → Nat} (hI : rk_I γ κ τ hb x0 mst P E K g W H S) (hdn : rk_dn γ κ τ hb E K) (h0 : K x0 0) (hx0 : rd_bd (γ 0) x0) (hs : g 1 ≤ P ∨ g 0 = 0) : ∀ t, rd_off γ κ τ hb x0 t → g 1 ≤ t := by
  obtain ⟨⟨a1, a2⟩, ⟨a3, a4⟩, a5, a6, ⟨a7, a8⟩, a9, a10⟩ := hI
  have hCv : ∀ y q, K y q → g 1 ≤ q ∨ ∃ y' q', rd_dom y' y ∧ E y' q' ∧ q' ≤ q := by
    intro y q hk
    rcases a10 y q hk with z | ⟨y', hd, z⟩
    · exact Or.inl z
    · rcases z with ⟨q', z1, z2⟩ | ⟨l, h1, h2, h3, h4, h5, h6⟩
      · exact Or.inr ⟨y', q', hd, z1, z2⟩
      · left
        have hp := (rk_pr_le P l).1
        rcases hs with hs | hs
        · omega
        · exfalso
          have hH0 : H l = 0 := by
            unfold rk_sm at a8
            have : l = 0 ∨ l = 1 ∨ l = 2 ∨ l = 3 ∨ l = 4 ∨ l = 5 ∨ l = 6 ∨ l = 7 ∨ l = 8 := by omega
            rcases this with e | e | e | e | e | e | e | e | e
            all_goals rw [e]; omega
          have hc := a7 l h1
          have := ra_cnt_ge (f := fun p => decide (W (l * 558 + p) ≠ 0)) (i := rd_pl y') (decide_eq_true (by omega)) 558 h3
          unfold rk_n at hc
          omega
  intro t hoff
  obtain ⟨l, y, g1, g2, g3⟩ := hoff
  rcases hCv x0 0 h0 with z | ⟨y', q', z1, z2, z3⟩
  · omega
  · have := rd_fin (h := hb) (best := g 1) (E := E) (fun x p hE => ⟨(a9 x p hE).2.1, (a9 x p hE).2.2, fun a ha hka => hCv _ _ (hdn x p a hE ha hka)⟩) l x0 y y' q' z2 z1 hx0 g1 g2
    omega
theorem rk_L43 (hok : ra_ok γ κ τ) {hb : Bool} {x0 : rd_X} {mst : Nat} (hm : mst ≤ 200) (hx0 : rd_bd (γ 0) x0) (o1 o2 o3 : Nat → Int32) (q2 q3 q4 : Int32) :
    ∀ (d P m : Nat) (E K : rd_X → Nat → Prop) (g f W H S : Nat → Nat), P + d = mst + 1 → d < m → rk_I γ κ τ hb x0 mst P E K g W H S → rk_dn γ κ τ hb E K → K x0 0 → (g 2 = if hb then 1 else 0) → rk_cf γ f →
    ∃ y g' f' W' H' S', f_X1_least_L43 o1 o2 o3 q2 q3 q4 (ra_nf κ) (ra_nf τ) m (nI P) (ra_nf g) (ra_nf f) (ra_nf W) (ra_nf H) (ra_nf S) = some (y, ra_nf g', ra_nf f', ra_nf W', ra_nf H', ra_nf S') ∧ g' 1 ≤ mst + 1 ∧ (g' 1 = mst + 1 ∨ rd_off γ κ τ hb x0 (g' 1)) ∧ ∀ t, rd_off γ κ τ hb x0 t → g' 1 ≤ t := by
  intro d
  induction d with
  | zero =>
    intro P m E K g f W H S hd hm' hI hdn h0 hg2 hcf
    obtain ⟨m, rfl⟩ : ∃ q, m = q + 1 := ⟨m - 1, by omega⟩
    have hI' := hI
    obtain ⟨⟨a1, a2⟩, -⟩ := hI'
    refine ⟨nI P, g, f, W, H, S, ?_, a1, a2, rk_end hI hdn h0 hx0 (Or.inl (by omega))⟩
    rw [f_X1_least_L43, ra_nf_ap, if_pos (nI_le (by omega) (by omega))]
  | succ d ih =>
    intro P m E K g f W H S hd hm' hI hdn h0 hg2 hcf
    obtain ⟨m, rfl⟩ : ∃ q, m = q + 1 := ⟨m - 1, by omega⟩
    have hI' := hI
    obtain ⟨⟨a1, a2⟩, ⟨a3, a4⟩, a5, a6, ⟨a7, a8⟩, a9, a10⟩ := hI'
    have hg0 : g 0 ≤ 5022 := by rw [a8]; exact rk_sm_le a7
    rw [f_X1_least_L43, ra_nf_ap, ra_nf_ap]
    by_cases c1 : g 1 ≤ P
    · rw [if_pos (nI_le c1 (by omega))]
      exact ⟨_, g, f, W, H, S, rfl, a1, a2, rk_end hI hdn h0 hx0 (Or.inl c1)⟩
    · rw [if_neg (nI_ge (by omega) (by omega))]
      by_cases c0 : g 0 = 0
      · rw [if_pos (show nI (g 0) ≤ 0 by rw [c0]; decide)]
        exact ⟨_, g, f, W, H, S, rfl, a1, a2, rk_end hI hdn h0 hx0 (Or.inr c0)⟩
      · rw [if_neg (nI_nle (by omega) (by omega))]
        obtain ⟨y, E', K', g', f', W', H', S', u1, u2, u3, u4, u5, u6, u7⟩ := rk_slL hok hm (P := P) (by omega) 558 rf_fu E K g f W H S (Nat.le_refl _) (by unfold rf_fu; omega) hI hdn hg2 hcf (fun j h1 h2 => by omega)
        have hrem : rf_rem (nI P) 9 = nI (P % 9) := pk_rem (d := 9) (by omega) (by decide) (by decide)
        have u1 : f_X1_spreadLayer_L9 (ra_nf κ) (ra_nf τ) (nI P) (nI (P % 9)) rf_fu 557 (ra_nf g) (ra_nf f) (ra_nf W) (ra_nf H) (ra_nf S) = _ := u1
        have hsl : f_X1_spreadLayer (ra_nf g) (ra_nf f) (ra_nf κ) (ra_nf τ) (ra_nf W) (ra_nf H) (ra_nf S) (nI P) = some (ra_nf g', ra_nf f', ra_nf W', ra_nf H', ra_nf S') := by
          unfold f_X1_spreadLayer
          rw [hrem, Option.bind_some, u1]
          rfl
        rw [hsl, Option.bind_some, nI_1, Option.bind_some]
        exact ih (P + 1) m E' K' g' f' W' H' S' (by omega) (by omega) (rk_next u2 u7) u3 (u6 _ _ h0) u4 u5
theorem rk_clr (n : Nat) (C : Nat → Int32) (hC : ∀ q, q < n → C q = nI 0) : ∃ c : Nat → Nat, C = ra_nf c ∧ ∀ q, q < n → c q = 0 := by
  obtain ⟨z, hz⟩ := ra_fex C
  refine ⟨fun q => if q < n then 0 else z q, ?_, fun q hq => if_pos hq⟩
  funext q
  show C q = nI (if q < n then 0 else z q)
  by_cases c : q < n
  · rw [if_pos c, hC q c]
  · rw [if_neg c, hz]
    rfl
theorem rk_cl2 (a b c : Nat → Int32) : ∀ (d k m : Nat) (C : Nat → Int32), k + d = 9 → d < m → (∀ q, q < k → C q = nI 0) → ∃ y C', f_X1_clear_L2 a b c m (nI k) C = some (y, C') ∧ ∀ q, q < 9 → C' q = nI 0 := by
  intro d
  induction d with
  | zero =>
    intro k m C hk hm hC
    obtain ⟨m, rfl⟩ : ∃ q, m = q + 1 := ⟨m - 1, by omega⟩
    obtain rfl : k = 9 := by omega
    refine ⟨nI 9, C, ?_, hC⟩
    rw [f_X1_clear_L2, if_pos (by decide)]
  | succ d ih =>
    intro k m C hk hm hC
    obtain ⟨m, rfl⟩ : ∃ q, m = q + 1 := ⟨m - 1, by omega⟩
    have k3 : (nI k).toNatClampNeg = k := nI_clamp (by omega)
    rw [f_X1_clear_L2, if_neg (show ¬ (9 : Int32) ≤ nI k from nI_ge (b := 9) (by omega) (by decide)), if_pos (nI_in (N := 9) (by omega) (by decide)), k3, Option.bind_some, nI_1]
    exact ih (k + 1) m _ (by omega) (by omega) (fun q hq => by
      unfold upd
      by_cases e : q = k
      · rw [if_pos e]
        rfl
      · rw [if_neg e]
        exact hC q (by omega))
theorem rk_cl26 (a b c : Nat → Int32) : ∀ (d k m : Nat) (C : Nat → Int32), k + d = 5022 → d < m → (∀ q, q < k → C q = nI 0) → ∃ y C', f_X1_clear_L26 a b c m (nI k) C = some (y, C') ∧ ∀ q, q < 5022 → C' q = nI 0 := by
  intro d
  induction d with
  | zero =>
    intro k m C hk hm hC
    obtain ⟨m, rfl⟩ : ∃ q, m = q + 1 := ⟨m - 1, by omega⟩
    obtain rfl : k = 5022 := by omega
    refine ⟨nI 5022, C, ?_, hC⟩
    rw [f_X1_clear_L26, if_pos (show (5022 : Int32) ≤ nI 5022 from nI_le (a := 5022) (b := 5022) (Nat.le_refl _) (by decide))]
  | succ d ih =>
    intro k m C hk hm hC
    obtain ⟨m, rfl⟩ : ∃ q, m = q + 1 := ⟨m - 1, by omega⟩
    have k3 : (nI k).toNatClampNeg = k := nI_clamp (by omega)
    rw [f_X1_clear_L26, if_neg (show ¬ (5022 : Int32) ≤ nI k from nI_ge (b := 5022) (by omega) (by decide)), if_pos (nI_in (N := 5022) (by omega) (by decide)), k3, Option.bind_some, nI_1]
    exact ih (k + 1) m _ (by omega) (by omega) (fun q hq => by
      unfold upd
      by_cases e : q = k
      · rw [if_pos e]
        rfl
      · rw [if_neg e]
        exact hC q (by omega))
theorem rk_cl50 (a b c : Nat → Int32) : ∀ (d k m : Nat) (C : Nat → Int32), k + d = 558 → d < m → (∀ q, q < k → C q = nI 0) → ∃ y C', f_X1_clear_L50 a b c m (nI k) C = some (y, C') ∧ ∀ q, q < 558 → C' q = nI 0 := by
  intro d
  induction d with
  | zero =>
    intro k m C hk hm hC
    obtain ⟨m, rfl⟩ : ∃ q, m = q + 1 := ⟨m - 1, by omega⟩
    obtain rfl : k = 558 := by omega
    refine ⟨nI 558, C, ?_, hC⟩
    rw [f_X1_clear_L50, if_pos (show (558 : Int32) ≤ nI 558 from nI_le (a := 558) (b := 558) (Nat.le_refl _) (by decide))]
  | succ d ih =>
    intro k m C hk hm hC
    obtain ⟨m, rfl⟩ : ∃ q, m = q + 1 := ⟨m - 1, by omega⟩
    have k3 : (nI k).toNatClampNeg = k := nI_clamp (by omega)
    rw [f_X1_clear_L50, if_neg (show ¬ (558 : Int32) ≤ nI k from nI_ge (b := 558) (by omega) (by decide)), if_pos (nI_in (N := 558) (by omega) (by decide)), k3, Option.bind_some, nI_1]
    exact ih (k + 1) m _ (by omega) (by omega) (fun q hq => by
      unfold upd
      by_cases e : q = k
      · rw [if_pos e]
        rfl
      · rw [if_neg e]
        exact hC q (by omega))
theorem rk_clear (g w h s : Nat → Int32) : ∃ W H S : Nat → Nat, f_X1_clear g w h s = some (upd g 0 0, ra_nf W, ra_nf H, ra_nf S) ∧ (∀ q, q < 5022 → W q = 0) ∧ (∀ q, q < 9 → H q = 0) ∧ (∀ q, q < 558 → S q = 0) := by
  obtain ⟨y1, C1, e1, h1⟩ := rk_cl2 g w s 9 0 rf_fu h rfl (by unfold rf_fu; omega) (fun q hq => absurd hq (Nat.not_lt_zero q))
  obtain ⟨y2, C2, e2, h2⟩ := rk_cl26 g C1 s 5022 0 rf_fu w rfl (by unfold rf_fu; omega) (fun q hq => absurd hq (Nat.not_lt_zero q))
  obtain ⟨y3, C3, e3, h3⟩ := rk_cl50 g C2 C1 558 0 rf_fu s rfl (by unfold rf_fu; omega) (fun q hq => absurd hq (Nat.not_lt_zero q))
  have e1 : f_X1_clear_L2 g w s rf_fu 0 h = _ := e1
  have e2 : f_X1_clear_L26 g C1 s rf_fu 0 w = _ := e2
  have e3 : f_X1_clear_L50 g C2 C1 rf_fu 0 s = _ := e3
  obtain ⟨H, rfl, hH⟩ := rk_clr 9 C1 h1
  obtain ⟨W, rfl, hW⟩ := rk_clr 5022 C2 h2
  obtain ⟨S, rfl, hS⟩ := rk_clr 558 C3 h3
  refine ⟨W, H, S, ?_, hW, hH, hS⟩
  unfold f_X1_clear
  simp only [e1, Option.bind_some, e2, e3]
/-- the class's least -/
theorem rc_least (hok : ra_ok γ κ τ) (g f kk tt w h s : Nat → Int32) {hb : Bool} {mst used : Nat} (hm : mst ≤ 200) (hu : used ≤ 2) :
    ∃ r b1 b2 b3 b4 b5 b6 b7, f_X1_least g f kk tt w h s (ra_nf γ) (ra_nf κ) (ra_nf τ) (nI used) (nI (if hb then 1 else 0)) (nI mst) = some (r, b1, b2, b3, b4, b5, b6, b7) ∧ rd_best γ κ τ hb (γ 3, used, γ 4, γ 5) mst r := by
  obtain ⟨h0, h1, h2, h3, h4, h5, h6, h7, h8, h9, h10, h11⟩ := id hok
  unfold f_X1_least
  rw [rc_isOff γ (by omega) (by omega)]
  by_cases ho : γ 3 < γ 0
  · rw [if_pos ho, Option.bind_some, if_pos (show nI 0 = 0 from rfl)]
    obtain ⟨W, H, S, e1, hW, hH, hS⟩ := rk_clear g w h s
    have hx0 : rd_bd (γ 0) (γ 3, used, γ 4, γ 5) := ⟨h1, hu, h6, h7⟩
    have hbit : nI (if hb then 1 else 0) &&& 1 = nI (if hb then 1 else 0) := ra_b01
    obtain ⟨z, rfl⟩ := ra_fex g
    have hg : upd (upd (upd (ra_nf z) 0 0) 2 (nI (if hb then 1 else 0))) 1 (nI mst + 1) = ra_nf (ra_un (ra_un (ra_un z 0 0) 2 (if hb then 1 else 0)) 1 (mst + 1)) := by
      rw [nI_1, show (0 : Int32) = nI 0 from rfl, ra_upd, ra_upd, ra_upd]
    have g1 : (ra_un (ra_un (ra_un z 0 0) 2 (if hb then 1 else 0)) 1 (mst + 1)) 1 = mst + 1 := rfl
    have g0 : (ra_un (ra_un (ra_un z 0 0) 2 (if hb then 1 else 0)) 1 (mst + 1)) 0 = 0 := rfl
    have g2 : (ra_un (ra_un (ra_un z 0 0) 2 (if hb then 1 else 0)) 1 (mst + 1)) 2 = (if hb then 1 else 0) := rfl
    generalize ra_un (ra_un (ra_un z 0 0) 2 (if hb then 1 else 0)) 1 (mst + 1) = g' at hg g1 g0 g2
    have hz9 : ∀ l, l < 9 → rk_n W l = 0 := by
      intro l hl
      unfold rk_n
      have : ∀ n, n ≤ 558 → ra_cnt (fun p => decide (W (l * 558 + p) ≠ 0)) n = 0 := by
        intro n
        induction n with
        | zero => intro _; rfl
        | succ n ih =>
          intro hn
          unfold ra_cnt
          rw [ih (by omega), hW (l * 558 + n) (by omega)]
          rfl
      exact this 558 (Nat.le_refl _)
    have hI : rk_I γ κ τ hb (γ 3, used, γ 4, γ 5) mst 0 (fun _ _ => False) (fun _ _ => False) g' W H S := by
      refine ⟨⟨by omega, Or.inl g1⟩, ⟨fun i hi => by rw [hW i hi]; omega, fun i hi => by rw [hS i hi]; omega⟩, fun l p k hl hp hw => ?_, fun p k hp hk => ?_, ⟨fun l hl => by rw [hH l hl, hz9 l hl], ?_⟩, fun x q hf => hf.elim, fun y q hf => hf.elim⟩
      · rw [hW _ (by omega)] at hw
        omega
      · rw [hS p hp] at hk
        omega
      · unfold rk_sm
        rw [hH 0 (by decide), hH 1 (by decide), hH 2 (by decide), hH 3 (by decide), hH 4 (by decide), hH 5 (by decide), hH 6 (by decide), hH 7 (by decide), hH 8 (by decide), g0]
    have hcf : rk_cf γ γ := ⟨rfl, rfl, rfl, rfl, h8⟩
    obtain ⟨ga, Wa, Ha, a1, a2, a3, a4, a5⟩ := rk_arrive hok hI hm hcf (price := 0) (used := used) (Nat.le_refl _) (by omega) (by omega) hu h1 h6 h7 (rd_rc_0 _)
    have a1 : f_X1_arrive (ra_nf g') (ra_nf γ) (ra_nf W) (ra_nf H) (ra_nf S) 0 (nI used) = _ := a1
    obtain ⟨y, gb, fb, Wb, Hb, Sb, c1, c2, c3, c4⟩ := rk_L43 hok hm hx0 (ra_nf γ) (ra_nf κ) (ra_nf τ) (nI used) (nI (if hb then 1 else 0)) (nI mst) (mst + 1) 0 rf_fu _ _ ga γ Wa Ha S (by omega) (by unfold rf_fu; omega) a3 (fun x q a hf => hf.elim) (Or.inr ⟨rfl, rfl⟩) (by rw [a2]; exact g2) hcf
    have c1 : f_X1_least_L43 (ra_nf γ) (ra_nf κ) (ra_nf τ) (nI used) (nI (if hb then 1 else 0)) (nI mst) (ra_nf κ) (ra_nf τ) rf_fu 0 (ra_nf ga) (ra_nf γ) (ra_nf Wa) (ra_nf Ha) (ra_nf S) = _ := c1
    rw [e1, Option.bind_some, rc_copy, Option.bind_some, if_pos hbit, Option.bind_some]
    show ∃ r b1 b2 b3 b4 b5 b6 b7, ((f_X1_arrive (upd (upd (upd (ra_nf z) 0 0) 2 (nI (if hb then 1 else 0))) 1 (nI mst + 1)) (ra_nf γ) (ra_nf W) (ra_nf H) (ra_nf S) 0 (nI used)).bind _) = some (r, b1, b2, b3, b4, b5, b6, b7) ∧ _
    rw [hg, a1, Option.bind_some]
    show ∃ r b1 b2 b3 b4 b5 b6 b7, ((f_X1_least_L43 (ra_nf γ) (ra_nf κ) (ra_nf τ) (nI used) (nI (if hb then 1 else 0)) (nI mst) (ra_nf κ) (ra_nf τ) rf_fu 0 (ra_nf ga) (ra_nf γ) (ra_nf Wa) (ra_nf Ha) (ra_nf S)).bind _) = some (r, b1, b2, b3, b4, b5, b6, b7) ∧ _
    rw [c1, Option.bind_some]
    show ∃ r b1 b2 b3 b4 b5 b6 b7, (if nI mst < ra_nf gb 1 then _ else _) = some (r, b1, b2, b3, b4, b5, b6, b7) ∧ _
    rw [ra_nf_ap]
    by_cases cm : mst < gb 1
    · rw [if_pos (nI_lt cm (by omega))]
      refine ⟨_, _, _, _, _, _, _, _, rfl, Or.inr ⟨rfl, fun t ht hoff => ?_⟩⟩
      have := c4 t hoff
      omega
    · rw [if_neg (nI_nlt (by omega) (by omega))]
      refine ⟨_, _, _, _, _, _, _, _, rfl, Or.inl ⟨gb 1, by omega, rfl, ?_, fun t ht hoff => ?_⟩⟩
      · rcases c3 with c3 | c3
        · omega
        · exact c3
      · have := c4 t hoff
        omega
  · rw [if_neg ho, Option.bind_some, if_neg (show ¬ nI 1 = 0 by decide)]
    refine ⟨_, _, _, _, _, _, _, _, rfl, Or.inl ⟨0, Nat.zero_le _, rfl, ⟨[], (γ 3, used, γ 4, γ 5), rfl, ?_, rfl⟩, fun t ht => absurd ht (Nat.not_lt_zero t)⟩⟩
    show γ 0 ≤ γ 3
    omega
end RLeast
