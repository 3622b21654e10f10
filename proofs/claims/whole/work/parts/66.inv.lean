/-! the class's way to the least: what holds of its rows -/
section RInv
def rk_pr (P l : Nat) : Nat := P + (l + 9 - P % 9) % 9
theorem rk_pr_m {P q : Nat} (h1 : P ≤ q) (h2 : q ≤ P + 8) : rk_pr P (q % 9) = q := by
  unfold rk_pr
  omega
theorem rk_pr_le (P l : Nat) : P ≤ rk_pr P l ∧ rk_pr P l ≤ P + 8 := by
  unfold rk_pr
  omega
theorem rk_pr_0 {P : Nat} : rk_pr P (P % 9) = P := by
  unfold rk_pr
  omega
theorem rk_pr_s {P l : Nat} (hl : l < 9) (h : l ≠ P % 9) : rk_pr (P + 1) l = rk_pr P l := by
  unfold rk_pr
  omega
def rk_n (W : Nat → Nat) (l : Nat) : Nat := ra_cnt (fun p => decide (W (l * 558 + p) ≠ 0)) 558
def rk_sm (H : Nat → Nat) : Nat := H 0 + H 1 + H 2 + H 3 + H 4 + H 5 + H 6 + H 7 + H 8
theorem ra_cnt_ge {f : Nat → Bool} {i : Nat} (hf : f i = true) : ∀ n, i < n → 1 ≤ ra_cnt f n := by
  intro n
  induction n with
  | zero => intro h; omega
  | succ n ih =>
    intro h
    unfold ra_cnt
    by_cases e : i = n
    · subst e
      rw [if_pos hf]
      omega
    · have := ih (by omega)
      omega
theorem ra_cnt_up {f g : Nat → Bool} {i : Nat} (hf : f i = false) (hg : g i = true) (h : ∀ j, j ≠ i → f j = g j) : ∀ n, i < n → ra_cnt g n = ra_cnt f n + 1 := by
  intro n
  induction n with
  | zero => intro h; omega
  | succ n ih =>
    intro hn
    unfold ra_cnt
    by_cases e : i = n
    · subst e
      rw [if_pos hg, hf, ra_cnt_congr (f := g) (g := f) i (fun j hj => (h j (by omega)).symm)]
      rfl
    · rw [ih (by omega), h n (by omega)]
      omega
theorem rk_n_up {W : Nat → Nat} {l p v : Nat} (hp : p < 558) (h0 : W (l * 558 + p) = 0) (hv : v ≠ 0) : rk_n (ra_un W (l * 558 + p) v) l = rk_n W l + 1 := by
  unfold rk_n
  refine ra_cnt_up (i := p) ?_ ?_ ?_ 558 hp
  · show decide (W (l * 558 + p) ≠ 0) = false
    rw [h0]
    rfl
  · show decide (ra_un W (l * 558 + p) v (l * 558 + p) ≠ 0) = true
    rw [ra_us]
    exact decide_eq_true hv
  · intro j hj
    show decide (W (l * 558 + j) ≠ 0) = decide (ra_un W (l * 558 + p) v (l * 558 + j) ≠ 0)
    rw [ra_ud _ _ (by omega)]
theorem rk_n_dn {W : Nat → Nat} {l p : Nat} (hp : p < 558) (h0 : W (l * 558 + p) ≠ 0) : rk_n W l = rk_n (ra_un W (l * 558 + p) 0) l + 1 := by
  unfold rk_n
  refine ra_cnt_up (i := p) ?_ ?_ ?_ 558 hp
  · show decide (ra_un W (l * 558 + p) 0 (l * 558 + p) ≠ 0) = false
    rw [ra_us]
    rfl
  · exact decide_eq_true h0
  · intro j hj
    show decide (ra_un W (l * 558 + p) 0 (l * 558 + j) ≠ 0) = decide (W (l * 558 + j) ≠ 0)
    rw [ra_ud _ _ (by omega)]
theorem rk_n_sm {W : Nat → Nat} {l p v : Nat} (hp : p < 558) (h0 : W (l * 558 + p) ≠ 0) (hv : v ≠ 0) : rk_n (ra_un W (l * 558 + p) v) l = rk_n W l := by
  unfold rk_n
  refine ra_cnt_congr 558 (fun j hj => ?_)
  by_cases e : j = p
  · subst e
    rw [ra_us, decide_eq_true hv, decide_eq_true h0]
  · rw [ra_ud _ _ (by omega)]
theorem rk_n_ot {W : Nat → Nat} {l l' p v : Nat} (hp : p < 558) (h : l' ≠ l) : rk_n (ra_un W (l * 558 + p) v) l' = rk_n W l' := by
  unfold rk_n
  refine ra_cnt_congr 558 (fun j hj => ?_)
  rw [ra_ud _ _ (by omega)]
theorem rk_n_le (W : Nat → Nat) (l : Nat) : rk_n W l ≤ 558 := ra_cnt_le _ _
theorem rk_sm_up {H : Nat → Nat} {l v : Nat} (hl : l < 9) : rk_sm (ra_un H l v) + H l = rk_sm H + v := by
  unfold rk_sm ra_un
  have : l = 0 ∨ l = 1 ∨ l = 2 ∨ l = 3 ∨ l = 4 ∨ l = 5 ∨ l = 6 ∨ l = 7 ∨ l = 8 := by omega
  rcases this with rfl | rfl | rfl | rfl | rfl | rfl | rfl | rfl | rfl
  all_goals simp
  all_goals omega
def rk_Cv (P : Nat) (E : rd_X → Nat → Prop) (W : Nat → Nat) (best : Nat) (y : rd_X) (q : Nat) : Prop :=
  best ≤ q ∨ ∃ y', rd_dom y' y ∧ ((∃ q', E y' q' ∧ q' ≤ q) ∨ (∃ l, l < 9 ∧ rk_pr P l ≤ q ∧ rd_pl y' < 558 ∧ y'.2.1 ≤ 2 ∧ y'.2.2.1 ≤ 30 ∧ W (l * 558 + rd_pl y') = y'.2.2.2 + 1))
def rk_I (γ κ τ : Nat → Nat) (h : Bool) (x0 : rd_X) (mst P : Nat) (E K : rd_X → Nat → Prop) (g W H S : Nat → Nat) : Prop :=
  (g 1 ≤ mst + 1 ∧ (g 1 = mst + 1 ∨ rd_off γ κ τ h x0 (g 1))) ∧
  ((∀ i, i < 5022 → W i ≤ 21) ∧ (∀ i, i < 558 → S i ≤ 21)) ∧
  (∀ l p k, l < 9 → p < 558 → W (l * 558 + p) = k + 1 → rd_rc γ κ τ h x0 (rd_xp p k) (rk_pr P l) ∧ p / 31 / 3 < γ 0) ∧
  (∀ p k, p < 558 → k < S p → ∃ y q, E y q ∧ q ≤ P ∧ rd_dom y (rd_xp p k)) ∧
  ((∀ l, l < 9 → H l = rk_n W l) ∧ g 0 = rk_sm H) ∧
  (∀ x q, E x q → q ≤ P ∧ x.1 < γ 0 ∧ rd_bd (γ 0) x) ∧
  (∀ y q, K y q → rk_Cv P E W (g 1) y q)
def rk_cf (γ f : Nat → Nat) : Prop := f 0 = γ 0 ∧ f 1 = γ 1 ∧ f 2 = γ 2 ∧ f 7 = γ 7 ∧ f 6 ≤ 99
variable {γ κ τ : Nat → Nat}
theorem rk_sm_le {W H : Nat → Nat} (h : ∀ l, l < 9 → H l = rk_n W l) : rk_sm H ≤ 5022 := by
  have b := rk_n_le W
  unfold rk_sm
  rw [h 0 (by decide), h 1 (by decide), h 2 (by decide), h 3 (by decide), h 4 (by decide), h 5 (by decide), h 6 (by decide), h 7 (by decide), h 8 (by decide)]
  have := b 0
  have := b 1
  have := b 2
  have := b 3
  have := b 4
  have := b 5
  have := b 6
  have := b 7
  have := b 8
  omega
theorem rk_Cv_best {P : Nat} {E : rd_X → Nat → Prop} {W : Nat → Nat} {b b' : Nat} {y : rd_X} {q : Nat} (hb : b' ≤ b) (h : rk_Cv P E W b y q) : rk_Cv P E W b' y q := by
  rcases h with h | h
  · exact Or.inl (by omega)
  · exact Or.inr h
theorem rk_Cv_W {P : Nat} {E : rd_X → Nat → Prop} {W : Nat → Nat} {b l p v : Nat} {y : rd_X} {q : Nat} (hp : p < 558) (hv : W (l * 558 + p) ≤ v + 1) (h : rk_Cv P E W b y q) : rk_Cv P E (ra_un W (l * 558 + p) (v + 1)) b y q := by
  rcases h with h | ⟨y', hd, h⟩
  · exact Or.inl h
  · right
    rcases h with h | ⟨l', h1, h2, h3, h4, h5, h6⟩
    · exact ⟨y', hd, Or.inl h⟩
    · by_cases e : l' * 558 + rd_pl y' = l * 558 + p
      · have el : l' = l := by omega
        have ep : rd_pl y' = p := by omega
        refine ⟨(y'.1, y'.2.1, y'.2.2.1, v), rd_dom_t (y := y') ⟨Nat.le_refl _, Nat.le_refl _, Nat.le_refl _, ?_⟩ hd, Or.inr ⟨l', h1, h2, h3, h4, h5, ?_⟩⟩
        · show y'.2.2.2 ≤ v
          rw [e] at h6
          omega
        · show ra_un W (l * 558 + p) (v + 1) (l' * 558 + rd_pl y') = v + 1
          rw [e, ra_us]
      · refine ⟨y', hd, Or.inr ⟨l', h1, h2, h3, h4, h5, ?_⟩⟩
        rw [ra_ud _ _ e]
        exact h6
/-- arrive keeps what holds, and covers the place -/
theorem rk_arrive {hb : Bool} {x0 : rd_X} {mst P : Nat} {E K : rd_X → Nat → Prop} {g f W H S : Nat → Nat} (hok : ra_ok γ κ τ) (hI : rk_I γ κ τ hb x0 mst P E K g W H S) (hm : mst ≤ 200) (hcf : rk_cf γ f) {price used : Nat} (hp1 : P ≤ price) (hp2 : price ≤ P + 8) (hP : P ≤ 300) (hu : used ≤ 2) (h3 : f 3 ≤ γ 0) (h4 : f 4 ≤ 30) (h5 : f 5 ≤ 20) (hr : rd_rc γ κ τ hb x0 (f 3, used, f 4, f 5) price) :
    ∃ g' W' H', f_X1_arrive (ra_nf g) (ra_nf f) (ra_nf W) (ra_nf H) (ra_nf S) (nI price) (nI used) = some (ra_nf g', ra_nf W', ra_nf H') ∧ g' 2 = g 2 ∧
      rk_I γ κ τ hb x0 mst P E (fun y q => K y q ∨ (y = (f 3, used, f 4, f 5) ∧ q = price)) g' W' H' S ∧
      (∀ i, i ≠ price % 9 * 558 + rd_pl (f 3, used, f 4, f 5) → W' i = W i) ∧ (f 5 < S (rd_pl (f 3, used, f 4, f 5)) ∨ γ 0 ≤ f 3 → W' = W) := by
  obtain ⟨⟨a1, a2⟩, ⟨a3, a4⟩, a5, a6, ⟨a7, a8⟩, a9, a10⟩ := id hI
  obtain ⟨f0, f1, f2, f7, f6⟩ := id hcf
  have h6 := hok.1
  have hHle : ∀ l, l < 9 → H l ≤ 558 := fun l hl => by rw [a7 l hl]; exact rk_n_le W l
  have hg0 : g 0 ≤ 5022 := by rw [a8]; exact rk_sm_le a7
  have hA := rc_arrive g f W H S (price := price) (used := used) (by omega) (by omega) (by omega) (by omega) (by omega) hu h4 h5 a3 a4 (fun i hi => by have := hHle i hi; omega)
  have hm9 : price % 9 < 9 := Nat.mod_lt _ (by decide)
  by_cases c1 : g 1 ≤ price
  · rw [if_pos c1] at hA
    refine ⟨g, W, H, hA, rfl, ⟨⟨a1, a2⟩, ⟨a3, a4⟩, a5, a6, ⟨a7, a8⟩, a9, fun y q hk => ?_⟩, fun i _ => rfl, fun _ => rfl⟩
    rcases hk with hk | ⟨rfl, rfl⟩
    · exact a10 y q hk
    · exact Or.inl c1
  rw [if_neg c1] at hA
  by_cases c2 : f 0 ≤ f 3
  · rw [if_pos c2] at hA
    have hoff : rd_off γ κ τ hb x0 price := rd_rc_off hr (by show γ 0 ≤ f 3; omega)
    refine ⟨ra_un g 1 price, W, H, hA, rfl, ⟨⟨?_, ?_⟩, ⟨a3, a4⟩, a5, a6, ⟨a7, a8⟩, a9, fun y q hk => ?_⟩, fun i _ => rfl, fun _ => rfl⟩
    · show price ≤ mst + 1
      omega
    · exact Or.inr hoff
    · show rk_Cv P E W price y q
      rcases hk with hk | ⟨rfl, rfl⟩
      · exact rk_Cv_best (by omega) (a10 y q hk)
      · exact Or.inl (Nat.le_refl _)
  rw [if_neg c2] at hA
  have hpl : rd_pl (f 3, used, f 4, f 5) < 558 := rd_pl_lt (by show f 3 < 6; omega) hu h4
  have hxp : ∀ k, rd_xp (rd_pl (f 3, used, f 4, f 5)) k = (f 3, used, f 4, k) := fun k => by
    have := rd_pl_xp (x := (f 3, used, f 4, k)) hu h4
    exact this
  by_cases c3 : f 5 < S (rd_pl (f 3, used, f 4, f 5)) ∨ f 5 < W (price % 9 * 558 + rd_pl (f 3, used, f 4, f 5))
  · rw [if_pos c3] at hA
    refine ⟨g, W, H, hA, rfl, ⟨⟨a1, a2⟩, ⟨a3, a4⟩, a5, a6, ⟨a7, a8⟩, a9, fun y q hk => ?_⟩, fun i _ => rfl, fun _ => rfl⟩
    rcases hk with hk | ⟨rfl, hq⟩
    · exact a10 y q hk
    · rw [hq]
      right
      rcases c3 with c3 | c3
      · obtain ⟨y, q', e1, e2, e3⟩ := a6 _ (f 5) hpl c3
        rw [hxp] at e3
        exact ⟨y, e3, Or.inl ⟨q', e1, by omega⟩⟩
      · obtain ⟨k, hk⟩ : ∃ k, W (price % 9 * 558 + rd_pl (f 3, used, f 4, f 5)) = k + 1 := ⟨W (price % 9 * 558 + rd_pl (f 3, used, f 4, f 5)) - 1, by omega⟩
        refine ⟨(f 3, used, f 4, k), ⟨Nat.le_refl _, Nat.le_refl _, Nat.le_refl _, by show f 5 ≤ k; omega⟩, Or.inr ⟨price % 9, hm9, ?_, hpl, hu, h4, hk⟩⟩
        rw [rk_pr_m hp1 hp2]
        exact Nat.le_refl _
  rw [if_neg c3] at hA
  have hwle : W (price % 9 * 558 + rd_pl (f 3, used, f 4, f 5)) ≤ f 5 + 1 := by omega
  have hW21 : ∀ i, i < 5022 → ra_un W (price % 9 * 558 + rd_pl (f 3, used, f 4, f 5)) (f 5 + 1) i ≤ 21 := fun i hi => by
    unfold ra_un
    split
    · omega
    · exact a3 i hi
  have hsnd : ∀ l p k, l < 9 → p < 558 → ra_un W (price % 9 * 558 + rd_pl (f 3, used, f 4, f 5)) (f 5 + 1) (l * 558 + p) = k + 1 → rd_rc γ κ τ hb x0 (rd_xp p k) (rk_pr P l) ∧ p / 31 / 3 < γ 0 := by
    intro l p k hl hp hw
    by_cases e : l * 558 + p = price % 9 * 558 + rd_pl (f 3, used, f 4, f 5)
    · rw [e, ra_us] at hw
      have el : l = price % 9 := by omega
      have ep : p = rd_pl (f 3, used, f 4, f 5) := by omega
      have ek : k = f 5 := by omega
      have hfr : p / 31 / 3 = f 3 := by
        have := congrArg (fun z : rd_X => z.1) (hxp (f 5))
        rw [ep]
        exact this
      rw [el, rk_pr_m hp1 hp2]
      refine ⟨?_, by omega⟩
      rw [ep, ek, hxp]
      exact hr
    · rw [ra_ud _ _ e] at hw
      exact a5 l p k hl hp hw
  have hcov : ∀ b y q, (K y q → rk_Cv P E W b y q) → (K y q ∨ (y = (f 3, used, f 4, f 5) ∧ q = price)) → rk_Cv P E (ra_un W (price % 9 * 558 + rd_pl (f 3, used, f 4, f 5)) (f 5 + 1)) b y q := by
    intro b y q hh hk
    rcases hk with hk | ⟨rfl, rfl⟩
    · exact rk_Cv_W hpl hwle (hh hk)
    · right
      refine ⟨_, rd_dom_r _, Or.inr ⟨q % 9, hm9, ?_, hpl, hu, h4, ?_⟩⟩
      · rw [rk_pr_m hp1 hp2]
        exact Nat.le_refl _
      · rw [ra_us]
  by_cases c4 : W (price % 9 * 558 + rd_pl (f 3, used, f 4, f 5)) = 0
  · rw [if_pos c4] at hA
    refine ⟨_, _, _, hA, rfl, ⟨⟨a1, a2⟩, ⟨hW21, a4⟩, hsnd, a6, ⟨fun l hl => ?_, ?_⟩, a9, fun y q hk => hcov _ y q (a10 y q) hk⟩, fun i hi => ra_ud _ _ hi, fun hs => hs.elim (fun z => absurd (Or.inl z) c3) (fun z => absurd (show f 0 ≤ f 3 by omega) c2)⟩
    · by_cases e : l = price % 9
      · rw [e, ra_us, rk_n_up hpl c4 (by omega), a7 _ hm9]
      · rw [ra_ud _ _ e, rk_n_ot hpl e, a7 l hl]
    · show g 0 + 1 = _
      have := rk_sm_up (H := H) (v := H (price % 9) + 1) hm9
      omega
  · rw [if_neg c4] at hA
    refine ⟨_, _, _, hA, rfl, ⟨⟨a1, a2⟩, ⟨hW21, a4⟩, hsnd, a6, ⟨fun l hl => ?_, a8⟩, a9, fun y q hk => hcov _ y q (a10 y q) hk⟩, fun i hi => ra_ud _ _ hi, fun hs => hs.elim (fun z => absurd (Or.inl z) c3) (fun z => absurd (show f 0 ≤ f 3 by omega) c2)⟩
    by_cases e : l = price % 9
    · rw [e, rk_n_sm hpl c4 (by omega), a7 _ hm9]
    · rw [rk_n_ot hpl e, a7 l hl]
end RInv
