/-! months: sticks, falls, year, two, worth -/
section RAMonths
def ra_te (m : Nat) : Int32 := nI m - nI 1
def ra_top (f : Nat → Nat) : Nat → Nat
  | 0 => 0
  | n + 1 => max (ra_top f n) (f n + 1)
theorem ra_top_le (f : Nat → Nat) (c : Nat) : ∀ n, ra_top f n ≤ c ↔ ∀ p, p < n → f p + 1 ≤ c := by
  intro n
  induction n with
  | zero => exact ⟨fun _ p hp => absurd hp (Nat.not_lt_zero p), fun _ => Nat.zero_le _⟩
  | succ n ih =>
    unfold ra_top
    constructor
    · intro h p hp
      by_cases e : p = n
      · subst e; omega
      · exact ih.mp (by omega) p (by omega)
    · intro h
      have h1 := ih.mpr (fun p hp => h p (by omega))
      have h2 := h n (by omega)
      omega
theorem ra_te_toInt {m : Nat} (h : m < 2 ^ 30) : (ra_te m).toInt = (m : Int) - 1 := pk_sub_toInt h (by decide)
theorem ra_te_le {m c : Nat} (h : m < 2 ^ 30) (hc : c < 2 ^ 30) : (ra_te m ≤ nI c) = (m ≤ c + 1) := by
  apply propext
  rw [Int32.le_iff_toInt_le, ra_te_toInt h, nI_toInt (by omega)]
  omega
theorem ra_le_te {m c : Nat} (h : m < 2 ^ 30) (hc : c < 2 ^ 30) : (nI c ≤ ra_te m) = (c + 1 ≤ m) := by
  apply propext
  rw [Int32.le_iff_toInt_le, ra_te_toInt h, nI_toInt (by omega)]
  omega
theorem ra_lt_te {m c : Nat} (h : m < 2 ^ 30) (hc : c < 2 ^ 30) : (nI c < ra_te m) = (c + 1 < m) := by
  apply propext
  rw [Int32.lt_iff_toInt_lt, ra_te_toInt h, nI_toInt (by omega)]
  omega
theorem ra_te_max {m v : Nat} (h : m < 2 ^ 29) (hv : v < 2 ^ 29) : rf_max (ra_te m) (nI v) = ra_te (max m (v + 1)) := by
  unfold rf_max
  apply Int32.toInt_inj.mp
  rw [ra_te_toInt (by omega)]
  by_cases c : ra_te m < nI v
  · rw [if_pos c, nI_toInt (by omega)]
    have c := Int32.lt_iff_toInt_lt.mp c
    rw [ra_te_toInt (by omega), nI_toInt (by omega)] at c
    omega
  · rw [if_neg c, ra_te_toInt (by omega)]
    have c : ¬ (ra_te m).toInt < (nI v).toInt := fun z => c (Int32.lt_iff_toInt_lt.mpr z)
    rw [ra_te_toInt (by omega), nI_toInt (by omega)] at c
    omega
/-- how thick, by part -/
def ra_pf (κ τ : Nat → Nat) (sw co he : Nat) (j : Nat) : Nat := ra_tk (κ j) (τ j) sw co he
theorem ra_top_bd {κ τ : Nat → Nat} {sw co he n : Nat} (hτ : ∀ j, τ j ≤ 240) (hs : sw < 1000) (hh : he < 1000) : ra_top (ra_pf κ τ sw co he) n ≤ 10000 := by
  rw [ra_top_le]
  intro p _
  have := hτ p
  have := ra_tk_le (k := κ p) (th := τ p) (sw := sw) (co := co) (he := he) (by omega) hs hh
  exact this
theorem rc_topL {γ κ τ : Nat → Nat} (h : ra_ok γ κ τ) : ∀ (d p m : Nat), p + d = γ 0 → d < m →
    f_X0_thickestNow_L4 (ra_nf γ) (ra_nf κ) (ra_nf τ) m (ra_te (ra_top (ra_pf κ τ (γ 4) (γ 5) (γ 7)) p)) (nI p) = some (ra_te (ra_top (ra_pf κ τ (γ 4) (γ 5) (γ 7)) (γ 0)), nI (γ 0)) := by
  obtain ⟨h0, h1, h2, h3, h4, h5, h6, h7, h8, h9, h10, h11⟩ := id h
  intro d
  induction d with
  | zero =>
    intro p m hp hm
    obtain ⟨m, rfl⟩ : ∃ q, m = q + 1 := ⟨m - 1, by omega⟩
    obtain rfl : p = γ 0 := by omega
    rw [f_X0_thickestNow_L4]
    simp (disch := omega) only [↓reduceIte, ra_lit, ra_nf_ap, ra_st_lo, nI_add, nI_clamp, nI_ltI, nI_leI, nI_eq, Option.bind_some, if_true, if_false, not_false_eq_true, not_true_eq_false, ra_ltT, ra_ltF, ra_leT, ra_leF, ra_eqT, ra_eqF, or_false, false_or, or_true, true_or, and_true, true_and, and_false, false_and]
  | succ d ih =>
    intro p m hp hm
    obtain ⟨m, rfl⟩ : ∃ q, m = q + 1 := ⟨m - 1, by omega⟩
    have hb := ra_top_bd (κ := κ) (τ := τ) (sw := γ 4) (co := γ 5) (he := γ 7) (n := p) h11 (by omega) (by omega)
    have := h11 p
    have hv := ra_tk_le (k := κ p) (th := τ p) (sw := γ 4) (co := γ 5) (he := γ 7) (by omega) (by omega) (by omega)
    rw [f_X0_thickestNow_L4]
    simp (disch := omega) only [↓reduceIte, ra_lit, ra_nf_ap, ra_st_lo, nI_add, nI_clamp, nI_ltI, nI_leI, nI_eq, Option.bind_some, if_true, if_false, not_false_eq_true, not_true_eq_false, ra_ltT, ra_ltF, ra_leT, ra_leF, ra_eqT, ra_eqF, or_false, false_or, or_true, true_or, and_true, true_and, and_false, false_and, rc_thickNow h, ra_te_max]
    exact ih (p + 1) m (by omega) (by omega)
theorem rc_thickest {γ κ τ : Nat → Nat} (h : ra_ok γ κ τ) : f_X0_thickestNow (ra_nf γ) (ra_nf κ) (ra_nf τ) = some (ra_te (ra_top (ra_pf κ τ (γ 4) (γ 5) (γ 7)) (γ 0))) := by
  have h1 := rc_topL h (γ 0) 0 rf_fu (by omega) (by have := h.1; unfold rf_fu; omega)
  have h1 : f_X0_thickestNow_L4 (ra_nf γ) (ra_nf κ) (ra_nf τ) rf_fu (-1) 0 = _ := h1
  unfold f_X0_thickestNow
  rw [h1]
  rfl
/-- the thickest of a month, one more -/
def ra_T (γ κ τ ρ : Nat → Nat) (i : Nat) : Nat := ra_top (ra_pf κ τ (2 * ρ i) (9 - ρ i) (ρ i)) (γ 0)
theorem ra_T_le {γ κ τ ρ : Nat → Nat} (h : ra_ok γ κ τ) (hρ : ∀ j, ρ j ≤ 9) (i : Nat) : ra_T γ κ τ ρ i ≤ 10000 := by
  obtain ⟨h0, h1, h2, h3, h4, h5, h6, h7, h8, h9, h10, h11⟩ := id h
  have := hρ i
  exact ra_top_bd h11 (by omega) (by omega)
theorem rc_meL {γ κ τ : Nat → Nat} (ρ : Nat → Nat) (a n1 n2 n3 : Nat → Int32) (h : ra_ok γ κ τ) (hρ : ∀ j, ρ j ≤ 9) : ∀ (d i m : Nat) (γ' : Nat → Nat) (th : Nat → Int32), i + d = 12 → d < m → ra_ok γ' κ τ → γ' 0 = γ 0 → (∀ j, j < i → th j = ra_te (ra_T γ κ τ ρ j)) →
    ∃ x b th', f_X2_measureMonths_L13 a n1 n2 n3 (ra_nf ρ) (ra_nf κ) (ra_nf τ) m (nI i) (ra_nf γ') th = some (x, b, th') ∧ ∀ j, j < 12 → th' j = ra_te (ra_T γ κ τ ρ j) := by
  intro d
  induction d with
  | zero =>
    intro i m γ' th hi hm h' e0 hth
    obtain ⟨m, rfl⟩ : ∃ q, m = q + 1 := ⟨m - 1, by omega⟩
    obtain rfl : i = 12 := by omega
    refine ⟨nI 12, ra_nf γ', th, ?_, hth⟩
    rw [f_X2_measureMonths_L13, if_pos (by decide)]
  | succ d ih =>
    intro i m γ' th hi hm h' e0 hth
    obtain ⟨m, rfl⟩ : ∃ q, m = q + 1 := ⟨m - 1, by omega⟩
    obtain ⟨h0, h1, h2, h3, h4, h5, h6, h7, h8, h9, h10, h11⟩ := id h'
    have hv := hρ i
    have hok : ra_ok (ra_un (ra_un (ra_un γ' 7 (ρ i)) 4 (2 * ρ i)) 5 (9 - ρ i)) κ τ := ⟨h0, h1, h2, h3, h4, h5, by show 2 * ρ i ≤ 30; omega, by show 9 - ρ i ≤ 20; omega, h8, hv, h10, h11⟩
    have ht := rc_thickest hok
    have ht : f_X0_thickestNow (ra_nf (ra_un (ra_un (ra_un γ' 7 (ρ i)) 4 (2 * ρ i)) 5 (9 - ρ i))) (ra_nf κ) (ra_nf τ) = some (ra_te (ra_T γ κ τ ρ i)) := by
      rw [ht]
      show some (ra_te (ra_top (ra_pf κ τ (2 * ρ i) (9 - ρ i) (ρ i)) (γ' 0))) = _
      rw [e0]
      rfl
    rw [f_X2_measureMonths_L13]
    simp (disch := omega) only [↓reduceIte, ra_lit, ra_nf_ap, ra_st_lo, nI_add, nI_clamp, nI_ltI, nI_leI, nI_eq, Option.bind_some, if_true, if_false, not_false_eq_true, not_true_eq_false, ra_ltT, ra_ltF, ra_leT, ra_leF, ra_eqT, ra_eqF, or_false, false_or, or_true, true_or, and_true, true_and, and_false, false_and, ra_at, pk_mul, pk_sub, ra_upd, ht, ra_put]
    exact ih (i + 1) m _ _ (by omega) (by omega) hok e0 (fun j hj => by
      unfold upd
      by_cases e : j = i
      · subst e
        rw [if_pos rfl]
      · rw [if_neg e]
        exact hth j (by omega))
theorem rc_measure {γ κ τ : Nat → Nat} (ρ : Nat → Nat) (a ta tb tc th : Nat → Int32) (h : ra_ok γ κ τ) (hρ : ∀ j, ρ j ≤ 9) :
    ∃ b th', f_X2_measureMonths a (ra_nf γ) (ra_nf κ) (ra_nf τ) ta tb tc (ra_nf ρ) th = some (b, ra_nf κ, ra_nf τ, th') ∧ ∀ j, j < 12 → th' j = ra_te (ra_T γ κ τ ρ j) := by
  obtain ⟨x, b, th', h1, h2⟩ := rc_meL ρ a (ra_nf γ) (ra_nf κ) (ra_nf τ) h hρ 12 0 rf_fu γ th rfl (by unfold rf_fu; omega) h rfl (fun j hj => absurd hj (Nat.not_lt_zero j))
  have h1 : f_X2_measureMonths_L13 a (ra_nf γ) (ra_nf κ) (ra_nf τ) (ra_nf ρ) (ra_nf κ) (ra_nf τ) rf_fu 0 (ra_nf γ) th = _ := h1
  refine ⟨b, th', ?_, h2⟩
  unfold f_X2_measureMonths
  simp only [rc_copy, Option.bind_some, h1]
/-- bits of a test -/
def ra_bt (f : Nat → Bool) : Nat → Nat
  | 0 => 0
  | n + 1 => if f n then ra_bt f n ||| 2 ^ n else ra_bt f n
theorem ra_bt_lt (f : Nat → Bool) : ∀ n, ra_bt f n < 2 ^ n := by
  intro n
  induction n with
  | zero => exact Nat.one_pos
  | succ n ih =>
    unfold ra_bt
    have e : 2 ^ (n + 1) = 2 ^ n * 2 := Nat.pow_succ 2 n
    split
    · exact Nat.or_lt_two_pow (by omega) (by have := Nat.two_pow_pos n; omega)
    · omega
theorem ra_bt_test (f : Nat → Bool) : ∀ n i, (ra_bt f n).testBit i = (decide (i < n) && f i) := by
  intro n
  induction n with
  | zero => intro i; simp [ra_bt]
  | succ n ih =>
    intro i
    unfold ra_bt
    split
    · rename_i h
      rw [Nat.testBit_or, ih, Nat.testBit_two_pow]
      by_cases e : n = i
      · subst e
        simp [h]
      · have : (i < n + 1) = (i < n) := propext (by omega)
        simp [e, this]
    · rename_i h
      rw [ih]
      by_cases e : n = i
      · subst e
        simp [h]
      · have : (i < n + 1) = (i < n) := propext (by omega)
        simp [this]
theorem ra_or {a b : Nat} (ha : a < 2 ^ 31) (hb : b < 2 ^ 31) : nI a ||| nI b = nI (a ||| b) := by
  have hab : a ||| b < 2 ^ 31 := Nat.or_lt_two_pow ha hb
  apply Int32.toBitVec_inj.mp
  apply BitVec.eq_of_toNat_eq
  rw [pk_tn (by omega), Int32.toBitVec_or, BitVec.toNat_or, pk_tn (by omega), pk_tn (by omega)]
theorem ra_and {a b : Nat} (ha : a < 2 ^ 31) (hb : b < 2 ^ 31) : nI a &&& nI b = nI (a &&& b) := by
  have hab : a &&& b ≤ a := Nat.and_le_left
  apply Int32.toBitVec_inj.mp
  apply BitVec.eq_of_toNat_eq
  rw [pk_tn (by omega), Int32.toBitVec_and, BitVec.toNat_and, pk_tn (by omega), pk_tn (by omega)]
theorem ra_sh : ∀ i, i < 13 → (1 : Int32) <<< (nI i &&& 31) = nI (2 ^ i) := by decide
theorem ra_p2 {i : Nat} (h : i ≤ 12) : 2 ^ i ≤ 4096 
  := (Nat.pow_le_pow_right (by decide) h : 2 ^ i ≤ 2 ^ 12)
def ra_cnt (f : Nat → Bool) : Nat → Nat
  | 0 => 0
  | n + 1 => ra_cnt f n + (if f n then 1 else 0)
theorem ra_cnt_le (f : Nat → Bool) : ∀ n, ra_cnt f n ≤ n := by
  intro n
  induction n with
  | zero => exact Nat.le_refl _
  | succ n ih =>
    unfold ra_cnt
    split <;> omega
theorem ra_cnt_congr {f g : Nat → Bool} : ∀ n, (∀ i, i < n → f i = g i) → ra_cnt f n = ra_cnt g n := by
  intro n
  induction n with
  | zero => intro _; rfl
  | succ n ih =>
    intro h
    unfold ra_cnt
    rw [ih (fun i hi => h i (by omega)), h n (by omega)]
theorem ra_pop0 : ∀ a, a < 64 → ∀ b, b < 64 → f_J6_bitCount_0f7a4 (nI (64 * a + b)) = some (nI (ra_cnt (64 * a + b).testBit 12)) := by decide +kernel
theorem ra_pop {v : Nat} (h : v < 4096) : f_J6_bitCount_0f7a4 (nI v) = some (nI (ra_cnt v.testBit 12)) := by
  have := ra_pop0 (v / 64) (by omega) (v % 64) (by omega)
  rw [show 64 * (v / 64) + v % 64 = v by omega] at this
  exact this
def ra_stk (γ κ τ ρ : Nat → Nat) (size i : Nat) : Bool := decide (size + 5 < ra_T γ κ τ ρ i)
def ra_fal (γ κ τ ρ : Nat → Nat) (size i : Nat) : Bool := decide (ra_T γ κ τ ρ i + 8 < size)
theorem rc_stL {γ κ τ ρ : Nat → Nat} (a th : Nat → Int32) (h : ra_ok γ κ τ) (hρ : ∀ j, ρ j ≤ 9) (hth : ∀ j, j < 12 → th j = ra_te (ra_T γ κ τ ρ j)) {size : Nat} (hs : size < 1000) : ∀ (d i m : Nat), i + d = 12 → d < m →
    f_X2_stickMonths_L4 a th (nI size) m (nI (ra_bt (ra_stk γ κ τ ρ size) i)) (nI i) = some (nI (ra_bt (ra_stk γ κ τ ρ size) 12), nI 12) := by
  intro d
  induction d with
  | zero =>
    intro i m hi hm
    obtain ⟨m, rfl⟩ : ∃ q, m = q + 1 := ⟨m - 1, by omega⟩
    obtain rfl : i = 12 := by omega
    rw [f_X2_stickMonths_L4, if_pos (by decide)]
  | succ d ih =>
    intro i m hi hm
    obtain ⟨m, rfl⟩ : ∃ q, m = q + 1 := ⟨m - 1, by omega⟩
    have hT := ra_T_le h hρ i
    have h2 := ra_p2 (i := i) (by omega)
    have hb := ra_bt_lt (ra_stk γ κ τ ρ size) i
    rw [f_X2_stickMonths_L4, ra_sh i (by omega)]
    simp (disch := omega) only [↓reduceIte, ra_lit, ra_nf_ap, ra_st_lo, nI_add, nI_clamp, nI_ltI, nI_leI, nI_eq, Option.bind_some, if_true, if_false, not_false_eq_true, not_true_eq_false, ra_ltT, ra_ltF, ra_leT, ra_leF, ra_eqT, ra_eqF, or_false, false_or, or_true, true_or, and_true, true_and, and_false, false_and, ra_at, hth i (by omega), ra_te_le, ra_or]
    have ih := ih (i + 1) m (by omega) (by omega)
    unfold ra_bt at ih
    by_cases c : size + 5 < ra_T γ κ τ ρ i
    · have e : ra_stk γ κ τ ρ size i = true := decide_eq_true c
      rw [if_neg (by omega)]
      rw [e] at ih
      exact ih
    · have e : ra_stk γ κ τ ρ size i = false := decide_eq_false c
      rw [if_pos (by omega)]
      rw [e] at ih
      exact ih
theorem rc_stick {γ κ τ ρ : Nat → Nat} (a th : Nat → Int32) (h : ra_ok γ κ τ) (hρ : ∀ j, ρ j ≤ 9) (hth : ∀ j, j < 12 → th j = ra_te (ra_T γ κ τ ρ j)) {size : Nat} (hs : size < 1000) :
    f_X2_stickMonths a th (nI size) = some (nI (ra_bt (ra_stk γ κ τ ρ size) 12)) := by
  have h1 := rc_stL a th h hρ hth hs 12 0 rf_fu rfl (by unfold rf_fu; omega)
  have h1 : f_X2_stickMonths_L4 a th (nI size) rf_fu 0 0 = _ := h1
  unfold f_X2_stickMonths
  rw [h1]
  rfl
theorem rc_flL {γ κ τ ρ : Nat → Nat} (a th : Nat → Int32) (h : ra_ok γ κ τ) (hρ : ∀ j, ρ j ≤ 9) (hth : ∀ j, j < 12 → th j = ra_te (ra_T γ κ τ ρ j)) {size : Nat} (hs : size < 1000) (h100 : 100 ≤ size) : ∀ (d i m : Nat), i + d = 12 → d < m →
    f_X2_fallMonths_L4 a th (nI size) m (nI (ra_bt (ra_fal γ κ τ ρ size) i)) (nI i) = some (nI (ra_bt (ra_fal γ κ τ ρ size) 12), nI 12) := by
  intro d
  induction d with
  | zero =>
    intro i m hi hm
    obtain ⟨m, rfl⟩ : ∃ q, m = q + 1 := ⟨m - 1, by omega⟩
    obtain rfl : i = 12 := by omega
    rw [f_X2_fallMonths_L4, if_pos (by decide)]
  | succ d ih =>
    intro i m hi hm
    obtain ⟨m, rfl⟩ : ∃ q, m = q + 1 := ⟨m - 1, by omega⟩
    have hT := ra_T_le h hρ i
    have h2 := ra_p2 (i := i) (by omega)
    have hb := ra_bt_lt (ra_fal γ κ τ ρ size) i
    rw [f_X2_fallMonths_L4, ra_sh i (by omega)]
    simp (disch := omega) only [↓reduceIte, ra_lit, ra_nf_ap, ra_st_lo, nI_add, nI_clamp, nI_ltI, nI_leI, nI_eq, Option.bind_some, if_true, if_false, not_false_eq_true, not_true_eq_false, ra_ltT, ra_ltF, ra_leT, ra_leF, ra_eqT, ra_eqF, or_false, false_or, or_true, true_or, and_true, true_and, and_false, false_and, ra_at, hth i (by omega), pk_sub, ra_le_te, ra_or]
    have ih := ih (i + 1) m (by omega) (by omega)
    unfold ra_bt at ih
    by_cases c : ra_T γ κ τ ρ i + 8 < size
    · have e : ra_fal γ κ τ ρ size i = true := decide_eq_true c
      rw [if_neg (by omega)]
      rw [e] at ih
      exact ih
    · have e : ra_fal γ κ τ ρ size i = false := decide_eq_false c
      rw [if_pos (by omega)]
      rw [e] at ih
      exact ih
theorem rc_fall {γ κ τ ρ : Nat → Nat} (a th : Nat → Int32) (h : ra_ok γ κ τ) (hρ : ∀ j, ρ j ≤ 9) (hth : ∀ j, j < 12 → th j = ra_te (ra_T γ κ τ ρ j)) {size : Nat} (hs : size < 1000) (h100 : 100 ≤ size) :
    f_X2_fallMonths a th (nI size) = some (nI (ra_bt (ra_fal γ κ τ ρ size) 12)) := by
  have h1 := rc_flL a th h hρ hth hs h100 12 0 rf_fu rfl (by unfold rf_fu; omega)
  have h1 : f_X2_fallMonths_L4 a th (nI size) rf_fu 0 0 = _ := h1
  unfold f_X2_fallMonths
  rw [h1]
  rfl
theorem rr_siL {γ κ τ ρ : Nat → Nat} (M : Nat → Nat) (p1 : Int32) (h : ra_ok γ κ τ) (hρ : ∀ j, ρ j ≤ 9) {i size : Nat} (hs : size < 1000) : ∀ (d p m : Nat), p + d = γ 0 → d < m →
    f_X3_sticksIn_L10 (ra_nf M) (ra_st γ κ τ) (ra_nf ρ) p1 (nI size) (nI (ρ i)) m (nI p) = some (if ∀ q, q < γ 0 → p ≤ q → ra_pf κ τ (2 * ρ i) (9 - ρ i) (ρ i) q ≤ size + 4 then Sum.inr (nI (γ 0)) else Sum.inl (nI 1)) := by
  obtain ⟨h0, h1, h2, h3, h4, h5, h6, h7, h8, h9, h10, h11⟩ := id h
  have hv := hρ i
  intro d
  induction d with
  | zero =>
    intro p m hp hm
    obtain ⟨m, rfl⟩ : ∃ q, m = q + 1 := ⟨m - 1, by omega⟩
    obtain rfl : p = γ 0 := by omega
    rw [f_X3_sticksIn_L10, if_pos (fun q a b => by omega)]
    simp (disch := omega) only [↓reduceIte, ra_lit, ra_nf_ap, ra_st_lo, nI_add, nI_clamp, nI_ltI, nI_leI, nI_eq, Option.bind_some, if_true, if_false, not_false_eq_true, not_true_eq_false, ra_ltT, ra_ltF, ra_leT, ra_leF, ra_eqT, ra_eqF, or_false, false_or, or_true, true_or, and_true, true_and, and_false, false_and]
  | succ d ih =>
    intro p m hp hm
    obtain ⟨m, rfl⟩ : ∃ q, m = q + 1 := ⟨m - 1, by omega⟩
    have := h11 p
    have ht := ra_tk_le (k := κ p) (th := τ p) (sw := 2 * ρ i) (co := 9 - ρ i) (he := ρ i) (by omega) (by omega) (by omega)
    rw [f_X3_sticksIn_L10]
    simp (disch := omega) only [↓reduceIte, ra_lit, ra_nf_ap, ra_st_lo, nI_add, nI_clamp, nI_ltI, nI_leI, nI_eq, Option.bind_some, if_true, if_false, not_false_eq_true, not_true_eq_false, ra_ltT, ra_ltF, ra_leT, ra_leF, ra_eqT, ra_eqF, or_false, false_or, or_true, true_or, and_true, true_and, and_false, false_and, pk_mul, pk_sub, rr_partBy h]
    by_cases c : ra_tk (κ p) (τ p) (2 * ρ i) (9 - ρ i) (ρ i) ≤ size + 4
    · rw [if_pos c, ih (p + 1) m (by omega) (by omega)]
      have e : (∀ q, q < γ 0 → p + 1 ≤ q → ra_pf κ τ (2 * ρ i) (9 - ρ i) (ρ i) q ≤ size + 4) ↔ (∀ q, q < γ 0 → p ≤ q → ra_pf κ τ (2 * ρ i) (9 - ρ i) (ρ i) q ≤ size + 4) := by
        constructor
        · intro z q a b
          by_cases e : q = p
          · subst e; exact c
          · exact z q a (by omega)
        · intro z q a b
          exact z q a (by omega)
      simp only [e]
    · rw [if_neg c, if_neg (fun z => c (z p (by omega) (Nat.le_refl _)))]
theorem rr_sticksIn {γ κ τ ρ : Nat → Nat} (M : Nat → Nat) (h : ra_ok γ κ τ) (hρ : ∀ j, ρ j ≤ 9) {i size : Nat} (hi : i < 12) (hs : size < 1000) :
    f_X3_sticksIn (ra_nf M) (ra_st γ κ τ) (ra_nf ρ) (nI i) (nI size) = some (nI (if ra_stk γ κ τ ρ size i then 1 else 0)) := by
  have h1 := rr_siL M (nI i) h hρ (i := i) hs (γ 0) 0 rf_fu (by omega) (by have := h.1; unfold rf_fu; omega)
  unfold f_X3_sticksIn
  have e : (∀ q, q < γ 0 → 0 ≤ q → ra_pf κ τ (2 * ρ i) (9 - ρ i) (ρ i) q ≤ size + 4) ↔ ra_T γ κ τ ρ i ≤ size + 5 := by
    unfold ra_T
    rw [ra_top_le]
    exact ⟨fun z p hp => by have := z p hp (Nat.zero_le _); omega, fun z q hq _ => by have := z q hq; omega⟩
  by_cases c : ra_T γ κ τ ρ i ≤ size + 5
  · have e2 : ra_stk γ κ τ ρ size i = false := decide_eq_false (by omega)
    rw [if_pos (e.mpr c)] at h1
    simp (disch := omega) only [↓reduceIte, ra_lit, ra_nf_ap, ra_st_lo, nI_add, nI_clamp, nI_ltI, nI_leI, nI_eq, Option.bind_some, if_true, if_false, not_false_eq_true, not_true_eq_false, ra_ltT, ra_ltF, ra_leT, ra_leF, ra_eqT, ra_eqF, or_false, false_or, or_true, true_or, and_true, true_and, and_false, false_and, h1]
    rw [e2]
    rfl
  · have e2 : ra_stk γ κ τ ρ size i = true := decide_eq_true (by omega)
    rw [if_neg (fun z => c (e.mp z))] at h1
    simp (disch := omega) only [↓reduceIte, ra_lit, ra_nf_ap, ra_st_lo, nI_add, nI_clamp, nI_ltI, nI_leI, nI_eq, Option.bind_some, if_true, if_false, not_false_eq_true, not_true_eq_false, ra_ltT, ra_ltF, ra_leT, ra_leF, ra_eqT, ra_eqF, or_false, false_or, or_true, true_or, and_true, true_and, and_false, false_and, h1]
    rw [e2]
    rfl
theorem rr_fiL {γ κ τ ρ : Nat → Nat} (M : Nat → Nat) (p1 : Int32) (h : ra_ok γ κ τ) (hρ : ∀ j, ρ j ≤ 9) {i size : Nat} (hs : size < 1000) (h100 : 100 ≤ size) : ∀ (d p m : Nat), p + d = γ 0 → d < m →
    f_X3_fallsIn_L10 (ra_nf M) (ra_st γ κ τ) (ra_nf ρ) p1 (nI size) (nI (ρ i)) m (nI p) = some (if ∀ q, q < γ 0 → p ≤ q → ra_pf κ τ (2 * ρ i) (9 - ρ i) (ρ i) q < size - 9 then Sum.inr (nI (γ 0)) else Sum.inl (nI 0)) := by
  obtain ⟨h0, h1, h2, h3, h4, h5, h6, h7, h8, h9, h10, h11⟩ := id h
  have hv := hρ i
  intro d
  induction d with
  | zero =>
    intro p m hp hm
    obtain ⟨m, rfl⟩ : ∃ q, m = q + 1 := ⟨m - 1, by omega⟩
    obtain rfl : p = γ 0 := by omega
    rw [f_X3_fallsIn_L10, if_pos (fun q a b => by omega)]
    simp (disch := omega) only [↓reduceIte, ra_lit, ra_nf_ap, ra_st_lo, nI_add, nI_clamp, nI_ltI, nI_leI, nI_eq, Option.bind_some, if_true, if_false, not_false_eq_true, not_true_eq_false, ra_ltT, ra_ltF, ra_leT, ra_leF, ra_eqT, ra_eqF, or_false, false_or, or_true, true_or, and_true, true_and, and_false, false_and]
  | succ d ih =>
    intro p m hp hm
    obtain ⟨m, rfl⟩ : ∃ q, m = q + 1 := ⟨m - 1, by omega⟩
    have := h11 p
    have ht := ra_tk_le (k := κ p) (th := τ p) (sw := 2 * ρ i) (co := 9 - ρ i) (he := ρ i) (by omega) (by omega) (by omega)
    rw [f_X3_fallsIn_L10]
    simp (disch := omega) only [↓reduceIte, ra_lit, ra_nf_ap, ra_st_lo, nI_add, nI_clamp, nI_ltI, nI_leI, nI_eq, Option.bind_some, if_true, if_false, not_false_eq_true, not_true_eq_false, ra_ltT, ra_ltF, ra_leT, ra_leF, ra_eqT, ra_eqF, or_false, false_or, or_true, true_or, and_true, true_and, and_false, false_and, pk_mul, pk_sub, rr_partBy h]
    by_cases c : ra_tk (κ p) (τ p) (2 * ρ i) (9 - ρ i) (ρ i) < size - 9
    · rw [if_pos c, ih (p + 1) m (by omega) (by omega)]
      have e : (∀ q, q < γ 0 → p + 1 ≤ q → ra_pf κ τ (2 * ρ i) (9 - ρ i) (ρ i) q < size - 9) ↔ (∀ q, q < γ 0 → p ≤ q → ra_pf κ τ (2 * ρ i) (9 - ρ i) (ρ i) q < size - 9) := by
        constructor
        · intro z q a b
          by_cases e : q = p
          · subst e; exact c
          · exact z q a (by omega)
        · intro z q a b
          exact z q a (by omega)
      simp only [e]
    · rw [if_neg c, if_neg (fun z => c (z p (by omega) (Nat.le_refl _)))]
theorem rr_fallsIn {γ κ τ ρ : Nat → Nat} (M : Nat → Nat) (h : ra_ok γ κ τ) (hρ : ∀ j, ρ j ≤ 9) {i size : Nat} (hi : i < 12) (hs : size < 1000) (h100 : 100 ≤ size) :
    f_X3_fallsIn (ra_nf M) (ra_st γ κ τ) (ra_nf ρ) (nI i) (nI size) = some (nI (if ra_fal γ κ τ ρ size i then 1 else 0)) := by
  have h1 := rr_fiL M (nI i) h hρ (i := i) hs h100 (γ 0) 0 rf_fu (by omega) (by have := h.1; unfold rf_fu; omega)
  unfold f_X3_fallsIn
  have e : (∀ q, q < γ 0 → 0 ≤ q → ra_pf κ τ (2 * ρ i) (9 - ρ i) (ρ i) q < size - 9) ↔ ra_T γ κ τ ρ i ≤ size - 9 := by
    unfold ra_T
    rw [ra_top_le]
    exact ⟨fun z p hp => by have := z p hp (Nat.zero_le _); omega, fun z q hq _ => by have := z q hq; omega⟩
  by_cases c : ra_T γ κ τ ρ i ≤ size - 9
  · have e2 : ra_fal γ κ τ ρ size i = true := decide_eq_true (by omega)
    rw [if_pos (e.mpr c)] at h1
    simp (disch := omega) only [↓reduceIte, ra_lit, ra_nf_ap, ra_st_lo, nI_add, nI_clamp, nI_ltI, nI_leI, nI_eq, Option.bind_some, if_true, if_false, not_false_eq_true, not_true_eq_false, ra_ltT, ra_ltF, ra_leT, ra_leF, ra_eqT, ra_eqF, or_false, false_or, or_true, true_or, and_true, true_and, and_false, false_and, h1]
    rw [e2]
    rfl
  · have e2 : ra_fal γ κ τ ρ size i = false := decide_eq_false (by omega)
    rw [if_neg (fun z => c (e.mp z))] at h1
    simp (disch := omega) only [↓reduceIte, ra_lit, ra_nf_ap, ra_st_lo, nI_add, nI_clamp, nI_ltI, nI_leI, nI_eq, Option.bind_some, if_true, if_false, not_false_eq_true, not_true_eq_false, ra_ltT, ra_ltF, ra_leT, ra_leF, ra_eqT, ra_eqF, or_false, false_or, or_true, true_or, and_true, true_and, and_false, false_and, h1]
    rw [e2]
    rfl
end RAMonths
