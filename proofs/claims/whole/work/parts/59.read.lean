/-! a hand told in letters: its form -/
section RARead
def ra_cd0 (L : Nat) (lt : Nat → Nat) (p : Nat) : Nat := if p < L then lt p else 0
def ra_la (L : Nat) (lt : Nat → Nat) (p : Nat) : Int32 := if p < L then nI (lt p) else -nI 1
def ra_kd (c : Nat) : Nat := if c = 106 then 4 else if c = 107 then 1 else if c = 112 then 0 else if c = 114 then 3 else if c = 115 then 2 else if c = 116 then 5 else 6
def ra_sl (c : Nat) : Nat := if c = 99 then 4 else if c = 104 then 3 else if c = 112 then 6 else if c = 114 then 6 else if c = 115 then 4 else if c = 116 then 3 else if c = 119 then 4 else 0
theorem ra_sl_le (c : Nat) : ra_sl c = 0 ∨ (3 ≤ ra_sl c ∧ ra_sl c ≤ 6) := by
  unfold ra_sl
  repeat' split
  all_goals omega
def ra_dgt (L : Nat) (lt : Nat → Nat) (p i : Nat) : Bool := decide (48 ≤ ra_cd0 L lt (p + i) ∧ ra_cd0 L lt (p + i) ≤ 57)
def ra_ft (L : Nat) (lt : Nat → Nat) (st i : Nat) : Bool :=
  if i + 1 = ra_sl (ra_cd0 L lt st) then decide (ra_cd0 L lt (st + i) = 59) else if ra_cd0 L lt st = 112 ∧ i = 1 then decide (ra_kd (ra_cd0 L lt (st + i)) < 6) else ra_dgt L lt st i
def ra_ff (f : Nat → Bool) : Nat → Nat → Nat
  | 0, i => i
  | d + 1, i => if f i then ra_ff f d (i + 1) else i
theorem ra_ff_le (f : Nat → Bool) : ∀ d i, i ≤ ra_ff f d i ∧ ra_ff f d i ≤ i + d := by
  intro d
  induction d with
  | zero => intro i; exact ⟨Nat.le_refl _, Nat.le_refl _⟩
  | succ d ih =>
    intro i
    unfold ra_ff
    have := ih (i + 1)
    split <;> omega
theorem ra_ff_app (f : Nat → Bool) (b : Nat) : ∀ a i, ra_ff f (a + b) i = if ra_ff f a i < i + a then ra_ff f a i else ra_ff f b (i + a) := by
  intro a
  induction a with
  | zero =>
    intro i
    rw [Nat.zero_add]
    show _ = if i < i + 0 then _ else _
    rw [if_neg (by omega)]
    rfl
  | succ a ih =>
    intro i
    rw [show a + 1 + b = (a + b) + 1 by omega]
    rw [show ra_ff f (a + b + 1) i = (if f i then ra_ff f (a + b) (i + 1) else i) from rfl, show ra_ff f (a + 1) i = (if f i then ra_ff f a (i + 1) else i) from rfl]
    by_cases c : f i = true
    · simp only [if_pos c]
      have h := ih (i + 1)
      rw [show i + 1 + a = i + (a + 1) by omega] at h
      exact h
    · simp only [if_neg c]
      rw [if_pos (by omega)]
theorem ra_ff_sh {f g : Nat → Bool} : ∀ d i k, (∀ j, j < d → f (i + j) = g (k + j)) → ra_ff f d i + k = ra_ff g d k + i := by
  intro d
  induction d with
  | zero => intro i k _; exact Nat.add_comm _ _
  | succ d ih =>
    intro i k h
    have h0 := h 0 (by omega)
    rw [Nat.add_zero, Nat.add_zero] at h0
    have := ih (i + 1) (k + 1) (fun j hj => by
      have := h (j + 1) (by omega)
      rw [show i + 1 + j = i + (j + 1) by omega, show k + 1 + j = k + (j + 1) by omega]
      exact this)
    unfold ra_ff
    rw [h0]
    split
    · omega
    · omega
theorem ra_ff_all {f : Nat → Bool} : ∀ d i, ra_ff f d i = i + d → ∀ j, i ≤ j → j < i + d → f j = true := by
  intro d
  induction d with
  | zero => intro i _ j h1 h2; omega
  | succ d ih =>
    intro i h j h1 h2
    unfold ra_ff at h
    split at h
    · rename_i c
      by_cases e : j = i
      · subst e; exact c
      · exact ih (i + 1) (by omega) j (by omega) (by omega)
    · omega
section
variable {L : Nat} {lt : Nat → Nat}
theorem ra_laC (hlt : ∀ j, lt j ≤ 255) (p : Nat) : (ra_la L lt p = nI (ra_cd0 L lt p) ∧ ra_cd0 L lt p ≤ 255) ∨ (ra_la L lt p = -nI 1 ∧ ra_cd0 L lt p = 0) := by
  unfold ra_la ra_cd0
  by_cases c : p < L
  · left
    rw [if_pos c, if_pos c]
    exact ⟨rfl, hlt p⟩
  · right
    rw [if_neg c, if_neg c]
    exact ⟨rfl, rfl⟩
theorem ra_la_eq (hlt : ∀ j, lt j ≤ 255) {p v : Nat} (h0 : 0 < v) (hv : v < 256) : (ra_la L lt p = nI v) = (ra_cd0 L lt p = v) := by
  apply propext
  rcases ra_laC (L := L) hlt p with ⟨e, h⟩ | ⟨e, h⟩
  · rw [e, nI_eq (by omega) (by omega)]
  · rw [e, h]
    constructor
    · intro z
      have z := congrArg Int32.toInt z
      rw [nI_toInt (by omega), show (-nI 1).toInt = -1 by decide] at z
      omega
    · intro z
      omega
theorem ra_la_lt (hlt : ∀ j, lt j ≤ 255) {p v : Nat} (h0 : 0 < v) (hv : v < 256) : (ra_la L lt p < nI v) = (ra_cd0 L lt p < v) := by
  apply propext
  rcases ra_laC (L := L) hlt p with ⟨e, h⟩ | ⟨e, h⟩
  · rw [e, nI_ltI (by omega) (by omega)]
  · rw [e, h, Int32.lt_iff_toInt_lt, nI_toInt (by omega), show (-nI 1).toInt = -1 by decide]
    omega
theorem ra_lt_la (hlt : ∀ j, lt j ≤ 255) {p v : Nat} (h0 : 0 < v) (hv : v < 256) : (nI v < ra_la L lt p) = (v < ra_cd0 L lt p) := by
  apply propext
  rcases ra_laC (L := L) hlt p with ⟨e, h⟩ | ⟨e, h⟩
  · rw [e, nI_ltI (by omega) (by omega)]
  · rw [e, h, Int32.lt_iff_toInt_lt, nI_toInt (by omega), show (-nI 1).toInt = -1 by decide]
    omega
theorem rc_letterAt (G : Nat → Nat) (hG : G 0 = L) (hL : L ≤ 96) {p : Nat} (hp : p < 1000) : f_X2_letterAt (ra_nf G) (ra_nf lt) (nI p) = some (ra_la L lt p) := by
  unfold f_X2_letterAt ra_la
  by_cases c : p < L
  · simp (disch := omega) only [↓reduceIte, ra_lit, ra_nf_ap, ra_st_lo, nI_add, nI_clamp, nI_ltI, nI_leI, nI_eq, Option.bind_some, if_true, if_false, not_false_eq_true, not_true_eq_false, ra_ltT, ra_ltF, ra_leT, ra_leF, ra_eqT, ra_eqF, or_false, false_or, or_true, true_or, and_true, true_and, and_false, false_and, hG, ra_at]
  · simp (disch := omega) only [↓reduceIte, ra_lit, ra_nf_ap, ra_st_lo, nI_add, nI_clamp, nI_ltI, nI_leI, nI_eq, Option.bind_some, if_true, if_false, not_false_eq_true, not_true_eq_false, ra_ltT, ra_ltF, ra_leT, ra_leF, ra_eqT, ra_eqF, or_false, false_or, or_true, true_or, and_true, true_and, and_false, false_and, hG]
theorem rr_here (M : Nat → Nat) (hM : M 1 = L) (hL : L ≤ 96) {p : Nat} (h3 : M 3 = p) (hp : p < 1000) : f_X3_here (ra_nf M) (ra_nf lt) = some (ra_la L lt p) := by
  unfold f_X3_here ra_la
  by_cases c : p < L
  · simp (disch := omega) only [↓reduceIte, ra_lit, ra_nf_ap, ra_st_lo, nI_add, nI_clamp, nI_ltI, nI_leI, nI_eq, Option.bind_some, if_true, if_false, not_false_eq_true, not_true_eq_false, ra_ltT, ra_ltF, ra_leT, ra_leF, ra_eqT, ra_eqF, or_false, false_or, or_true, true_or, and_true, true_and, and_false, false_and, hM, h3]
  · simp (disch := omega) only [↓reduceIte, ra_lit, ra_nf_ap, ra_st_lo, nI_add, nI_clamp, nI_ltI, nI_leI, nI_eq, Option.bind_some, if_true, if_false, not_false_eq_true, not_true_eq_false, ra_ltT, ra_ltF, ra_leT, ra_leF, ra_eqT, ra_eqF, or_false, false_or, or_true, true_or, and_true, true_and, and_false, false_and, hM, h3]
theorem rc_kindOf (hlt : ∀ j, lt j ≤ 255) (p : Nat) : f_X2_kindOf (ra_la L lt p) = some (if ra_kd (ra_cd0 L lt p) < 6 then nI (ra_kd (ra_cd0 L lt p)) else -nI 1) := by
  unfold f_X2_kindOf ra_kd
  simp (disch := omega) only [ra_lit, ra_la_eq hlt]
  repeat' split
  all_goals first | rfl | omega
theorem rr_kindOf (hlt : ∀ j, lt j ≤ 255) (p : Nat) : f_X3_kindOf (ra_la L lt p) = some (if ra_kd (ra_cd0 L lt p) < 6 then nI (ra_kd (ra_cd0 L lt p)) else -nI 9) := by
  unfold f_X3_kindOf ra_kd
  simp (disch := omega) only [ra_lit, ra_la_eq hlt]
  repeat' split
  all_goals first | rfl | omega
theorem rc_sl (hlt : ∀ j, lt j ≤ 255) (p : Nat) : f_X2_statementLength (ra_la L lt p) = some (nI (ra_sl (ra_cd0 L lt p))) := by
  unfold f_X2_statementLength ra_sl
  simp (disch := omega) only [ra_lit, ra_la_eq hlt]
  repeat' split
  all_goals first | rfl | omega
theorem rc_fits (hlt : ∀ j, lt j ≤ 255) {st i : Nat} (hi : 1 ≤ i) (hi2 : i < ra_sl (ra_cd0 L lt st)) : f_X2_fits (ra_la L lt st) (nI i) (nI (ra_sl (ra_cd0 L lt st))) (ra_la L lt (st + i)) = some (nI (if ra_ft L lt st i then 1 else 0)) := by
  have hs := ra_sl_le (ra_cd0 L lt st)
  unfold f_X2_fits ra_ft ra_dgt
  rw [rc_kindOf hlt]
  generalize ra_sl (ra_cd0 L lt st) = len at hi2 hs
  simp (disch := omega) only [ra_lit, ra_la_eq hlt, ra_la_lt hlt, ra_lt_la hlt, pk_sub, nI_eq, Option.bind_some]
  have e1 : (i = len - 1) = (i + 1 = len) := propext (by omega)
  simp only [e1]
  by_cases c1 : i + 1 = len
  · simp only [if_pos c1]
    by_cases c2 : ra_cd0 L lt (st + i) = 59
    · simp only [c2, decide_true, if_true]
    · simp only [c2, decide_false, if_false]
      rfl
  · simp only [if_neg c1]
    have hdg : (if ra_cd0 L lt (st + i) < 48 then some (nI 0) else if 57 < ra_cd0 L lt (st + i) then some (nI 0) else some (nI 1)) = some (nI (if decide (48 ≤ ra_cd0 L lt (st + i) ∧ ra_cd0 L lt (st + i) ≤ 57) = true then 1 else 0)) := by
      by_cases d : 48 ≤ ra_cd0 L lt (st + i) ∧ ra_cd0 L lt (st + i) ≤ 57
      · rw [if_neg (by omega), if_neg (by omega), decide_eq_true d]
        rfl
      · rw [decide_eq_false d]
        by_cases d1 : ra_cd0 L lt (st + i) < 48
        · rw [if_pos d1]
          rfl
        · rw [if_neg d1, if_pos (by omega)]
          rfl
    by_cases c2 : ra_cd0 L lt st = 112
    · simp only [if_pos c2]
      by_cases c3 : i = 1
      · simp only [if_pos c3, if_pos (show ra_cd0 L lt st = 112 ∧ i = 1 from ⟨c2, c3⟩)]
        by_cases c4 : ra_kd (ra_cd0 L lt (st + i)) < 6
        · simp only [if_pos c4, decide_eq_true c4, if_true]
          rw [if_neg (nI_nlt (by omega) (by omega))]
        · simp only [if_neg c4, decide_eq_false c4]
          rw [if_pos (by decide)]
          rfl
      · simp only [if_neg c3, if_neg (show ¬ (ra_cd0 L lt st = 112 ∧ i = 1) from fun z => c3 z.2)]
        exact hdg
    · simp only [if_neg c2, if_neg (show ¬ (ra_cd0 L lt st = 112 ∧ i = 1) from fun z => c2 z.1)]
      exact hdg
theorem rc_L49 (G : Nat → Nat) (hG : G 0 = L) (hL : L ≤ 96) (hlt : ∀ j, lt j ≤ 255) (x2 : Int32) {st : Nat} (hst : st < 900) : ∀ (d i m : Nat), i + d = ra_sl (ra_cd0 L lt st) → 1 ≤ i → d < m →
    f_X2_formFault_L49 (ra_nf G) (ra_nf lt) (nI st) x2 (ra_la L lt st) (nI (ra_sl (ra_cd0 L lt st))) m (nI i) = some (if ra_ff (ra_ft L lt st) d i < ra_sl (ra_cd0 L lt st) then Sum.inl (nI (st + ra_ff (ra_ft L lt st) d i)) else Sum.inr (nI (ra_sl (ra_cd0 L lt st)))) := by
  have hs := ra_sl_le (ra_cd0 L lt st)
  intro d
  induction d with
  | zero =>
    intro i m hi h1 hm
    obtain ⟨m, rfl⟩ : ∃ q, m = q + 1 := ⟨m - 1, by omega⟩
    have hi : i = ra_sl (ra_cd0 L lt st) := by omega
    rw [f_X2_formFault_L49, ← hi]
    rw [if_pos (nI_le (Nat.le_refl _) (by omega))]
    show _ = some (if i < i then _ else _)
    rw [if_neg (by omega)]
  | succ d ih =>
    intro i m hi h1 hm
    obtain ⟨m, rfl⟩ : ∃ q, m = q + 1 := ⟨m - 1, by omega⟩
    have hle := ra_ff_le (ra_ft L lt st) d (i + 1)
    rw [f_X2_formFault_L49, if_neg (nI_ge (by omega) (by omega)), nI_add, rc_letterAt G hG hL (by omega), Option.bind_some, rc_fits hlt h1 (by omega), Option.bind_some, nI_1, Option.bind_some, ih (i + 1) m (by omega) (by omega) (by omega), show ra_ff (ra_ft L lt st) (d + 1) i = (if ra_ft L lt st i then ra_ff (ra_ft L lt st) d (i + 1) else i) from rfl]
    by_cases c : ra_ft L lt st i = true
    · simp only [if_pos c]
      rw [if_neg (show ¬ nI 1 = 0 by decide)]
    · simp only [if_neg c]
      rw [if_pos (show nI 0 = 0 from rfl), if_pos (by omega)]
def ra_nu (L : Nat) (lt : Nat → Nat) (p : Nat) : Nat → Nat
  | 0 => 0
  | d + 1 => 10 * ra_nu L lt p d + ra_cd0 L lt (p + d) - 48
theorem ra_unun' (f : Nat → Nat) (a b : Nat) : ra_un (ra_un f 3 a) 3 b = ra_un f 3 b := ra_unun f 3 a b
theorem rr_rnL (hL : L ≤ 96) (hlt : ∀ j, lt j ≤ 255) {k dg p : Nat} (hk : k < 2) (hdg : dg ≤ 3) (hp : p < 500) : ∀ (d n m : Nat) (M : Nat → Nat) (nums : Nat → Int32), n + d = dg → d < m → M 1 = L → M 3 = p + n → nums k = nI (ra_nu L lt p n) →
    ∃ nums' : Nat → Int32, (∀ j, j ≠ k → nums' j = nums j) ∧ ((ra_ff (ra_dgt L lt p) d n < dg ∧ f_X3_readsNumber_L9 (ra_nf lt) (nI k) (nI dg) m (nI n) (ra_nf M) nums = some (Sum.inl (nI 0, ra_nf (ra_un M 3 (p + ra_ff (ra_dgt L lt p) d n)), nums'))) ∨
      (ra_ff (ra_dgt L lt p) d n = dg ∧ nums' k = nI (ra_nu L lt p dg) ∧ f_X3_readsNumber_L9 (ra_nf lt) (nI k) (nI dg) m (nI n) (ra_nf M) nums = some (Sum.inr (nI dg, ra_nf (ra_un M 3 (p + dg)), nums')))) := by
  have hself : ∀ (M : Nat → Nat) (v : Nat), M 3 = v → ra_un M 3 v = M := fun M v h => by
    funext j
    unfold ra_un
    split
    · rename_i e
      rw [e, h]
    · rfl
  intro d
  induction d with
  | zero =>
    intro n m M nums hn hm hM h3 hk0
    obtain ⟨m, rfl⟩ : ∃ q, m = q + 1 := ⟨m - 1, by omega⟩
    obtain rfl : n = dg := by omega
    refine ⟨nums, fun j _ => rfl, Or.inr ⟨rfl, hk0, ?_⟩⟩
    rw [f_X3_readsNumber_L9, if_pos (nI_le (Nat.le_refl _) (by omega)), hself M _ h3]
  | succ d ih =>
    intro n m M nums hn hm hM h3 hk0
    obtain ⟨m, rfl⟩ : ∃ q, m = q + 1 := ⟨m - 1, by omega⟩
    rw [f_X3_readsNumber_L9, if_neg (nI_ge (by omega) (by omega)), rr_here M hM hL h3 (by omega)]
    unfold f_X3_isIn ra_ff ra_dgt
    simp (disch := omega) only [Option.bind_some, ra_lit, ra_la_lt hlt, ra_lt_la hlt]
    by_cases c : 48 ≤ ra_cd0 L lt (p + n) ∧ ra_cd0 L lt (p + n) ≤ 57
    · rw [if_neg (show ¬ ra_cd0 L lt (p + n) < 48 by omega), if_neg (show ¬ 57 < ra_cd0 L lt (p + n) by omega), Option.bind_some, if_neg (show ¬ nI 1 = nI 0 by decide), decide_eq_true c]
      have hla : ra_la L lt (p + n) = nI (ra_cd0 L lt (p + n)) := by
        rcases ra_laC (L := L) hlt (p + n) with ⟨e, h⟩ | ⟨e, h⟩
        · exact e
        · omega
      obtain ⟨nums', a1, a2⟩ := ih (n + 1) m (ra_un M 3 (p + n + 1)) (upd nums k (nI (ra_nu L lt p (n + 1)))) (by omega) (by omega) hM rfl pk_us
      refine ⟨nums', fun j hj => by rw [a1 j hj, pk_un hj], ?_⟩
      rw [ra_unun'] at a2
      rw [ra_unun'] at a2
      have hv : nI 10 * nums k + ra_la L lt (p + n) - nI 48 = nI (ra_nu L lt p (n + 1)) := by
        rw [hk0, hla, pk_mul, nI_add, pk_sub (by omega)]
        rfl
      have hin : ¬ (nI k < nI 0 ∨ 2 ≤ (nI k).toNatClampNeg) := nI_in hk (by decide)
      rw [if_pos hin, if_pos hin, nI_clamp (by omega), hv, ra_nf_ap, h3, nI_add, nI_add, ra_upd, if_pos rfl]
      exact a2
    · rw [decide_eq_false c, if_neg (show ¬ (false = true) by decide)]
      refine ⟨nums, fun j _ => rfl, Or.inl ⟨by omega, ?_⟩⟩
      rw [hself M _ h3]
      by_cases c1 : ra_cd0 L lt (p + n) < 48
      · rw [if_pos c1, Option.bind_some, if_pos rfl]
      · rw [if_neg c1, if_pos (show 57 < ra_cd0 L lt (p + n) by omega), Option.bind_some, if_pos rfl]
theorem rr_rn (hL : L ≤ 96) (hlt : ∀ j, lt j ≤ 255) {k dg p : Nat} (hk : k < 2) (hdg : dg ≤ 3) (hp : p < 500) (M : Nat → Nat) (nums : Nat → Int32) (hM : M 1 = L) (h3 : M 3 = p) :
    ∃ nums' : Nat → Int32, (∀ j, j ≠ k → nums' j = nums j) ∧ ((ra_ff (ra_dgt L lt p) dg 0 < dg ∧ f_X3_readsNumber (ra_nf M) (ra_nf lt) nums (nI k) (nI dg) = some (nI 0, ra_nf (ra_un M 3 (p + ra_ff (ra_dgt L lt p) dg 0)), nums')) ∨
      (ra_ff (ra_dgt L lt p) dg 0 = dg ∧ nums' k = nI (ra_nu L lt p dg) ∧ f_X3_readsNumber (ra_nf M) (ra_nf lt) nums (nI k) (nI dg) = some (nI 1, ra_nf (ra_un M 3 (p + dg)), nums'))) := by
  obtain ⟨nums', a1, a2⟩ := rr_rnL hL hlt hk hdg hp dg 0 rf_fu M (upd nums k 0) (by omega) (by unfold rf_fu; omega) hM h3 pk_us
  refine ⟨nums', fun j hj => by rw [a1 j hj, pk_un hj], ?_⟩
  have hin : ¬ (nI k < 0 ∨ 2 ≤ (nI k).toNatClampNeg) := nI_in hk (by decide)
  unfold f_X3_readsNumber
  rw [if_pos hin, nI_clamp (by omega)]
  rcases a2 with ⟨b1, b2⟩ | ⟨b1, b2, b3⟩
  · have b2 : f_X3_readsNumber_L9 (ra_nf lt) (nI k) (nI dg) rf_fu 0 (ra_nf M) (upd nums k 0) = _ := b2
    rw [b2]
    exact Or.inl ⟨b1, rfl⟩
  · have b3 : f_X3_readsNumber_L9 (ra_nf lt) (nI k) (nI dg) rf_fu 0 (ra_nf M) (upd nums k 0) = _ := b3
    rw [b3]
    exact Or.inr ⟨b1, b2, rfl⟩
/-- the numbers that a statement tells -/
def ra_ns (L : Nat) (lt : Nat → Nat) (st : Nat) (nums : Nat → Int32) : Prop :=
  if ra_cd0 L lt st = 112 then nums 1 = nI (ra_kd (ra_cd0 L lt (st + 1))) ∧ nums 0 = nI (ra_nu L lt (st + 2) 3)
  else if ra_cd0 L lt st = 114 then nums 0 = nI (ra_nu L lt (st + 1) 3) ∧ nums 1 = nI (ra_nu L lt (st + 4) 1)
  else nums 0 = nI (ra_nu L lt (st + 1) (ra_sl (ra_cd0 L lt st) - 2))
def ra_R (L : Nat) (lt : Nat → Nat) (st : Nat) : Nat := ra_ff (ra_ft L lt st) (ra_sl (ra_cd0 L lt st) - 1) 1
theorem ra_R1 {st dg : Nat} (hs : ra_sl (ra_cd0 L lt st) = dg + 2) (hc : ra_cd0 L lt st ≠ 112) :
    ra_R L lt st = if ra_ff (ra_dgt L lt (st + 1)) dg 0 < dg then 1 + ra_ff (ra_dgt L lt (st + 1)) dg 0 else if ra_cd0 L lt (st + 1 + dg) = 59 then dg + 2 else dg + 1 := by
  have h1 : ra_ff (ra_ft L lt st) dg 1 + 0 = ra_ff (ra_dgt L lt (st + 1)) dg 0 + 1 := ra_ff_sh dg 1 0 (fun j hj => by
    unfold ra_ft
    rw [if_neg (by omega), if_neg (fun z => hc z.1)]
    unfold ra_dgt
    rw [show st + (1 + j) = st + 1 + (0 + j) by omega])
  unfold ra_R
  rw [hs, show dg + 2 - 1 = dg + 1 by omega, ra_ff_app, show ra_ff (ra_ft L lt st) dg 1 = ra_ff (ra_dgt L lt (st + 1)) dg 0 + 1 by omega]
  by_cases c : ra_ff (ra_dgt L lt (st + 1)) dg 0 < dg
  · rw [if_pos (by omega), if_pos c, Nat.add_comm]
  · rw [if_neg (by omega), if_neg c]
    unfold ra_ff ra_ft
    rw [if_pos (show 1 + dg + 1 = ra_sl (ra_cd0 L lt st) by omega), show st + (1 + dg) = st + 1 + dg by omega]
    by_cases c2 : ra_cd0 L lt (st + 1 + dg) = 59
    · rw [decide_eq_true c2, if_pos rfl, if_pos c2]
      unfold ra_ff
      omega
    · rw [decide_eq_false c2, if_neg (by decide), if_neg c2]
      omega
/-- what reading a statement answers -/
def ra_rd (L : Nat) (lt : Nat → Nat) (st : Nat) (M : Nat → Nat) (E : Option (Int32 × (Nat → Int32) × (Nat → Int32))) : Prop :=
  (ra_R L lt st < ra_sl (ra_cd0 L lt st) ∧ ∃ nums', E = some (nI 0, ra_nf (ra_un M 3 (st + ra_R L lt st)), nums')) ∨
  (ra_R L lt st = ra_sl (ra_cd0 L lt st) ∧ ∃ nums', E = some (nI 1, ra_nf (ra_un M 3 (st + ra_sl (ra_cd0 L lt st))), nums') ∧ ra_ns L lt st nums')
theorem rr_num (hL : L ≤ 96) (hlt : ∀ j, lt j ≤ 255) {st dg : Nat} (hst : st < 400) (hdg : dg ≤ 3) (M : Nat → Nat) (nums : Nat → Int32) (hM : M 1 = L) (h3 : M 3 = st) (hs : ra_sl (ra_cd0 L lt st) = dg + 2) (hc : ra_cd0 L lt st ≠ 112) (hc4 : ra_cd0 L lt st ≠ 114) :
    ra_rd L lt st M ((f_X3_readsNumber (ra_nf (ra_un M 3 (st + 1))) (ra_nf lt) nums (nI 0) (nI dg)).bind fun (q4 : Int32 × (Nat → Int32) × (Nat → Int32)) => if q4.1 = nI 0 then (some (nI 0, q4.2.1, q4.2.2)) else ((f_X3_here q4.2.1 (ra_nf lt)).bind fun (q6 : Int32) => if q6 = nI 59 then ((some ((q4.2.1 3) + nI 1)).bind fun (v8 : Int32) => some (nI 1, (upd q4.2.1 3 v8), q4.2.2)) else (some (nI 0, q4.2.1, q4.2.2)))) := by
  have hR := ra_R1 hs hc
  obtain ⟨nums', a1, a2⟩ := rr_rn hL hlt (k := 0) (dg := dg) (p := st + 1) (by decide) hdg (by omega) (ra_un M 3 (st + 1)) nums hM rfl
  rw [ra_unun', ra_unun'] at a2
  unfold ra_rd
  rw [hs]
  rcases a2 with ⟨b1, b2⟩ | ⟨b1, b2, b3⟩
  · left
    rw [if_pos b1] at hR
    refine ⟨by omega, nums', ?_⟩
    rw [b2, hR]
    simp only [Option.bind_some, if_true]
    rw [show st + 1 + ra_ff (ra_dgt L lt (st + 1)) dg 0 = st + (1 + ra_ff (ra_dgt L lt (st + 1)) dg 0) by omega]
  · rw [if_neg (by omega)] at hR
    rw [b3]
    simp only [Option.bind_some]
    rw [if_neg (show ¬ nI 1 = nI 0 by decide), rr_here (ra_un M 3 (st + 1 + dg)) hM hL (p := st + 1 + dg) rfl (by omega)]
    simp (disch := omega) only [Option.bind_some, ra_la_eq hlt]
    by_cases c : ra_cd0 L lt (st + 1 + dg) = 59
    · right
      rw [if_pos c] at hR
      refine ⟨hR, nums', ?_, ?_⟩
      · rw [if_pos c, ra_nf_ap, ra_us, nI_add, ra_upd, ra_unun', show st + 1 + dg + 1 = st + (dg + 2) by omega]
      · unfold ra_ns
        rw [if_neg hc, if_neg hc4, hs]
        exact b2
    · left
      rw [if_neg c] at hR
      refine ⟨by omega, nums', ?_⟩
      rw [if_neg c, hR, show st + 1 + dg = st + (dg + 1) by omega]
end
end RARead
