/-! a hand told in letters: its statements, all of it -/
section RAHand
section
variable {L : Nat} {lt : Nat → Nat}
theorem ra_laI (hlt : ∀ j, lt j ≤ 255) {p v : Nat} (h0 : 0 < v) (hv : v < 256) : ra_la L lt p = nI v ↔ ra_cd0 L lt p = v := by
  rw [ra_la_eq hlt h0 hv]
theorem rr_stmt (hL : L ≤ 96) (hlt : ∀ j, lt j ≤ 255) {st : Nat} (hst : st < 400) (M : Nat → Nat) (nums : Nat → Int32) (hM : M 1 = L) (h3 : M 3 = st) :
    (ra_sl (ra_cd0 L lt st) = 0 ∧ ∃ nums', f_X3_readsStatement (ra_nf M) (ra_nf lt) nums = some (nI 0, ra_nf (ra_un M 3 st), nums')) ∨ (0 < ra_sl (ra_cd0 L lt st) ∧ ra_rd L lt st M (f_X3_readsStatement (ra_nf M) (ra_nf lt) nums)) := by
  have hh := rr_here (lt := lt) M hM hL h3 (by omega)
  have hlit : (some (ra_nf M 3 + 1)) = some (nI (st + 1)) := by rw [ra_nf_ap, h3, nI_1]
  unfold f_X3_readsStatement
  rw [hh, Option.bind_some, hlit, Option.bind_some]
  by_cases c99 : ra_cd0 L lt st = 99
  · right
    have hs : ra_sl (ra_cd0 L lt st) = 2 + 2 := by rw [c99]; rfl
    rw [if_pos (show ra_la L lt st = 99 from (ra_laI (v := 99) hlt (by decide) (by decide)).mpr c99), ra_upd]
    exact ⟨by omega, rr_num hL hlt hst (by decide) M nums hM h3 hs (by omega) (by omega)⟩
  rw [if_neg (show ¬ ra_la L lt st = 99 from fun z => c99 ((ra_laI (v := 99) hlt (by decide) (by decide)).mp z))]
  by_cases c104 : ra_cd0 L lt st = 104
  · right
    have hs : ra_sl (ra_cd0 L lt st) = 1 + 2 := by rw [c104]; rfl
    rw [if_pos (show ra_la L lt st = 104 from (ra_laI (v := 104) hlt (by decide) (by decide)).mpr c104), ra_upd]
    exact ⟨by omega, rr_num hL hlt hst (by decide) M nums hM h3 hs (by omega) (by omega)⟩
  rw [if_neg (show ¬ ra_la L lt st = 104 from fun z => c104 ((ra_laI (v := 104) hlt (by decide) (by decide)).mp z))]
  by_cases c112 : ra_cd0 L lt st = 112
  · right
    have hs : ra_sl (ra_cd0 L lt st) = 6 := by rw [c112]; rfl
    refine ⟨by omega, ?_⟩
    rw [if_pos (show ra_la L lt st = 112 from (ra_laI (v := 112) hlt (by decide) (by decide)).mpr c112), ra_upd, rr_here (ra_un M 3 (st + 1)) hM hL (p := st + 1) rfl (by omega), Option.bind_some, rr_kindOf hlt, Option.bind_some]
    have f1 : ra_ft L lt st 1 = decide (ra_kd (ra_cd0 L lt (st + 1)) < 6) := by
      unfold ra_ft
      rw [if_neg (by omega), if_pos ⟨c112, rfl⟩]
    by_cases ck : ra_kd (ra_cd0 L lt (st + 1)) < 6
    · have hR : ra_R L lt st = if ra_ff (ra_dgt L lt (st + 2)) 3 0 < 3 then 2 + ra_ff (ra_dgt L lt (st + 2)) 3 0 else if ra_cd0 L lt (st + 5) = 59 then 6 else 5 := by
        have h1 : ra_ff (ra_ft L lt st) 3 2 + 0 = ra_ff (ra_dgt L lt (st + 2)) 3 0 + 2 := ra_ff_sh 3 2 0 (fun j hj => by
          unfold ra_ft
          rw [if_neg (by omega), if_neg (fun z => by omega)]
          unfold ra_dgt
          rw [show st + (2 + j) = st + 2 + (0 + j) by omega])
        unfold ra_R
        rw [hs, show (6 - 1 : Nat) = 1 + (3 + 1) from rfl, ra_ff_app]
        have h2 : ra_ff (ra_ft L lt st) 1 1 = 2 := by
          show (if ra_ft L lt st 1 then 2 else 1) = 2
          rw [f1, decide_eq_true ck, if_pos rfl]
        rw [h2, if_neg (by omega), ra_ff_app, show ra_ff (ra_ft L lt st) 3 (1 + 1) = ra_ff (ra_dgt L lt (st + 2)) 3 0 + 2 from h1]
        by_cases c : ra_ff (ra_dgt L lt (st + 2)) 3 0 < 3
        · rw [if_pos (by omega), if_pos c, Nat.add_comm]
        · rw [if_neg (by omega), if_neg c]
          show (if ra_ft L lt st 5 then 6 else 5) = _
          unfold ra_ft
          rw [if_pos (show 5 + 1 = ra_sl (ra_cd0 L lt st) by omega)]
          by_cases c2 : ra_cd0 L lt (st + 5) = 59
          · rw [decide_eq_true c2, if_pos rfl, if_pos c2]
          · rw [decide_eq_false c2, if_neg (by decide), if_neg c2]
      obtain ⟨nums', a1, a2⟩ := rr_rn hL hlt (k := 0) (dg := 3) (p := st + 2) (by decide) (by decide) (by omega) (ra_un M 3 (st + 2)) (upd nums 1 (nI (ra_kd (ra_cd0 L lt (st + 1))))) hM rfl
      rw [ra_unun', ra_unun'] at a2
      rw [if_pos ck, if_pos (nI_pos' (by omega)), nI_1, Option.bind_some, ra_upd, ra_unun']
      unfold ra_rd
      rw [hs]
      rcases a2 with ⟨b1, b2⟩ | ⟨b1, b2, b3⟩
      · left
        rw [if_pos b1] at hR
        refine ⟨by omega, nums', ?_⟩
        have b2 : f_X3_readsNumber (ra_nf (ra_un M 3 (st + 2))) (ra_nf lt) (upd nums 1 (nI (ra_kd (ra_cd0 L lt (st + 1))))) 0 3 = _ := b2
        rw [b2, hR, Option.bind_some, if_pos (show nI 0 = 0 from rfl)]
        show some (nI 0, ra_nf (ra_un M 3 (st + 2 + ra_ff (ra_dgt L lt (st + 2)) 3 0)), nums') = _
        rw [show st + 2 + ra_ff (ra_dgt L lt (st + 2)) 3 0 = st + (2 + ra_ff (ra_dgt L lt (st + 2)) 3 0) by omega]
      · rw [if_neg (by omega)] at hR
        have b3 : f_X3_readsNumber (ra_nf (ra_un M 3 (st + 2))) (ra_nf lt) (upd nums 1 (nI (ra_kd (ra_cd0 L lt (st + 1))))) 0 3 = _ := b3
        rw [b3, Option.bind_some, if_neg (show ¬ nI 1 = 0 by decide), rr_here (ra_un M 3 (st + 2 + 3)) hM hL (p := st + 5) rfl (by omega), Option.bind_some]
        by_cases c : ra_cd0 L lt (st + 5) = 59
        · right
          rw [if_pos c] at hR
          refine ⟨hR, nums', ?_, ?_⟩
          · rw [if_pos (show ra_la L lt (st + 5) = 59 from (ra_laI (v := 59) hlt (by decide) (by decide)).mpr c)]
            show (some (ra_nf (ra_un M 3 (st + 2 + 3)) 3 + 1)).bind (fun v24 => some ((1 : Int32), upd (ra_nf (ra_un M 3 (st + 2 + 3))) 3 v24, nums')) = _
            rw [ra_nf_ap, ra_us, nI_1, Option.bind_some, ra_upd, ra_unun']
            rfl
          · unfold ra_ns
            rw [if_pos c112]
            exact ⟨by rw [a1 1 (by decide), pk_us], b2⟩
        · left
          rw [if_neg c] at hR
          refine ⟨by omega, nums', ?_⟩
          rw [if_neg (show ¬ ra_la L lt (st + 5) = 59 from fun z => c ((ra_laI (v := 59) hlt (by decide) (by decide)).mp z)), hR]
          rfl
    · have hR : ra_R L lt st = 1 := by
        unfold ra_R
        rw [hs, show (6 - 1 : Nat) = 1 + 4 from rfl, ra_ff_app]
        have h2 : ra_ff (ra_ft L lt st) 1 1 = 1 := by
          show (if ra_ft L lt st 1 then 2 else 1) = 1
          rw [f1, decide_eq_false ck, if_neg (by decide)]
        rw [h2, if_pos (by omega)]
      rw [if_neg ck, if_neg (show ¬ (0 : Int32) ≤ -nI 9 by decide)]
      unfold ra_rd
      rw [hs, hR]
      exact Or.inl ⟨by omega, _, rfl⟩
  rw [if_neg (show ¬ ra_la L lt st = 112 from fun z => c112 ((ra_laI (v := 112) hlt (by decide) (by decide)).mp z))]
  by_cases c114 : ra_cd0 L lt st = 114
  · right
    have hs : ra_sl (ra_cd0 L lt st) = 6 := by rw [c114]; rfl
    refine ⟨by omega, ?_⟩
    rw [if_pos (show ra_la L lt st = 114 from (ra_laI (v := 114) hlt (by decide) (by decide)).mpr c114), ra_upd]
    have hR := ra_R1 (L := L) (lt := lt) (st := st) (dg := 4) hs (by omega)
    have hsp : ra_ff (ra_dgt L lt (st + 1)) 4 0 = if ra_ff (ra_dgt L lt (st + 1)) 3 0 < 3 then ra_ff (ra_dgt L lt (st + 1)) 3 0 else 3 + ra_ff (ra_dgt L lt (st + 4)) 1 0 := by
      have h0 : ra_ff (ra_dgt L lt (st + 1)) 4 0 = if ra_ff (ra_dgt L lt (st + 1)) 3 0 < 0 + 3 then ra_ff (ra_dgt L lt (st + 1)) 3 0 else ra_ff (ra_dgt L lt (st + 1)) 1 (0 + 3) := ra_ff_app (ra_dgt L lt (st + 1)) 1 3 0
      rw [h0]
      have h1 : ra_ff (ra_dgt L lt (st + 1)) 1 3 + 0 = ra_ff (ra_dgt L lt (st + 4)) 1 0 + 3 := ra_ff_sh 1 3 0 (fun j hj => by
        unfold ra_dgt
        rw [show st + 1 + (3 + j) = st + 4 + (0 + j) by omega])
      by_cases c : ra_ff (ra_dgt L lt (st + 1)) 3 0 < 3
      · rw [if_pos (by omega), if_pos c]
      · rw [if_neg (by omega), if_neg c]
        show ra_ff (ra_dgt L lt (st + 1)) 1 3 = _
        omega
    obtain ⟨nums', a1, a2⟩ := rr_rn hL hlt (k := 0) (dg := 3) (p := st + 1) (by decide) (by decide) (by omega) (ra_un M 3 (st + 1)) nums hM rfl
    rw [ra_unun', ra_unun'] at a2
    have hle1 := ra_ff_le (ra_dgt L lt (st + 4)) 1 0
    unfold ra_rd
    rw [hs]
    rcases a2 with ⟨b1, b2⟩ | ⟨b1, b2, b3⟩
    · left
      rw [if_pos b1] at hsp
      rw [if_pos (by omega), hsp] at hR
      refine ⟨by omega, nums', ?_⟩
      have b2 : f_X3_readsNumber (ra_nf (ra_un M 3 (st + 1))) (ra_nf lt) nums 0 3 = _ := b2
      rw [b2, hR, Option.bind_some, if_pos (show nI 0 = 0 from rfl)]
      show some (nI 0, ra_nf (ra_un M 3 (st + 1 + ra_ff (ra_dgt L lt (st + 1)) 3 0)), nums') = _
      rw [show st + 1 + ra_ff (ra_dgt L lt (st + 1)) 3 0 = st + (1 + ra_ff (ra_dgt L lt (st + 1)) 3 0) by omega]
    · rw [if_neg (by omega)] at hsp
      have b3 : f_X3_readsNumber (ra_nf (ra_un M 3 (st + 1))) (ra_nf lt) nums 0 3 = _ := b3
      rw [b3, Option.bind_some, if_neg (show ¬ nI 1 = 0 by decide)]
      obtain ⟨nums2, d1, d2⟩ := rr_rn hL hlt (k := 1) (dg := 1) (p := st + 4) (by decide) (by decide) (by omega) (ra_un M 3 (st + 1 + 3)) nums' hM rfl
      rw [ra_unun', ra_unun'] at d2
      rcases d2 with ⟨e1, e2⟩ | ⟨e1, e2, e3⟩
      · left
        rw [if_pos (by omega), hsp] at hR
        refine ⟨by omega, nums2, ?_⟩
        have e2 : f_X3_readsNumber (ra_nf (ra_un M 3 (st + 1 + 3))) (ra_nf lt) nums' 1 1 = _ := e2
        rw [e2, hR, Option.bind_some, if_pos (show nI 0 = 0 from rfl)]
        show some (nI 0, ra_nf (ra_un M 3 (st + 4 + ra_ff (ra_dgt L lt (st + 4)) 1 0)), nums2) = _
        rw [show st + 4 + ra_ff (ra_dgt L lt (st + 4)) 1 0 = st + (1 + (3 + ra_ff (ra_dgt L lt (st + 4)) 1 0)) by omega]
      · rw [if_neg (by omega)] at hR
        have e3 : f_X3_readsNumber (ra_nf (ra_un M 3 (st + 1 + 3))) (ra_nf lt) nums' 1 1 = _ := e3
        rw [e3, Option.bind_some, if_neg (show ¬ nI 1 = 0 by decide), rr_here (ra_un M 3 (st + 4 + 1)) hM hL (p := st + 5) rfl (by omega), Option.bind_some]
        rw [show st + 1 + 4 = st + 5 by omega] at hR
        by_cases c : ra_cd0 L lt (st + 5) = 59
        · right
          rw [if_pos c] at hR
          refine ⟨hR, nums2, ?_, ?_⟩
          · rw [if_pos (show ra_la L lt (st + 5) = 59 from (ra_laI (v := 59) hlt (by decide) (by decide)).mpr c)]
            show (some (ra_nf (ra_un M 3 (st + 4 + 1)) 3 + 1)).bind (fun v24 => some ((1 : Int32), upd (ra_nf (ra_un M 3 (st + 4 + 1))) 3 v24, nums2)) = _
            rw [ra_nf_ap, ra_us, nI_1, Option.bind_some, ra_upd, ra_unun']
            rfl
          · unfold ra_ns
            rw [if_neg c112, if_pos c114]
            exact ⟨by rw [d1 0 (by decide)]; exact b2, e2⟩
        · left
          rw [if_neg c] at hR
          refine ⟨by omega, nums2, ?_⟩
          rw [if_neg (show ¬ ra_la L lt (st + 5) = 59 from fun z => c ((ra_laI (v := 59) hlt (by decide) (by decide)).mp z)), hR]
          rfl
  rw [if_neg (show ¬ ra_la L lt st = 114 from fun z => c114 ((ra_laI (v := 114) hlt (by decide) (by decide)).mp z))]
  by_cases c115 : ra_cd0 L lt st = 115
  · right
    have hs : ra_sl (ra_cd0 L lt st) = 2 + 2 := by rw [c115]; rfl
    rw [if_pos (show ra_la L lt st = 115 from (ra_laI (v := 115) hlt (by decide) (by decide)).mpr c115), ra_upd]
    exact ⟨by omega, rr_num hL hlt hst (by decide) M nums hM h3 hs (by omega) (by omega)⟩
  rw [if_neg (show ¬ ra_la L lt st = 115 from fun z => c115 ((ra_laI (v := 115) hlt (by decide) (by decide)).mp z))]
  by_cases c116 : ra_cd0 L lt st = 116
  · right
    have hs : ra_sl (ra_cd0 L lt st) = 1 + 2 := by rw [c116]; rfl
    rw [if_pos (show ra_la L lt st = 116 from (ra_laI (v := 116) hlt (by decide) (by decide)).mpr c116), ra_upd]
    exact ⟨by omega, rr_num hL hlt hst (by decide) M nums hM h3 hs (by omega) (by omega)⟩
  rw [if_neg (show ¬ ra_la L lt st = 116 from fun z => c116 ((ra_laI (v := 116) hlt (by decide) (by decide)).mp z))]
  by_cases c119 : ra_cd0 L lt st = 119
  · right
    have hs : ra_sl (ra_cd0 L lt st) = 2 + 2 := by rw [c119]; rfl
    rw [if_pos (show ra_la L lt st = 119 from (ra_laI (v := 119) hlt (by decide) (by decide)).mpr c119), ra_upd]
    exact ⟨by omega, rr_num hL hlt hst (by decide) M nums hM h3 hs (by omega) (by omega)⟩
  rw [if_neg (show ¬ ra_la L lt st = 119 from fun z => c119 ((ra_laI (v := 119) hlt (by decide) (by decide)).mp z))]
  left
  refine ⟨?_, nums, ?_⟩
  · unfold ra_sl
    rw [if_neg c99, if_neg c104, if_neg c112, if_neg c114, if_neg c115, if_neg c116, if_neg c119]
  · rw [show nI (st + 1) - 1 = nI st from nI_pred st, Option.bind_some, ra_upd, ra_upd, ra_unun']
    rfl
/-! the form of all of it -/
def ra_ok1 (L : Nat) (lt : Nat → Nat) (st : Nat) : Prop := 0 < ra_sl (ra_cd0 L lt st) ∧ ra_R L lt st = ra_sl (ra_cd0 L lt st)
def ra_ch (L : Nat) (lt : Nat → Nat) : Nat → Nat → Prop
  | 0, st => L ≤ st
  | d + 1, st => L ≤ st ∨ (ra_ok1 L lt st ∧ ra_ch L lt d (st + ra_sl (ra_cd0 L lt st)))
def ra_nc (L : Nat) (lt : Nat → Nat) : Nat → Nat → Nat
  | 0, _ => 0
  | d + 1, st => if L ≤ st then 0 else 1 + ra_nc L lt d (st + ra_sl (ra_cd0 L lt st))
theorem ra_ok1_lt (hlt : ∀ j, lt j ≤ 255) {st : Nat} (hst : st < L) (h : ra_ok1 L lt st) : st + ra_sl (ra_cd0 L lt st) ≤ L := by
  obtain ⟨h1, h2⟩ := h
  have hs := ra_sl_le (ra_cd0 L lt st)
  have h3 := ra_ff_all (f := ra_ft L lt st) (ra_sl (ra_cd0 L lt st) - 1) 1 (by unfold ra_R at h2; omega) (ra_sl (ra_cd0 L lt st) - 1) (by omega) (by omega)
  unfold ra_ft at h3
  rw [if_pos (by omega)] at h3
  have h3 := of_decide_eq_true h3
  by_cases c : st + (ra_sl (ra_cd0 L lt st) - 1) < L
  · omega
  · unfold ra_cd0 at h3
    rw [if_neg (by unfold ra_cd0 at c; exact c)] at h3
    omega
set_option maxRecDepth 100000 in
theorem ra_f9 : ∀ p, p < 200 → ¬ (-1000 : Int32) - nI p = -9 := by decide
theorem ra_P1 (G : Nat → Nat) (hG : G 0 = L) (hL : L ≤ 96) (hlt : ∀ j, lt j ≤ 255) (s rd : Nat → Int32) : ∀ (d st n m m' : Nat) (x1 : Int32) (M : Nat → Nat) (nums : Nat → Int32), st < L → L - st ≤ d → n ≤ st → d < m → d < m' → M 1 = L → M 3 = st →
    (∃ p y M' nums', p < 200 ∧ M' 0 = M 0 ∧ M' 1 = M 1 ∧ M' 2 = M 2 ∧ M' 6 = M 6 ∧ f_X2_formFault_L13 (ra_nf G) (ra_nf lt) m (nI st) (nI n) = some (Sum.inl (nI p)) ∧ f_X3_hand_L10 (ra_nf lt) s rd m' x1 (-9) (ra_nf M) nums = some (y, (-1000) - nI p, ra_nf M', nums')) ∨
    (∃ y M' nums', M' 0 = M 0 ∧ M' 1 = M 1 ∧ M' 2 = M 2 ∧ M' 6 = M 6 ∧ ra_ch L lt d st ∧ f_X2_formFault_L13 (ra_nf G) (ra_nf lt) m (nI st) (nI n) = some (Sum.inr y) ∧ f_X3_hand_L10 (ra_nf lt) s rd m' x1 (-9) (ra_nf M) nums = some (x1 + nI (ra_nc L lt d st), -9, ra_nf M', nums')) := by
  intro d
  induction d with
  | zero => intro st n m m' x1 M nums h1 h2; omega
  | succ d ih =>
    intro st n m m' x1 M nums h1 h2 h3 hm hm' hM hM3
    obtain ⟨m, rfl⟩ : ∃ q, m = q + 1 := ⟨m - 1, by omega⟩
    obtain ⟨m', rfl⟩ : ∃ q, m' = q + 1 := ⟨m' - 1, by omega⟩
    have hs := ra_sl_le (ra_cd0 L lt st)
    have k1 : ¬ (96 : Int32) ≤ nI n := nI_ge (b := 96) (by omega) (by decide)
    have k2 : ¬ ra_nf G 0 ≤ nI st := by
      rw [ra_nf_ap, hG]
      exact nI_ge h1 (by omega)
    have hL49 := rc_L49 G hG hL hlt (nI n) (st := st) (by omega) (ra_sl (ra_cd0 L lt st) - 1) 1 rf_fu
    have hfault : ∀ (p : Nat) (M' : Nat → Nat) (nums' : Nat → Int32), p < 200 → M' 3 = p → f_X3_readsStatement (ra_nf M) (ra_nf lt) nums = some (nI 0, ra_nf M', nums') → f_X3_hand_L10 (ra_nf lt) s rd (m' + 1) x1 (-9) (ra_nf M) nums = some (x1 + 1, (-1000) - nI p, ra_nf M', nums') := by
      intro p M' nums' hp hp3 e
      have e3 : (-1000 : Int32) - ra_nf M' 3 = (-1000) - nI p := by rw [ra_nf_ap, hp3]
      have e9 : ¬ (-1000 : Int32) - ra_nf M' 3 = -9 := by
        rw [e3]
        exact ra_f9 p hp
      rw [f_X3_hand_L10, e, Option.bind_some, if_pos (show nI 0 = 0 from rfl), Option.bind_some, Option.bind_some, if_neg e9, e3]
    rcases rr_stmt hL hlt (st := st) (by omega) M nums hM hM3 with ⟨z, nums', e⟩ | ⟨z, hz⟩
    · left
      refine ⟨st, x1 + 1, ra_un M 3 st, nums', by omega, rfl, rfl, rfl, rfl, ?_, hfault st _ _ (by omega) rfl e⟩
      rw [f_X2_formFault_L13, if_neg k1, if_neg k2, rc_letterAt G hG hL (by omega), Option.bind_some, rc_sl hlt, Option.bind_some, z, if_pos (show nI 0 = 0 from rfl)]
    · have hz0 : ¬ nI (ra_sl (ra_cd0 L lt st)) = 0 := nI_ne0 z (by omega)
      have hL49 := hL49 (by omega) (by omega) (by unfold rf_fu; omega)
      have hL49 : f_X2_formFault_L49 (ra_nf G) (ra_nf lt) (nI st) (nI n) (ra_la L lt st) (nI (ra_sl (ra_cd0 L lt st))) rf_fu 1 = some (if ra_R L lt st < ra_sl (ra_cd0 L lt st) then Sum.inl (nI (st + ra_R L lt st)) else Sum.inr (nI (ra_sl (ra_cd0 L lt st)))) := hL49
      rw [f_X2_formFault_L13, if_neg k1, if_neg k2, rc_letterAt G hG hL (by omega), Option.bind_some, rc_sl hlt, Option.bind_some, if_neg hz0, hL49, Option.bind_some]
      rcases hz with ⟨z1, nums', e⟩ | ⟨z1, nums', e, hns⟩
      · left
        refine ⟨st + ra_R L lt st, x1 + 1, ra_un M 3 (st + ra_R L lt st), nums', by omega, rfl, rfl, rfl, rfl, ?_, hfault _ _ _ (by omega) rfl e⟩
        rw [if_pos z1]
        rfl
      · have hok : ra_ok1 L lt st := ⟨z, z1⟩
        have hle := ra_ok1_lt hlt h1 hok
        rw [if_neg (show ¬ ra_R L lt st < ra_sl (ra_cd0 L lt st) by omega)]
        have eM : f_X3_hand_L10 (ra_nf lt) s rd (m' + 1) x1 (-9) (ra_nf M) nums = (if (ra_nf (ra_un M 3 (st + ra_sl (ra_cd0 L lt st))) 3) < (ra_nf (ra_un M 3 (st + ra_sl (ra_cd0 L lt st))) 1) then f_X3_hand_L10 (ra_nf lt) s rd m' (x1 + 1) (-9) (ra_nf (ra_un M 3 (st + ra_sl (ra_cd0 L lt st)))) nums' else some (x1 + 1, -9, ra_nf (ra_un M 3 (st + ra_sl (ra_cd0 L lt st))), nums')) := by
          rw [f_X3_hand_L10, e, Option.bind_some, if_neg (show ¬ nI 1 = 0 by decide), Option.bind_some, if_pos rfl]
        rw [eM, ra_nf_ap, ra_nf_ap, ra_us, show ra_un M 3 (st + ra_sl (ra_cd0 L lt st)) 1 = L from hM]
        simp only [rf_sum, Option.bind_some]
        rw [nI_add, nI_1]
        by_cases cL : st + ra_sl (ra_cd0 L lt st) < L
        · rw [if_pos (nI_lt cL (by omega))]
          have hnc : ra_nc L lt (d + 1) st = 1 + ra_nc L lt d (st + ra_sl (ra_cd0 L lt st)) := by
            rw [ra_nc, if_neg (by omega)]
          rcases ih (st + ra_sl (ra_cd0 L lt st)) (n + 1) m m' (x1 + 1) (ra_un M 3 (st + ra_sl (ra_cd0 L lt st))) nums' cL (by omega) (by omega) (by omega) (by omega) hM rfl with ⟨p, y, M', nums2, q1, q2, q3, q4, q5, q6, q7⟩ | ⟨y, M', nums2, q2, q3, q4, q5, q6, q7, q8⟩
          · exact Or.inl ⟨p, y, M', nums2, q1, q2, q3, q4, q5, q6, q7⟩
          · right
            refine ⟨y, M', nums2, q2, q3, q4, q5, Or.inr ⟨hok, q6⟩, q7, ?_⟩
            rw [q8, hnc]
            congr 2
            rw [← nI_add, ← Int32.add_assoc]
            rfl
        · right
          rw [if_neg (nI_nlt (by omega) (by omega))]
          have hnc : ra_nc L lt (d + 1) st = 1 := by
            rw [ra_nc, if_neg (by omega)]
            have : ra_nc L lt d (st + ra_sl (ra_cd0 L lt st)) = 0 := by
              cases d with
              | zero => rfl
              | succ d => rw [ra_nc, if_pos (by omega)]
            omega
          have hch : ra_ch L lt d (st + ra_sl (ra_cd0 L lt st)) := by
            cases d with
            | zero => exact (by omega : L ≤ st + ra_sl (ra_cd0 L lt st))
            | succ d => exact Or.inl (by omega)
          obtain ⟨m, rfl⟩ : ∃ q, m = q + 1 := ⟨m - 1, by omega⟩
          refine ⟨(nI (st + ra_sl (ra_cd0 L lt st)), nI (n + 1)), ra_un M 3 (st + ra_sl (ra_cd0 L lt st)), nums', rfl, rfl, rfl, rfl, Or.inr ⟨hok, hch⟩, ?_, ?_⟩
          · rw [f_X2_formFault_L13]
            by_cases c96 : (96 : Int32) ≤ nI (n + 1)
            · rw [if_pos c96]
            · rw [if_neg c96, ra_nf_ap, hG, if_pos (nI_le (by omega) (by omega))]
          · rw [hnc]
            rfl
end
end RAHand
