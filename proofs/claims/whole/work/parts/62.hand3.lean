/-! all of a hand -/
section RAHand3
section
variable {L : Nat} {lt : Nat → Nat}
set_option maxRecDepth 100000 in
theorem ra_f92 : ∀ p, p < 200 → ¬ (-2000 : Int32) - nI p = -9 := by decide
theorem ra_P2 (G : Nat → Nat) (hG : G 0 = L) (hL : L ≤ 96) (hlt : ∀ j, lt j ≤ 255) (ng nk nt rd : Nat → Int32) (x1' : Int32) : ∀ (d st n m m' : Nat) (x1 : Int32) (M : Nat → Nat) (nums : Nat → Int32) (γ κ τ : Nat → Nat), st ≤ L → L - st ≤ d → n ≤ st → d < m → d + 1 < m' → M 1 = L → M 3 = st → ra_ch L lt d st → ra_ok γ κ τ → γ 8 ≤ 999 →
    (∃ r a b c M' nums', M' 0 = M 0 ∧ M' 1 = M 1 ∧ M' 2 = M 2 ∧ M' 6 = M 6 ∧ ¬ r = -9 ∧ f_X2_takeStatements_L17 (ra_nf G) (ra_nf lt) ng nk nt m x1 (nI st) (nI n) (ra_nf γ) (ra_nf κ) (ra_nf τ) = some (Sum.inl (r, ng, nk, nt, a, b, c)) ∧ f_X3_hand_L62 (ra_nf lt) x1' rd m' (-9) (ra_nf M) (ra_st γ κ τ) nums = some (r, ra_nf M', rd, nums')) ∨
    (∃ y z γ' κ' τ' M' nums', M' 0 = M 0 ∧ M' 1 = M 1 ∧ M' 2 = M 2 ∧ M' 6 = M 6 ∧ f_X2_takeStatements_L17 (ra_nf G) (ra_nf lt) ng nk nt m x1 (nI st) (nI n) (ra_nf γ) (ra_nf κ) (ra_nf τ) = some (Sum.inr (x1 + nI (ra_nc L lt d st), y, z, ra_nf γ', ra_nf κ', ra_nf τ')) ∧ f_X3_hand_L62 (ra_nf lt) x1' rd m' (-9) (ra_nf M) (ra_st γ κ τ) nums = some (-9, ra_nf M', ra_st γ' κ' τ', nums') ∧ ra_ok γ' κ' τ' ∧ γ' 8 ≤ 999) := by
  have hdone : ∀ (d st n m m' : Nat) (x1 : Int32) (M : Nat → Nat) (nums : Nat → Int32) (γ κ τ : Nat → Nat), L ≤ st → st < 1000 → 0 < m → 0 < m' → M 1 = L → M 3 = st →
      (∃ y z, f_X2_takeStatements_L17 (ra_nf G) (ra_nf lt) ng nk nt m x1 (nI st) (nI n) (ra_nf γ) (ra_nf κ) (ra_nf τ) = some (Sum.inr (x1, y, z, ra_nf γ, ra_nf κ, ra_nf τ))) ∧ f_X3_hand_L62 (ra_nf lt) x1' rd m' (-9) (ra_nf M) (ra_st γ κ τ) nums = some (-9, ra_nf M, ra_st γ κ τ, nums) := by
    intro d st n m m' x1 M nums γ κ τ h1 h2 hm hm' hM h3
    obtain ⟨m, rfl⟩ : ∃ q, m = q + 1 := ⟨m - 1, by omega⟩
    obtain ⟨m', rfl⟩ : ∃ q, m' = q + 1 := ⟨m' - 1, by omega⟩
    constructor
    · rw [f_X2_takeStatements_L17]
      by_cases c : (96 : Int32) ≤ nI n
      · rw [if_pos c]
        exact ⟨_, _, rfl⟩
      · rw [if_neg c, if_pos (show ra_nf G 0 ≤ nI st by rw [ra_nf_ap, hG]; exact nI_le h1 (by omega))]
        exact ⟨_, _, rfl⟩
    · rw [f_X3_hand_L62, if_pos rfl, if_pos (show ra_nf M 1 ≤ ra_nf M 3 by rw [ra_nf_ap, ra_nf_ap, hM, h3]; exact nI_le h1 (by omega))]
  intro d
  induction d with
  | zero =>
    intro st n m m' x1 M nums γ κ τ h1 h2 h3 hm hm' hM hM3 hch h h8
    right
    obtain ⟨⟨y, z, e1⟩, e2⟩ := hdone 0 st n m m' x1 M nums γ κ τ (by omega) (by omega) (by omega) (by omega) hM hM3
    refine ⟨y, z, γ, κ, τ, M, nums, rfl, rfl, rfl, rfl, ?_, e2, h, h8⟩
    rw [e1]
    show some (Sum.inr (x1, _)) = some (Sum.inr (x1 + nI 0, _))
    rw [show x1 + nI 0 = x1 from Int32.add_zero x1]
  | succ d ih =>
    intro st n m m' x1 M nums γ κ τ h1 h2 h3 hm hm' hM hM3 hch h h8
    by_cases cL : L ≤ st
    · right
      obtain ⟨⟨y, z, e1⟩, e2⟩ := hdone (d + 1) st n m m' x1 M nums γ κ τ cL (by omega) (by omega) (by omega) hM hM3
      refine ⟨y, z, γ, κ, τ, M, nums, rfl, rfl, rfl, rfl, ?_, e2, h, h8⟩
      rw [e1, ra_nc, if_pos cL]
      show some (Sum.inr (x1, _)) = some (Sum.inr (x1 + nI 0, _))
      rw [show x1 + nI 0 = x1 from Int32.add_zero x1]
    · rcases hch with hch | ⟨hok, hch⟩
      · exact absurd hch cL
      obtain ⟨m, rfl⟩ : ∃ q, m = q + 1 := ⟨m - 1, by omega⟩
      obtain ⟨m', rfl⟩ : ∃ q, m' = q + 1 := ⟨m' - 1, by omega⟩
      have hle := ra_ok1_lt hlt (by omega) hok
      have hs := ra_sl_le (ra_cd0 L lt st)
      have hp := hok.1
      have k1 : ¬ (96 : Int32) ≤ nI n := nI_ge (b := 96) (by omega) (by decide)
      have k2 : ¬ ra_nf G 0 ≤ nI st := by
        rw [ra_nf_ap, hG]
        exact nI_ge (by omega) (by omega)
      have k3 : ¬ ra_nf M 1 ≤ ra_nf M 3 := by
        rw [ra_nf_ap, ra_nf_ap, hM, hM3]
        exact nI_ge (by omega) (by omega)
      rcases rr_stmt hL hlt (st := st) (by omega) M nums hM hM3 with ⟨z, nums', e⟩ | ⟨z, hz⟩
      · omega
      · rcases hz with ⟨z1, nums', e⟩ | ⟨z1, nums', e, hns⟩
        · have := hok.2
          omega
        · have hh := rr_here (lt := lt) M hM hL hM3 (by omega)
          have hla := rc_letterAt (lt := lt) G hG hL (p := st) (by omega)
          rcases ra_take G (ra_un M 3 (st + ra_sl (ra_cd0 L lt st))) hG hL hlt (st := st) (by omega) h h8 hok nums' hns with ⟨γ', κ', τ', t1, t2, t3, t4⟩ | ⟨a, b, c, s', t1, t2⟩
          · have hA : f_X2_takeStatements_L17 (ra_nf G) (ra_nf lt) ng nk nt (m + 1) x1 (nI st) (nI n) (ra_nf γ) (ra_nf κ) (ra_nf τ) = f_X2_takeStatements_L17 (ra_nf G) (ra_nf lt) ng nk nt m (x1 + 1) (nI (st + ra_sl (ra_cd0 L lt st))) (nI (n + 1)) (ra_nf γ') (ra_nf κ') (ra_nf τ') := by
              rw [f_X2_takeStatements_L17, if_neg k1, if_neg k2, t1, Option.bind_some, if_neg (show ¬ nI 1 = 0 by decide), Option.bind_some, hla, Option.bind_some, rc_sl hlt, Option.bind_some, nI_add, Option.bind_some, nI_1, Option.bind_some]
            have hB : f_X3_hand_L62 (ra_nf lt) x1' rd (m' + 1) (-9) (ra_nf M) (ra_st γ κ τ) nums = f_X3_hand_L62 (ra_nf lt) x1' rd m' (-9) (ra_nf (ra_un M 3 (st + ra_sl (ra_cd0 L lt st)))) (ra_st γ' κ' τ') nums' := by
              rw [f_X3_hand_L62, if_pos rfl, if_neg k3, Option.bind_some, hh, Option.bind_some, e, Option.bind_some, t2, Option.bind_some, if_neg (show ¬ nI 1 = 0 by decide)]
            rw [hA, hB]
            have hnc : ra_nc L lt (d + 1) st = 1 + ra_nc L lt d (st + ra_sl (ra_cd0 L lt st)) := by
              rw [ra_nc, if_neg cL]
            rcases ih (st + ra_sl (ra_cd0 L lt st)) (n + 1) m m' (x1 + 1) (ra_un M 3 (st + ra_sl (ra_cd0 L lt st))) nums' γ' κ' τ' hle (by omega) (by omega) (by omega) (by omega) hM rfl hch t3 t4 with ⟨r, a, b, c, M', nums2, q1, q2, q3, q4, q5, q6, q7⟩ | ⟨y, z, γ2, κ2, τ2, M', nums2, q1, q2, q3, q4, q5, q6, q7, q8⟩
            · exact Or.inl ⟨r, a, b, c, M', nums2, q1, q2, q3, q4, q5, q6, q7⟩
            · refine Or.inr ⟨y, z, γ2, κ2, τ2, M', nums2, q1, q2, q3, q4, ?_, q6, q7, q8⟩
              have ee : x1 + 1 + nI (ra_nc L lt d (st + ra_sl (ra_cd0 L lt st))) = x1 + nI (ra_nc L lt (d + 1) st) := by
                rw [hnc, ← nI_add, ← Int32.add_assoc]
                rfl
              rw [q5, ee]
          · left
            obtain ⟨m', rfl⟩ : ∃ q, m' = q + 1 := ⟨m' - 1, by omega⟩
            have e9 := ra_f92 st (by omega)
            refine ⟨-2000 - nI st, a, b, c, ra_un M 3 (st + ra_sl (ra_cd0 L lt st)), nums', rfl, rfl, rfl, rfl, e9, ?_, ?_⟩
            · rw [f_X2_takeStatements_L17, if_neg k1, if_neg k2, t1, Option.bind_some, if_pos (show nI 0 = 0 from rfl)]
            · rw [f_X3_hand_L62, if_pos rfl, if_neg k3, Option.bind_some, hh, Option.bind_some, e, Option.bind_some, t2, Option.bind_some, if_pos (show nI 0 = 0 from rfl), Option.bind_some, rr_lays, Option.bind_some, ra_nf_ap, hM3, f_X3_hand_L62, if_neg e9]
theorem tm_hand {γ κ τ : Nat → Nat} (G M : Nat → Nat) (hG : G 0 = L) (hM : M 1 = L) (hL : L ≤ 96) (hlt : ∀ j, lt j ≤ 255) (h : ra_ok γ κ τ) (h8 : γ 8 ≤ 999) (ta tb tc rd nums : Nat → Int32) :
    ∃ r γ' κ' τ' a b c M' rd' nums', f_X2_hand (ra_nf G) (ra_nf γ) (ra_nf κ) (ra_nf τ) ta tb tc (ra_nf lt) = some (r, ra_nf (ra_un G 0 0), ra_nf γ', ra_nf κ', ra_nf τ', a, b, c) ∧ f_X3_hand (ra_nf M) (ra_st γ κ τ) rd (ra_nf lt) nums = some (r, ra_nf (ra_un M' 1 0), ra_st γ' κ' τ', rd', nums') ∧ M' 0 = M 0 ∧ M' 2 = M 2 ∧ ra_ok γ' κ' τ' ∧ γ' 8 ≤ 999 := by
  have hz : upd (ra_nf G) 0 0 = ra_nf (ra_un G 0 0) := ra_upd G 0 0
  have hm3 : upd (ra_nf M) 3 0 = ra_nf (ra_un M 3 0) := ra_upd M 3 0
  have hfi : ∀ (r : Int32) (s : Nat → Int32) (M' : Nat → Nat) (nums' : Nat → Int32) (f1 : Nat) (x : Int32), ¬ r = -9 → 0 < f1 → f_X3_hand_L62 (ra_nf lt) x s f1 r (ra_nf M') s nums' = some (r, ra_nf M', s, nums') := by
    intro r s M' nums' f1 x hr hf
    obtain ⟨f1, rfl⟩ : ∃ q, f1 = q + 1 := ⟨f1 - 1, by omega⟩
    rw [f_X3_hand_L62, if_neg hr]
  unfold f_X2_hand f_X3_hand f_X2_formFault
  rw [hz, hm3]
  by_cases c0 : L = 0
  · have hfu : ∃ q, rf_fu = q + 1 := ⟨19999, rfl⟩
    obtain ⟨q, hq⟩ := hfu
    have hs0 : ra_sl (ra_cd0 L lt 0) = 0 := by
      unfold ra_cd0
      rw [if_neg (by omega)]
      rfl
    rcases rr_stmt hL hlt (st := 0) (by omega) (ra_un M 3 0) nums hM rfl with ⟨z, nums', e⟩ | ⟨z, hz⟩
    · have e9 := ra_f9 0 (by omega)
      have hA : f_X3_hand_L10 (ra_nf lt) (ra_st γ κ τ) rd rf_fu 0 (-9) (ra_nf (ra_un M 3 0)) nums = some (0 + 1, -1000 - nI 0, ra_nf (ra_un (ra_un M 3 0) 3 0), nums') := by
        have e3 : (-1000 : Int32) - ra_nf (ra_un (ra_un M 3 0) 3 0) 3 = (-1000) - nI 0 := by rw [ra_nf_ap, ra_us]
        have e10 : ¬ (-1000 : Int32) - ra_nf (ra_un (ra_un M 3 0) 3 0) 3 = -9 := by
          rw [e3]
          exact e9
        rw [hq, f_X3_hand_L10, e, Option.bind_some, if_pos (show nI 0 = 0 from rfl), Option.bind_some, Option.bind_some, if_neg e10, e3]
      rw [hA, Option.bind_some, rr_lays, Option.bind_some]
      have hu : upd (ra_nf (ra_un (ra_un M 3 0) 3 0)) 3 0 = ra_nf (ra_un (ra_un (ra_un M 3 0) 3 0) 3 0) := ra_upd _ 3 0
      have hB := hfi (-1000 - nI 0) (ra_st γ κ τ) (ra_un (ra_un (ra_un M 3 0) 3 0) 3 0) nums' rf_fu (0 + 1) e9 (by unfold rf_fu; omega)
      refine ⟨-1000 - nI 0, γ, κ, τ, ta, tb, tc, ra_un (ra_un (ra_un M 3 0) 3 0) 3 0, ra_st γ κ τ, nums', ?_, ?_, rfl, rfl, h, h8⟩
      · rw [if_pos (show ra_nf G 0 = 0 by rw [ra_nf_ap, hG, c0]; rfl), Option.bind_some, if_neg (by decide)]
        rfl
      · show (f_X3_hand_L62 (ra_nf lt) (0 + 1) (ra_st γ κ τ) rf_fu (-1000 - nI 0) (upd (ra_nf (ra_un (ra_un M 3 0) 3 0)) 3 0) (ra_st γ κ τ) nums').bind _ = _
        rw [hu, hB, Option.bind_some, if_neg e9]
        show some (-1000 - nI 0, upd (ra_nf (ra_un (ra_un (ra_un M 3 0) 3 0) 3 0)) 1 (nI 0), _) = _
        rw [ra_upd]
    · omega
  · rw [if_neg (show ¬ ra_nf G 0 = 0 by rw [ra_nf_ap, hG]; exact nI_ne0 (by omega) (by omega))]
    rcases ra_P1 (lt := lt) G hG hL hlt (ra_st γ κ τ) rd L 0 0 rf_fu rf_fu 0 (ra_un M 3 0) nums (by omega) (by omega) (by omega) (by unfold rf_fu; omega) (by unfold rf_fu; omega) hM rfl with ⟨p, y, M', nums', q1, q2, q3, q4, q5, q6, q7⟩ | ⟨y, M', nums', q2, q3, q4, q5, q6, q7, q8⟩
    · have e9 := ra_f9 p q1
      have q6 : f_X2_formFault_L13 (ra_nf G) (ra_nf lt) rf_fu 0 0 = _ := q6
      have hu : upd (ra_nf M') 3 0 = ra_nf (ra_un M' 3 0) := ra_upd _ 3 0
      have hB := hfi (-1000 - nI p) (ra_st γ κ τ) (ra_un M' 3 0) nums' rf_fu y e9 (by unfold rf_fu; omega)
      refine ⟨-1000 - nI p, γ, κ, τ, ta, tb, tc, ra_un M' 3 0, ra_st γ κ τ, nums', ?_, ?_, q2, q4, h, h8⟩
      · rw [q6]
        show (if nI p < 0 then _ else (some (-1000 - nI p)).bind _) = _
        rw [if_neg (nI_pos (by omega))]
        rfl
      · rw [q7, Option.bind_some, rr_lays, Option.bind_some]
        show (f_X3_hand_L62 (ra_nf lt) y (ra_st γ κ τ) rf_fu (-1000 - nI p) (upd (ra_nf M') 3 0) (ra_st γ κ τ) nums').bind _ = _
        rw [hu, hB, Option.bind_some, if_neg e9]
        show some (-1000 - nI p, upd (ra_nf (ra_un M' 3 0)) 1 (nI 0), _) = _
        rw [ra_upd]
    · have q7 : f_X2_formFault_L13 (ra_nf G) (ra_nf lt) rf_fu 0 0 = _ := q7
      have hu : upd (ra_nf M') 3 0 = ra_nf (ra_un M' 3 0) := ra_upd _ 3 0
      have hff : ∀ {β : Type} (A B : Option β), ((((f_X2_formFault_L13 (ra_nf G) (ra_nf lt) rf_fu 0 0).bind fun (q16 : (Int32) ⊕ (Int32 × Int32)) => rf_sum q16 (fun r => some r) (fun (x17 : Int32 × Int32) => some (-1))).bind fun (q1 : Int32) => if q1 < 0 then A else B) = A) := by
        intro β A B
        rw [q7]
        show (if (-1 : Int32) < 0 then A else B) = A
        rw [if_pos (by decide)]
      unfold f_X2_takeStatements
      rw [rc_copy, Option.bind_some]
      rcases ra_P2 (lt := lt) G hG hL hlt (ra_nf γ) (ra_nf κ) (ra_nf τ) (ra_st γ κ τ) (0 + nI (ra_nc L lt L 0)) L 0 0 rf_fu rf_fu 0 (ra_un M' 3 0) nums' γ κ τ (by omega) (by omega) (by omega) (by unfold rf_fu; omega) (by unfold rf_fu; omega) (q3.trans hM) rfl q6 h h8 with ⟨r, a, b, c, M2, nums2, w1, w2, w3, w4, w5, w6, w7⟩ | ⟨y2, z2, γ', κ', τ', M2, nums2, w1, w2, w3, w4, w5, w6, w7, w8⟩
      · have w6 : f_X2_takeStatements_L17 (ra_nf G) (ra_nf lt) (ra_nf γ) (ra_nf κ) (ra_nf τ) rf_fu 0 0 0 (ra_nf γ) (ra_nf κ) (ra_nf τ) = _ := w6
        refine ⟨r, γ, κ, τ, a, b, c, M2, ra_st γ κ τ, nums2, ?_, ?_, w1.trans q2, w3.trans q4, h, h8⟩
        · rw [w6, q7]
          rfl
        · rw [q8, Option.bind_some, rr_lays, Option.bind_some]
          show (f_X3_hand_L62 (ra_nf lt) (0 + nI (ra_nc L lt L 0)) (ra_st γ κ τ) rf_fu (-9) (upd (ra_nf M') 3 0) (ra_st γ κ τ) nums').bind _ = _
          rw [hu, w7, Option.bind_some, if_neg w5]
          show some (r, upd (ra_nf M2) 1 (nI 0), _) = _
          rw [ra_upd]
      · have w5 : f_X2_takeStatements_L17 (ra_nf G) (ra_nf lt) (ra_nf γ) (ra_nf κ) (ra_nf τ) rf_fu 0 0 0 (ra_nf γ) (ra_nf κ) (ra_nf τ) = _ := w5
        refine ⟨0 + nI (ra_nc L lt L 0), γ', κ', τ', ra_nf γ', ra_nf κ', ra_nf τ', M2, ra_st γ κ τ, nums2, ?_, ?_, w1.trans q2, w3.trans q4, w7, w8⟩
        · rw [w5, q7]
          rfl
        · rw [q8, Option.bind_some, rr_lays, Option.bind_some]
          show (f_X3_hand_L62 (ra_nf lt) (0 + nI (ra_nc L lt L 0)) (ra_st γ κ τ) rf_fu (-9) (upd (ra_nf M') 3 0) (ra_st γ κ τ) nums').bind _ = _
          rw [hu, w6, Option.bind_some, if_pos rfl]
          show some (0 + nI (ra_nc L lt L 0), upd (ra_nf M2) 1 (nI 0), _) = _
          rw [ra_upd]
end
end RAHand3
