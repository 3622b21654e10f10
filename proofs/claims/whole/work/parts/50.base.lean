/-! numbers of both sides as naturals -/
section RABase
theorem ra_lit (n : Nat) : (OfNat.ofNat n : Int32) = nI (OfNat.ofNat n) := Eq.trans rfl rfl
def ra_un (σ : Nat → Nat) (k v : Nat) : Nat → Nat := fun j => if j = k then v else σ j
def ra_nf (σ : Nat → Nat) : Nat → Int32 := fun i => nI (σ i)
theorem ra_nf_ap (σ : Nat → Nat) (i : Nat) : ra_nf σ i = nI (σ i) := rfl
theorem ra_upd (σ : Nat → Nat) (k v : Nat) : upd (ra_nf σ) k (nI v) = ra_nf (ra_un σ k v) := by
  funext j
  unfold upd ra_nf ra_un
  split <;> rfl
theorem ra_us (σ : Nat → Nat) (k v : Nat) : ra_un σ k v k = v := by
  unfold ra_un
  rw [if_pos rfl]
theorem ra_ud (σ : Nat → Nat) {k j : Nat} (v : Nat) (h : j ≠ k) : ra_un σ k v j = σ j := by
  unfold ra_un
  rw [if_neg h]
theorem ra_int (x : Int32) : ∃ n : Nat, n < 2 ^ 32 ∧ x = nI n :=
  ⟨x.toBitVec.toNat, x.toBitVec.isLt, Int32.toBitVec_inj.mp (BitVec.eq_of_toNat_eq (by rw [pk_tn x.toBitVec.isLt]))⟩
theorem ra_fex (f : Nat → Int32) : ∃ σ : Nat → Nat, f = ra_nf σ :=
  ⟨fun i => (f i).toBitVec.toNat, funext fun i => Int32.toBitVec_inj.mp (BitVec.eq_of_toNat_eq (by unfold ra_nf; rw [pk_tn (f i).toBitVec.isLt]))⟩
theorem ra_mx {a b : Nat} (ha : a < 2 ^ 30) (hb : b < 2 ^ 30) : rf_max 0 (nI a - nI b) = nI (a - b) := by
  unfold rf_max
  by_cases h : b ≤ a
  · rw [pk_sub h]
    by_cases h2 : b = a
    · subst h2
      rw [Nat.sub_self]
      rfl
    · rw [if_pos (show (0 : Int32) < nI (a - b) from (nI_ltI (a := 0) (b := a - b) (by decide) (by omega)).mpr (by omega))]
  · have : nI a - nI b < 0 := pk_sneg hb (by omega)
    rw [if_neg (fun z => by
      have h1 := Int32.lt_iff_toInt_lt.mp this
      have h2 := Int32.lt_iff_toInt_lt.mp z
      omega), show a - b = 0 by omega]
    rfl
theorem ra_mxn {a b : Nat} (ha : a < 2 ^ 31) (hb : b < 2 ^ 31) : rf_max (nI a) (nI b) = nI (max a b) := by
  unfold rf_max
  by_cases h : a < b
  · rw [if_pos ((nI_ltI ha hb).mpr h), show max a b = b by omega]
  · rw [if_neg (fun z => h ((nI_ltI ha hb).mp z)), show max a b = a by omega]
theorem ra_mnn {a b : Nat} (ha : a < 2 ^ 31) (hb : b < 2 ^ 31) : rf_min (nI a) (nI b) = nI (min a b) := by
  unfold rf_min
  by_cases h : b < a
  · rw [if_pos ((nI_ltI hb ha).mpr h), show min a b = b by omega]
  · rw [if_neg (fun z => h ((nI_ltI hb ha).mp z)), show min a b = a by omega]
theorem ra_most (a b : Int32) : f_X3_most a b = some (rf_max a b) := by
  unfold f_X3_most rf_max
  by_cases h : a ≤ b
  · rw [if_pos h]
    by_cases h2 : a < b
    · rw [if_pos h2]
    · rw [if_neg h2]
      have h3 := Int32.le_iff_toInt_le.mp h
      have h4 : ¬ a.toInt < b.toInt := fun z => h2 (Int32.lt_iff_toInt_lt.mpr z)
      rw [Int32.toInt_inj.mp (show a.toInt = b.toInt by omega)]
  · rw [if_neg h, if_neg (fun z => h (Int32.le_iff_toInt_le.mpr (by have := Int32.lt_iff_toInt_lt.mp z; omega)))]
theorem ra_least (a b : Int32) : f_X3_least a b = some (rf_min a b) := by
  unfold f_X3_least rf_min
  by_cases h : b ≤ a
  · rw [if_pos h]
    by_cases h2 : b < a
    · rw [if_pos h2]
    · rw [if_neg h2]
      have h3 := Int32.le_iff_toInt_le.mp h
      have h4 : ¬ b.toInt < a.toInt := fun z => h2 (Int32.lt_iff_toInt_lt.mpr z)
      rw [Int32.toInt_inj.mp (show b.toInt = a.toInt by omega)]
  · rw [if_neg h, if_neg (fun z => h (Int32.le_iff_toInt_le.mpr (by have := Int32.lt_iff_toInt_lt.mp z; omega)))]
theorem ra_at {n : Nat} (f : Nat → Int32) {i : Nat} (hi : i < n) (hn : n < 2 ^ 31) : f_X2_at n f (nI i) = some (f i) := by
  unfold f_X2_at
  rw [if_neg (nI_pos (by omega)), if_neg (show ¬ Int32.ofNat n ≤ nI i from nI_ge hi hn), if_pos (nI_in hi hn), nI_clamp (by omega)]
theorem ra_put {n : Nat} (f : Nat → Int32) {i : Nat} (v : Int32) (hi : i < n) (hn : n < 2 ^ 31) : f_X2_put n f (nI i) v = some (upd f i v) := by
  unfold f_X2_put
  rw [if_neg (nI_pos (by omega)), if_neg (show ¬ Int32.ofNat n ≤ nI i from nI_ge hi hn), if_pos (nI_in hi hn), nI_clamp (by omega)]
theorem ra_mx0 {a b : Nat} (ha : a < 2 ^ 30) (hb : b < 2 ^ 30) : rf_max (nI 0) (nI a - nI b) = nI (a - b) := ra_mx ha hb
theorem ra_at0 {n : Nat} (f : Nat → Int32) (hi : 0 < n) (hn : n < 2 ^ 31) : f_X2_at n f 0 = some (f 0) := ra_at f hi hn
def ra_tk (k th sw co he : Nat) : Nat :=
  if k = 1 then th + sw / 2 - co / 4 else if k = 2 then th + sw - co + sw else if k = 3 then th + sw - co + sw + (if 9 < sw then 3 else 0) else if k = 4 then th + sw / 2 - co / 4 + he else if k = 5 then th + sw / 2 - co / 4 + he - 10 else th + sw - co
theorem ra_tk_le {k th sw co he : Nat} (h2 : th < 1000) (h3 : sw < 1000) (h5 : he < 1000) : ra_tk k th sw co he < 10000 := by
  unfold ra_tk
  repeat' split
  all_goals omega
theorem ra_tkC {k th sw co he : Nat} (h1 : k < 100) (h2 : th < 1000) (h3 : sw < 1000) (h4 : co < 1000) (h5 : he < 1000) : f_X2_thickness (nI k) (nI th) (nI sw) (nI co) (nI he) = some (nI (ra_tk k th sw co he)) := by
  unfold f_X2_thickness ra_tk
  simp (disch := omega) only [ra_lit, nI_add, pk_div, ra_mx0, Option.bind_some, nI_eq, nI_leI]
  repeat' split
  all_goals first | rfl | omega | (congr 2; omega)
theorem ra_tkR {k th sw co he : Nat} (h1 : k < 100) (h2 : th < 1000) (h3 : sw < 1000) (h4 : co < 1000) (h5 : he < 1000) : f_X3_thickOf (nI k) (nI th) (nI sw) (nI co) (nI he) = some (nI (ra_tk k th sw co he)) := by
  unfold f_X3_thickOf ra_tk
  simp (disch := omega) only [ra_lit, nI_add, pk_div, ra_mx0, Option.bind_some, nI_eq, nI_leI, ra_most, ra_mxn]
  repeat' split
  all_goals first | rfl | omega | (congr 2; omega)
def ra_al (k br : Nat) : Nat := if k = 1 then 4 else if k = 2 then 7 else if k = 3 then 9 - br else if k = 4 then 6 else if k = 5 then 15 else if k = 6 then 4 else 0
def ra_mi (k : Nat) : Nat := if k = 1 then 2 else if k = 2 then 3 else if k = 3 then 4 else if k = 5 then 6 else if k = 6 then 8 else 1
def ra_sw (k : Nat) : Nat := if k = 2 then 3 else if k = 3 then 1 else if k = 5 then 1 else if k = 4 then 5 else 2
def ra_hm (k : Nat) : Nat := if k = 4 then 3 else if k = 5 then 2 else 1
def ra_cd (k co : Nat) : Nat := if k = 6 then min 20 (co + 8) else co
theorem ra_al_le (k br : Nat) : ra_al k br ≤ 15 := by
  unfold ra_al
  repeat' split
  all_goals omega
theorem ra_mi_le (k : Nat) : 1 ≤ ra_mi k ∧ ra_mi k ≤ 8 := by
  unfold ra_mi
  repeat' split
  all_goals omega
theorem ra_sw_le (k : Nat) : 1 ≤ ra_sw k ∧ ra_sw k ≤ 5 := by
  unfold ra_sw
  repeat' split
  all_goals omega
theorem ra_hm_le (k : Nat) : 1 ≤ ra_hm k ∧ ra_hm k ≤ 3 := by
  unfold ra_hm
  repeat' split
  all_goals omega
theorem ra_cd_le {k co : Nat} (h : co ≤ 20) : ra_cd k co ≤ 20 ∧ co ≤ ra_cd k co := by
  unfold ra_cd
  split <;> omega
theorem ra_alC {k br : Nat} (hk : k < 1000) (hb : br ≤ 9) : f_X2_allowance (nI k) (nI br) = some (nI (ra_al k br)) := by
  unfold f_X2_allowance ra_al
  simp (disch := omega) only [ra_lit, nI_eq, pk_sub]
  repeat' split
  all_goals rfl
theorem ra_alR (g : Nat → Int32) (σ : Nat → Nat) {k : Nat} (hk : k < 1000) (hb : σ 2 ≤ 9) : f_X3_allows g (ra_nf σ) (nI k) = some (nI (ra_al k (σ 2))) := by
  unfold f_X3_allows ra_al
  simp (disch := omega) only [ra_lit, nI_eq, pk_sub, ra_nf_ap]
  repeat' split
  all_goals rfl
theorem ra_miR {k : Nat} (hk : k < 1000) : f_X3_minutesOf (nI k) = some (nI (ra_mi k)) := by
  unfold f_X3_minutesOf ra_mi
  simp (disch := omega) only [ra_lit, nI_eq]
  repeat' split
  all_goals rfl
theorem ra_swR {k : Nat} (hk : k < 1000) : f_X3_swellsBy (nI k) = some (nI (ra_sw k)) := by
  unfold f_X3_swellsBy ra_sw
  simp (disch := omega) only [ra_lit, nI_eq]
  repeat' split
  all_goals rfl
theorem ra_hmR {k : Nat} (hk : k < 1000) : f_X3_harmOf (nI k) = some (nI (ra_hm k)) := by
  unfold f_X3_harmOf ra_hm
  simp (disch := omega) only [ra_lit, nI_eq]
  repeat' split
  all_goals rfl
theorem ra_cdR {k co : Nat} (hk : k < 1000) (hc : co < 1000) : f_X3_coldBy (nI k) (nI co) = some (nI (ra_cd k co)) := by
  unfold f_X3_coldBy ra_cd
  simp (disch := omega) only [ra_lit, nI_eq, ra_least, nI_add, ra_mnn, Option.bind_some]
  repeat' split
  all_goals rfl
theorem ra_a2 : ∀ k, k < 7 → rf_a2 k = nI (ra_mi k) := by decide
theorem ra_a3 : ∀ k, k < 7 → rf_a3 k = nI (ra_sw k) := by decide
theorem ra_a4 : ∀ k, k < 7 → rf_a4 k = nI (ra_hm k) := by decide
theorem ra_ltT {a b : Nat} (h : a < b) : (a < b) = True := eq_true h
theorem ra_ltF {a b : Nat} (h : b ≤ a) : (a < b) = False := eq_false (by omega)
theorem ra_leT {a b : Nat} (h : a ≤ b) : (a ≤ b) = True := eq_true h
theorem ra_leF {a b : Nat} (h : b < a) : (a ≤ b) = False := eq_false (by omega)
theorem ra_eqT {a b : Nat} (h : a = b) : (a = b) = True := eq_true h
theorem ra_eqF {a b : Nat} (h : a ≠ b) : (a = b) = False := eq_false h
theorem ra_10 : (nI 1 = nI 0) = False := eq_false (by decide)
theorem ra_00 : (nI 0 = nI 0) = True := eq_true rfl
end RABase
