/-! the law's own methods: what the places keep, numbers read as naturals -/
theorem ct1 (z : CS) : v_X5_count z (1 : Int32) = v_X1_countBills (z.2 (z.1 0)) (-9 : Int32) (-9 : Int32) := rfl
def cN (z : CS) : Nat := (v_X5_count z (1 : Int32)).toNatClampNeg
def qN (z : CS) : Nat := ((v_X5_count z (0 : Int32)) / (100 : Int32)).toNatClampNeg
theorem cN_eq (z : CS) : v_X5_count z (1 : Int32) = nI (cN z) := by
  obtain ⟨c, h1, h2⟩ := countBills_nat (z.2 (z.1 0)) (-9 : Int32) (-9 : Int32)
  have h3 : v_X5_count z (1 : Int32) = nI c := (ct1 z).trans h2
  unfold cN
  rw [h3, nI_clamp (by omega)]
theorem cN_le (z : CS) : cN z ≤ 40 := by
  obtain ⟨c, h1, h2⟩ := countBills_nat (z.2 (z.1 0)) (-9 : Int32) (-9 : Int32)
  have h3 : v_X5_count z (1 : Int32) = nI c := (ct1 z).trans h2
  unfold cN
  rw [h3, nI_clamp (by omega)]
  exact h1
theorem lo_n (z : CS) : ¬ (v_X5_count z (1 : Int32)) + (1 : Int32) = 0 := by
  have h := cN_le z
  rw [cN_eq z, nI_1]
  exact nI_ne0 (by omega) (by omega)
theorem RJ_perm {R R' : Nat → Nat} (σ : Nat → Nat) (hs : ∀ i, i < 6 → σ i < 6) (hi : ∀ i j, i < 6 → j < 6 → σ i = σ j → i = j) (h : ∀ i, i < 6 → R' i = R (σ i)) (hJ : RJ R) : RJ R' := by
  refine ⟨fun i j h1 h2 e => ?_, fun k hk => ?_⟩
  · rw [h i h1, h j h2] at e
    exact hi i j h1 h2 (hJ.1 _ _ (hs i h1) (hs j h2) e)
  · rw [h k hk]; exact hJ.2 _ (hs k hk)
theorem RI_perm {R R' : Nat → Nat} (σ : Nat → Nat) (hs : ∀ i, i < 6 → σ i < 6) (h : ∀ i, i < 6 → R' i = R (σ i)) (hI : RI R) : RI R' := fun k hk => by
  rw [h k hk]; exact hI _ (hs k hk)
def sw2 (a b : Nat) : Nat → Nat := fun i => if i = b then a else if i = a then b else i
theorem sw2_lt {a b : Nat} (ha : a < 6) (hb : b < 6) : ∀ i, i < 6 → sw2 a b i < 6 := fun i hi => by
  unfold sw2
  split
  · exact ha
  · split
    · exact hb
    · exact hi
theorem sw2_inj {a b : Nat} : ∀ i j, i < 6 → j < 6 → sw2 a b i = sw2 a b j → i = j := fun i j _ _ h => by
  unfold sw2 at h
  repeat' split at h
  all_goals omega
theorem sw2_R {R : Nat → Nat} {a b : Nat} : ∀ i, i < 6 → upR (upR R a (R b)) b (R a) i = R (sw2 a b i) := fun i _ => by
  unfold upR sw2
  by_cases h1 : i = b
  · rw [if_pos h1, if_pos h1]
  · rw [if_neg h1, if_neg h1]
    by_cases h2 : i = a
    · rw [if_pos h2, if_pos h2]
    · rw [if_neg h2, if_neg h2]
def rot5 : Nat → Nat := fun i => if i = 1 then 2 else if i = 5 then 1 else if i = 0 then 0 else i + 1
theorem rot5_lt : ∀ i, i < 6 → rot5 i < 6 := by decide
theorem rot5_inj : ∀ i j, i < 6 → j < 6 → rot5 i = rot5 j → i = j := fun i j _ _ h => by
  unfold rot5 at h
  repeat' split at h
  all_goals omega
theorem rot5_R {R : Nat → Nat} : ∀ i, i < 6 → upR (upR (upR (upR (upR R 2 (R 3)) 3 (R 4)) 4 (R 5)) 5 (R 1)) 1 (R 2) i = R (rot5 i) := fun i hi => by
  rcases (show i = 0 ∨ i = 1 ∨ i = 2 ∨ i = 3 ∨ i = 4 ∨ i = 5 by omega) with rfl | rfl | rfl | rfl | rfl | rfl <;> rfl
/-- which place stands where behind an act -/
theorem eA_1 (y : CS) (p : Int32) : (p < 0 ∧ (w_X5_endAct y p).1 = upR (upR y.1 1 (y.1 0)) 0 (y.1 1)) ∨ (∃ k : Nat, k < 4 ∧ (w_X5_endAct y p).1 = upR (upR y.1 (2 + k) (y.1 1)) 1 (y.1 (2 + k))) ∨ (w_X5_endAct y p).1 = upR (upR (upR (upR (upR y.1 2 (y.1 3)) 3 (y.1 4)) 4 (y.1 5)) 5 (y.1 1)) 1 (y.1 2) := by
  unfold w_X5_endAct
  by_cases h : p < 0
  · rw [if_pos h]; exact Or.inl ⟨h, rfl⟩
  rw [if_neg h]
  right
  unfold w_X2_add v_X2_add
  by_cases c1 : y.2 7 1 1 < 0
  · rw [if_pos c1, if_pos c1]; exact Or.inr rfl
  rw [if_neg c1, if_neg c1]
  by_cases c2 : (4 : Int32) ≤ y.2 7 1 1
  · rw [if_pos c2, if_pos c2]; exact Or.inr rfl
  rw [if_neg c2, if_neg c2]
  exact Or.inl ⟨_, vp_lt (vp_of (vp_lo1 c1) (vp_hi1 (n := 4) c2 rfl (by decide))), rfl⟩
theorem IJ_eA {y : CS} {p : Int32} (hI : RI y.1) (hJ : RJ y.1) : RI (w_X5_endAct y p).1 ∧ RJ (w_X5_endAct y p).1 := by
  rcases eA_1 y p with ⟨-, e⟩ | ⟨k, hk, e⟩ | e
  · rw [e]; exact ⟨RI_perm (sw2 1 0) (sw2_lt (by decide) (by decide)) sw2_R hI, RJ_perm (sw2 1 0) (sw2_lt (by decide) (by decide)) sw2_inj sw2_R hJ⟩
  · rw [e]; exact ⟨RI_perm (sw2 (2 + k) 1) (sw2_lt (by omega) (by decide)) sw2_R hI, RJ_perm (sw2 (2 + k) 1) (sw2_lt (by omega) (by decide)) sw2_inj sw2_R hJ⟩
  · rw [e]; exact ⟨RI_perm rot5 rot5_lt rot5_R hI, RJ_perm rot5 rot5_lt rot5_inj rot5_R hJ⟩
theorem IJ_z {y z : CS} (e : y.1 = z.1) (hI : RI z.1) (hJ : RJ z.1) : RI y.1 ∧ RJ y.1 := by rw [e]; exact ⟨hI, hJ⟩
theorem IJ_sA {z : CS} {r : Nat} {W : Nat → Nat → Int32} {p : Int32} (hI : RI z.1) (hJ : RJ z.1) : RI (w_X5_endAct (zB (w_X5_startAct z) r W) p).1 ∧ RJ (w_X5_endAct (zB (w_X5_startAct z) r W) p).1 :=
  have h := IJ_z (y := zB (w_X5_startAct z) r W) (z := z) (fst_zB.trans startAct_R) hI hJ
  IJ_eA h.1 h.2
theorem IJ_pay {z : CS} {p1 p2 : Int32} (hI : RI z.1) (hJ : RJ z.1) : RI (w_X5_pay z p1 p2).1 ∧ RJ (w_X5_pay z p1 p2).1 := IJ_sA hI hJ
theorem IJ_pass {z : CS} {p1 : Int32} (hI : RI z.1) (hJ : RJ z.1) : RI (w_X5_pass z p1).1 ∧ RJ (w_X5_pass z p1).1 := IJ_sA hI hJ
theorem iP_1 {z : CS} {p1 p2 p3 : Int32} : (w_X5_ifPaid z p1 p2 p3).1 = z.1 := by
  have hC : ∀ (r : Nat) (b : Nat → Nat → Int32), (zB (w_X1_copyFrom z (z.1 1) (z.1 0)) r b).1 = z.1 := fun r b => fst_zB.trans copyFrom1_R
  unfold w_X5_ifPaid
  by_cases c1 : v_X5_isCustomer p1 = 0
  · rw [if_pos c1]
  rw [if_neg c1]
  by_cases c2 : v_X5_isAmount p2 = 0
  · rw [if_pos c2]
  rw [if_neg c2]
  by_cases c3 : p3 < 0
  · rw [if_pos c3]
  rw [if_neg c3]
  by_cases c4 : p3 ≤ (3 : Int32)
  · rw [if_pos c4, ite_self, ite_self, ite_self, ite_self]
    exact hC _ _
  · rw [if_neg c4]
theorem IJ_ifPaid {z : CS} {p1 p2 p3 : Int32} (hI : RI z.1) (hJ : RJ z.1) : RI (w_X5_ifPaid z p1 p2 p3).1 ∧ RJ (w_X5_ifPaid z p1 p2 p3).1 := IJ_z iP_1 hI hJ
theorem upR_eq {R : Nat → Nat} {k : Nat} : upR R k (R k) = R := by
  funext i
  unfold upR
  split
  · rename_i h; rw [h]
  · rfl
theorem IJ_undo {z : CS} (hI : RI z.1) (hJ : RJ z.1) : RI (w_X5_undo z).1 ∧ RJ (w_X5_undo z).1 := by
  unfold w_X5_undo
  split
  · exact ⟨hI, hJ⟩
  unfold w_X2_takeLatest v_X2_takeLatest
  by_cases c1 : z.2 7 1 1 ≤ 0
  · rw [if_pos c1, if_pos c1]; exact IJ_z (y := zR z 0 (z.1 0)) upR_eq hI hJ
  rw [if_neg c1, if_neg c1]
  by_cases c2 : z.2 7 1 1 ≤ (4 : Int32)
  · rw [if_pos c2, if_pos c2]
    have hk := vp_lt (vp_dec c1 c2)
    have e : (zR (zR (w7 z 1 1 ((z.2 7 1 1) - (1 : Int32))) (2 + ((z.2 7 1 1) - (1 : Int32)).toNatClampNeg) (z.1 0)) 0 ((w7 z 1 1 ((z.2 7 1 1) - (1 : Int32))).1 (2 + ((z.2 7 1 1) - (1 : Int32)).toNatClampNeg))).1 = upR (upR z.1 (2 + ((z.2 7 1 1) - (1 : Int32)).toNatClampNeg) (z.1 0)) 0 (z.1 (2 + ((z.2 7 1 1) - (1 : Int32)).toNatClampNeg)) := rfl
    rw [e]
    exact ⟨RI_perm (sw2 _ 0) (sw2_lt (by omega) (by decide)) sw2_R hI, RJ_perm (sw2 _ 0) (sw2_lt (by omega) (by decide)) sw2_inj sw2_R hJ⟩
  · rw [if_neg c2, if_neg c2]; exact IJ_z (y := zR z 0 (z.1 0)) upR_eq hI hJ
