/-! the outer memory: which books hold numbers, how many states are kept -/
def NV (z : CS) (k : Nat) : Prop := RI z.1 ∧ RJ z.1 ∧ KX (z.2 (z.1 0)) ∧ k ≤ 4 ∧ z.2 7 1 1 = nI k ∧ ∀ i, i < k → KX (z.2 (z.1 (2 + i)))
def up4 (k : Nat) : Nat := if k = 4 then 4 else k + 1
section NV
variable {z y : CS} {k : Nat} {W : Nat → Nat → Int32} {ans : Int32}
theorem NV_no (h : NV z k) (hy : MD z y W) (ha : ans < 0) : NV (w_X5_endAct y ans) k ∧ cpE ((w_X5_endAct y ans).2 ((w_X5_endAct y ans).1 0)) (z.2 (z.1 0)) := by
  obtain ⟨hI, hJ, hN, hk, h4, h6⟩ := h
  obtain ⟨m1, m2, m3, m4⟩ := hy
  have e7 : y.2 7 = z.2 7 := m3 7 (by have := hI 0 (by decide); omega) (by have := hI 1 (by decide); omega)
  unfold w_X5_endAct
  rw [if_pos ha]
  have hR : (zR (zR y 1 (y.1 0)) 0 (y.1 1)).1 = upR (upR z.1 1 (z.1 0)) 0 (z.1 1) := by
    show upR (upR y.1 1 (y.1 0)) 0 (y.1 1) = _
    rw [m1]
  have hP : (zR (zR y 1 (y.1 0)) 0 (y.1 1)).2 = y.2 := rfl
  refine ⟨⟨?_, ?_, ?_, hk, ?_, fun i hi => ?_⟩, ?_⟩
  · rw [hR]; exact RI_perm (sw2 1 0) (sw2_lt (by decide) (by decide)) sw2_R hI
  · rw [hR]; exact RJ_perm (sw2 1 0) (sw2_lt (by decide) (by decide)) sw2_inj sw2_R hJ
  · rw [hR, hP, upR_same]; exact KX_cp hN m4
  · rw [hP, e7]; exact h4
  · rw [hR, hP, upR_ne (by omega), upR_ne (by omega), m3 _ (RJ_ne hJ (by omega) (by decide) (by omega)) (RJ_ne hJ (by omega) (by decide) (by omega))]; exact h6 i hi
  · rw [hR, hP, upR_same]; exact m4
theorem NV_ok (h : NV z k) (hy : MD z y W) (ha : ¬ ans < 0) (hW : KX W) : NV (w_X5_endAct y ans) (up4 k) ∧ (w_X5_endAct y ans).2 ((w_X5_endAct y ans).1 0) = W ∧ cpE ((w_X5_endAct y ans).2 ((w_X5_endAct y ans).1 (2 + (up4 k - 1)))) (z.2 (z.1 0)) := by
  obtain ⟨hI, hJ, hN, hk, h4, h6⟩ := h
  obtain ⟨m1, m2, m3, m4⟩ := hy
  have e7 : y.2 7 = z.2 7 := m3 7 (by have := hI 0 (by decide); omega) (by have := hI 1 (by decide); omega)
  have ecnt : y.2 7 1 1 = nI k := by rw [e7]; exact h4
  have hold : ∀ i, 2 ≤ i → i < 6 → y.2 (z.1 i) = z.2 (z.1 i) := fun i g1 g2 => m3 _ (RJ_ne hJ g2 (by decide) (by omega)) (RJ_ne hJ g2 (by decide) (by omega))
  have hlt : ∀ i, i < 6 → z.1 i ≠ 7 := fun i hi => by have := hI i hi; omega
  unfold w_X5_endAct w_X2_add v_X2_add
  rw [if_neg ha, ecnt, if_neg (nI_pos (by omega)), if_neg (nI_pos (by omega))]
  by_cases g4 : k = 4
  · subst g4
    have eu : up4 4 = 4 := rfl
    rw [if_pos (show (4 : Int32) ≤ nI 4 by decide), if_pos (show (4 : Int32) ≤ nI 4 by decide), eu]
    have hR : (zR (w_X2_add_loop y (y.1 1) 3 0 y) 1 (v_X2_add_loop y (y.1 1) 3 0 y)).1 = upR (upR (upR (upR (upR z.1 2 (z.1 3)) 3 (z.1 4)) 4 (z.1 5)) 5 (z.1 1)) 1 (z.1 2) := by
      rw [← m1]; rfl
    have hP : (zR (w_X2_add_loop y (y.1 1) 3 0 y) 1 (v_X2_add_loop y (y.1 1) 3 0 y)).2 = y.2 := rfl
    refine ⟨⟨?_, ?_, ?_, by omega, ?_, fun i hi => ?_⟩, ?_, ?_⟩
    · rw [hR]; exact RI_perm rot5 rot5_lt rot5_R hI
    · rw [hR]; exact RJ_perm rot5 rot5_lt rot5_inj rot5_R hJ
    · rw [hR, rot5_R 0 (by decide), hP]
      show KX (y.2 (z.1 0))
      rw [m2]; exact hW
    · rw [hP]; exact ecnt
    · rw [hR, rot5_R (2 + i) (by omega), hP]
      by_cases g : i = 3
      · subst g
        show KX (y.2 (z.1 1))
        exact KX_cp hN m4
      · rw [show rot5 (2 + i) = 2 + (i + 1) by unfold rot5; rw [if_neg (by omega), if_neg (by omega), if_neg (by omega)]; omega, hold _ (by omega) (by omega)]
        exact h6 (i + 1) (by omega)
    · rw [hR, rot5_R 0 (by decide), hP]
      exact m2
    · rw [hR, rot5_R _ (by decide), hP]
      exact m4
  · have eu : up4 k = k + 1 := if_neg g4
    have hk4 : k < 4 := by omega
    rw [if_neg (show ¬ (4 : Int32) ≤ nI k from nI_ge (b := 4) hk4 (by decide)), if_neg (show ¬ (4 : Int32) ≤ nI k from nI_ge (b := 4) hk4 (by decide)), nI_clamp (by omega), eu]
    have hR : (zR (w7 (zR y (2 + k) (y.1 1)) 1 1 (nI k + (1 : Int32))) 1 (y.1 (2 + k))).1 = upR (upR z.1 (2 + k) (z.1 1)) 1 (z.1 (2 + k)) := by
      show upR (upR y.1 (2 + k) (y.1 1)) 1 (y.1 (2 + k)) = _
      rw [m1]
    have hP : ∀ q, q ≠ 7 → (zR (w7 (zR y (2 + k) (y.1 1)) 1 1 (nI k + (1 : Int32))) 1 (y.1 (2 + k))).2 q = y.2 q := fun q hq => upP_ne hq
    have e1 : sw2 (2 + k) 1 0 = 0 := by unfold sw2; rw [if_neg (by decide), if_neg (by omega)]
    have e2 : sw2 (2 + k) 1 (2 + k) = 1 := by unfold sw2; rw [if_neg (by omega), if_pos rfl]
    refine ⟨⟨?_, ?_, ?_, by omega, ?_, fun i hi => ?_⟩, ?_, ?_⟩
    · rw [hR]; exact RI_perm (sw2 (2 + k) 1) (sw2_lt (by omega) (by decide)) sw2_R hI
    · rw [hR]; exact RJ_perm (sw2 (2 + k) 1) (sw2_lt (by omega) (by decide)) sw2_inj sw2_R hJ
    · rw [hR, sw2_R 0 (by decide), e1, hP _ (hlt 0 (by decide)), m2]; exact hW
    · have e1 : (w7 (zR y (2 + k) (y.1 1)) 1 1 (nI k + (1 : Int32))).2 7 1 1 = nI k + (1 : Int32) := w7_same
      exact e1.trans (nI_1 k)
    · rw [hR, sw2_R (2 + i) (by omega)]
      by_cases g : i = k
      · subst g
        rw [e2, hP _ (hlt 1 (by decide))]
        exact KX_cp hN m4
      · rw [show sw2 (2 + k) 1 (2 + i) = 2 + i by unfold sw2; rw [if_neg (by omega), if_neg (by omega)], hP _ (hlt _ (by omega)), hold _ (by omega) (by omega)]
        exact h6 i (by omega)
    · rw [hR, sw2_R 0 (by decide), e1, hP _ (hlt 0 (by decide)), m2]
    · rw [show k + 1 - 1 = k by omega, hR, sw2_R _ (by omega), e2, hP _ (hlt 1 (by decide))]
      exact m4
/-- an act: what was before it, or what came of it -/
theorem NV_act (h : NV z k) (W : Nat → Nat → Int32) (hW : ¬ ans < 0 → KX W) : (ans < 0 ∧ NV (w_X5_endAct (zB (w_X5_startAct z) (z.1 0) W) ans) k) ∨ (¬ ans < 0 ∧ NV (w_X5_endAct (zB (w_X5_startAct z) (z.1 0) W) ans) (up4 k)) := by
  by_cases ha : ans < 0
  · exact Or.inl ⟨ha, (NV_no h (mid h.1 h.2.1) ha).1⟩
  · exact Or.inr ⟨ha, (NV_ok h (mid h.1 h.2.1) ha (hW ha)).1⟩
theorem NV_undo (h : NV z (k + 1)) : v_X5_undo z = nI k ∧ NV (w_X5_undo z) k ∧ (w_X5_undo z).2 ((w_X5_undo z).1 0) = z.2 (z.1 (2 + k)) := by
  obtain ⟨hI, hJ, hN, hk, h4, h6⟩ := h
  have hlt : ∀ i, i < 6 → z.1 i ≠ 7 := fun i hi => by have := hI i hi; omega
  unfold v_X5_undo w_X5_undo w_X2_takeLatest v_X2_takeLatest
  rw [h4, if_neg (nI_ne0 (by omega) (by omega)), if_neg (nI_ne0 (by omega) (by omega)), if_neg (nI_nle (by omega) (by omega)), if_neg (nI_nle (by omega) (by omega)), if_pos (show nI (k + 1) ≤ (4 : Int32) from (nI_leI (b := 4) (by omega) (by decide)).mpr hk), if_pos (show nI (k + 1) ≤ (4 : Int32) from (nI_leI (b := 4) (by omega) (by decide)).mpr hk), nI_pred, nI_clamp (by omega)]
  have hR : (zR (zR (w7 z 1 1 (nI k)) (2 + k) (z.1 0)) 0 ((w7 z 1 1 (nI k)).1 (2 + k))).1 = upR (upR z.1 (2 + k) (z.1 0)) 0 (z.1 (2 + k)) := rfl
  have hP : ∀ q, q ≠ 7 → (zR (zR (w7 z 1 1 (nI k)) (2 + k) (z.1 0)) 0 ((w7 z 1 1 (nI k)).1 (2 + k))).2 q = z.2 q := fun q hq => upP_ne hq
  have ec : (zR (zR (w7 z 1 1 (nI k)) (2 + k) (z.1 0)) 0 ((w7 z 1 1 (nI k)).1 (2 + k))).2 7 1 1 = nI k := (show (w7 z 1 1 (nI k)).2 7 1 1 = nI k from w7_same)
  have e1 : sw2 (2 + k) 0 0 = 2 + k := by unfold sw2; rw [if_pos rfl]
  refine ⟨(show (w7 z 1 1 (nI k)).2 7 1 1 = nI k from w7_same), ⟨?_, ?_, ?_, by omega, ec, fun i hi => ?_⟩, ?_⟩
  · rw [hR]; exact RI_perm (sw2 (2 + k) 0) (sw2_lt (by omega) (by decide)) sw2_R hI
  · rw [hR]; exact RJ_perm (sw2 (2 + k) 0) (sw2_lt (by omega) (by decide)) sw2_inj sw2_R hJ
  · rw [hR, sw2_R 0 (by decide), e1, hP _ (hlt _ (by omega))]; exact h6 k (by omega)
  · rw [hR, sw2_R (2 + i) (by omega), show sw2 (2 + k) 0 (2 + i) = 2 + i by unfold sw2; rw [if_neg (by omega), if_neg (by omega)], hP _ (hlt _ (by omega))]; exact h6 i (by omega)
  · rw [hR, sw2_R 0 (by decide), e1, hP _ (hlt _ (by omega))]
theorem NV_undo0 (h : NV z 0) : v_X5_undo z = (-5 : Int32) ∧ w_X5_undo z = z := by
  obtain ⟨hI, hJ, hN, hk, h4, h6⟩ := h
  unfold v_X5_undo w_X5_undo
  rw [h4, if_pos nI_0, if_pos nI_0]
  exact ⟨rfl, rfl⟩
/-- the acts, said of the book now -/
theorem e_bill (hJ : RJ z.1) (p1 p2 p3 p4 : Int32) : v_X5_bill z p1 p2 p3 p4 = v_X1_writeBill (z.2 (z.1 0)) p1 p2 p3 p4 ∧ w_X5_bill z p1 p2 p3 p4 = w_X5_endAct (zB (w_X5_startAct z) (z.1 0) (w_X1_writeBill (z.2 (z.1 0)) p1 p2 p3 p4)) (v_X1_writeBill (z.2 (z.1 0)) p1 p2 p3 p4) := by
  unfold v_X5_bill w_X5_bill
  rw [eA_v, sA_1 hJ, sA_0 hJ]
  exact ⟨rfl, rfl⟩
theorem e_pay (hJ : RJ z.1) (p1 p2 : Int32) : v_X5_pay z p1 p2 = v_X1_takePayment (z.2 (z.1 0)) p1 p2 ∧ w_X5_pay z p1 p2 = w_X5_endAct (zB (w_X5_startAct z) (z.1 0) (w_X1_takePayment (z.2 (z.1 0)) p1 p2)) (v_X1_takePayment (z.2 (z.1 0)) p1 p2) := by
  unfold v_X5_pay w_X5_pay
  rw [eA_v, sA_1 hJ, sA_0 hJ]
  exact ⟨rfl, rfl⟩
theorem e_payBill (hJ : RJ z.1) (p1 p2 : Int32) : v_X5_payBill z p1 p2 = v_X1_takePaymentFor (z.2 (z.1 0)) p1 p2 ∧ w_X5_payBill z p1 p2 = w_X5_endAct (zB (w_X5_startAct z) (z.1 0) (w_X1_takePaymentFor (z.2 (z.1 0)) p1 p2)) (v_X1_takePaymentFor (z.2 (z.1 0)) p1 p2) := by
  unfold v_X5_payBill w_X5_payBill
  rw [eA_v, sA_1 hJ, sA_0 hJ]
  exact ⟨rfl, rfl⟩
theorem e_payBack (hJ : RJ z.1) (p1 : Int32) : v_X5_payBack z p1 = v_X1_returnCredit (z.2 (z.1 0)) p1 ∧ w_X5_payBack z p1 = w_X5_endAct (zB (w_X5_startAct z) (z.1 0) (w_X1_returnCredit (z.2 (z.1 0)) p1)) (v_X1_returnCredit (z.2 (z.1 0)) p1) := by
  unfold v_X5_payBack w_X5_payBack
  rw [eA_v, sA_1 hJ, sA_0 hJ]
  exact ⟨rfl, rfl⟩
theorem e_pass (hJ : RJ z.1) (p1 : Int32) : v_X5_pass z p1 = v_X1_goOn (z.2 (z.1 0)) p1 ∧ w_X5_pass z p1 = w_X5_endAct (zB (w_X5_startAct z) (z.1 0) (w_X1_goOn (z.2 (z.1 0)) p1)) (v_X1_goOn (z.2 (z.1 0)) p1) := by
  unfold v_X5_pass w_X5_pass
  rw [eA_v, sA_1 hJ, sA_0 hJ]
  exact ⟨rfl, rfl⟩
theorem e_remind (hJ : RJ z.1) : v_X5_remind z = v_X1_sendReminders (z.2 (z.1 0)) ∧ w_X5_remind z = w_X5_endAct (zB (w_X5_startAct z) (z.1 0) (w_X1_sendReminders (z.2 (z.1 0)))) (v_X1_sendReminders (z.2 (z.1 0))) := by
  unfold v_X5_remind w_X5_remind
  rw [eA_v, sA_1 hJ, sA_0 hJ]
  exact ⟨rfl, rfl⟩
theorem e_writeOff (hJ : RJ z.1) (p1 : Int32) : v_X5_writeOff z p1 = v_X1_giveUp (z.2 (z.1 0)) p1 ∧ w_X5_writeOff z p1 = w_X5_endAct (zB (w_X5_startAct z) (z.1 0) (w_X1_giveUp (z.2 (z.1 0)) p1)) (v_X1_giveUp (z.2 (z.1 0)) p1) := by
  unfold v_X5_writeOff w_X5_writeOff
  rw [eA_v, sA_1 hJ, sA_0 hJ]
  exact ⟨rfl, rfl⟩
theorem e_closeYear (hJ : RJ z.1) (p1 : Int32) : v_X5_closeYear z p1 = v_X1_endYear (z.2 (z.1 0)) p1 ∧ w_X5_closeYear z p1 = w_X5_endAct (zB (w_X5_startAct z) (z.1 0) (w_X1_endYear (z.2 (z.1 0)) p1)) (v_X1_endYear (z.2 (z.1 0)) p1) := by
  unfold v_X5_closeYear w_X5_closeYear
  rw [eA_v, sA_1 hJ, sA_0 hJ]
  exact ⟨rfl, rfl⟩
theorem e_set (hJ : RJ z.1) (p1 p2 : Int32) : v_X5_set z p1 p2 = v_X3_change (z.2 (z.1 0)) p1 p2 ∧ w_X5_set z p1 p2 = w_X5_endAct (zB (w_X5_startAct z) (z.1 0) (w_X3_change (z.2 (z.1 0)) p1 p2)) (v_X3_change (z.2 (z.1 0)) p1 p2) := by
  unfold v_X5_set w_X5_set
  rw [eA_v, sA_1 hJ, sA_0 hJ]
  exact ⟨rfl, rfl⟩
/-- what an act leaves: its answer tells whether it is recorded -/
def AR (z' : CS) (k : Nat) (t : Int32) : Prop := (t < 0 ∧ NV z' k) ∨ (¬ t < 0 ∧ NV z' (up4 k))
theorem A_bill (h : NV z k) (p1 p2 p3 p4 : Int32) : AR (w_X5_bill z p1 p2 p3 p4) k (v_X5_bill z p1 p2 p3 p4) := by
  obtain ⟨n, d, hK⟩ := h.2.2.1
  rw [(e_bill h.2.1 p1 p2 p3 p4).1, (e_bill h.2.1 p1 p2 p3 p4).2]
  exact NV_act h _ (fun ha => ⟨_, _, K_bill hK p1 p2 p3 p4 ha⟩)
theorem A_pay (h : NV z k) (p1 p2 : Int32) : AR (w_X5_pay z p1 p2) k (v_X5_pay z p1 p2) := by
  obtain ⟨n, d, hK⟩ := h.2.2.1
  rw [(e_pay h.2.1 p1 p2).1, (e_pay h.2.1 p1 p2).2]
  exact NV_act h _ (fun ha => ⟨_, _, K_pay hK p1 p2 ha⟩)
theorem A_payBill (h : NV z k) (p1 p2 : Int32) : AR (w_X5_payBill z p1 p2) k (v_X5_payBill z p1 p2) := by
  obtain ⟨n, d, hK⟩ := h.2.2.1
  rw [(e_payBill h.2.1 p1 p2).1, (e_payBill h.2.1 p1 p2).2]
  exact NV_act h _ (fun ha => ⟨_, _, K_payBill hK p1 p2 ha⟩)
theorem A_payBack (h : NV z k) (p1 : Int32) : AR (w_X5_payBack z p1) k (v_X5_payBack z p1) := by
  obtain ⟨n, d, hK⟩ := h.2.2.1
  rw [(e_payBack h.2.1 p1).1, (e_payBack h.2.1 p1).2]
  exact NV_act h _ (fun ha => ⟨_, _, K_back hK p1 ha⟩)
theorem A_pass (h : NV z k) (p1 : Int32) : AR (w_X5_pass z p1) k (v_X5_pass z p1) := by
  obtain ⟨n, d, hK⟩ := h.2.2.1
  rw [(e_pass h.2.1 p1).1, (e_pass h.2.1 p1).2]
  exact NV_act h _ (fun ha => ⟨_, K_pass hK p1 ha⟩)
theorem A_remind (h : NV z k) : AR (w_X5_remind z) k (v_X5_remind z) := by
  obtain ⟨n, d, hK⟩ := h.2.2.1
  rw [(e_remind h.2.1).1, (e_remind h.2.1).2]
  exact NV_act h _ (fun _ => ⟨_, _, K_remind hK⟩)
theorem A_writeOff (h : NV z k) (p1 : Int32) : AR (w_X5_writeOff z p1) k (v_X5_writeOff z p1) := by
  obtain ⟨n, d, hK⟩ := h.2.2.1
  rw [(e_writeOff h.2.1 p1).1, (e_writeOff h.2.1 p1).2]
  exact NV_act h _ (fun ha => ⟨_, _, K_off hK p1 ha⟩)
theorem A_closeYear (h : NV z k) (p1 : Int32) : AR (w_X5_closeYear z p1) k (v_X5_closeYear z p1) := by
  obtain ⟨n, d, hK⟩ := h.2.2.1
  rw [(e_closeYear h.2.1 p1).1, (e_closeYear h.2.1 p1).2]
  exact NV_act h _ (fun ha => ⟨_, _, K_close hK p1 ha⟩)
theorem A_set (h : NV z k) (p1 p2 : Int32) : AR (w_X5_set z p1 p2) k (v_X5_set z p1 p2) := by
  obtain ⟨n, d, hK⟩ := h.2.2.1
  rw [(e_set h.2.1 p1 p2).1, (e_set h.2.1 p1 p2).2]
  exact NV_act h _ (fun ha => ⟨_, _, K_set hK p1 p2 ha⟩)
end NV
/-- the law's act: one by its number, 16 undoes -/
theorem L_act {z : CS} {k : Nat} (h : NV z k) (p1 p2 p3 : Int32) (h1 : ¬ p1 < 0) (h2 : p1 < (16 : Int32)) : AR (w_L_act z p1 p2 p3) k (v_L_act z p1 p2 p3) := by
  obtain ⟨q, hq, rfl⟩ := nI_of h1
  have hq : q < 16 := (nI_ltI (b := 16) hq (by decide)).mp h2
  rcases (show q = 0 ∨ q = 1 ∨ q = 2 ∨ q = 3 ∨ q = 4 ∨ q = 5 ∨ q = 6 ∨ q = 7 ∨ q = 8 ∨ q = 9 ∨ q = 10 ∨ q = 11 ∨ q = 12 ∨ q = 13 ∨ q = 14 ∨ q = 15 by omega) with rfl | rfl | rfl | rfl | rfl | rfl | rfl | rfl | rfl | rfl | rfl | rfl | rfl | rfl | rfl | rfl
  all_goals unfold w_L_act v_L_act
  · rw [if_pos (show nI 0 = (0 : Int32) by decide), if_pos (show nI 0 = (0 : Int32) by decide)]; exact A_bill h _ _ _ _
  · rw [if_neg (show ¬ nI 1 = (0 : Int32) by decide), if_neg (show ¬ nI 1 = (0 : Int32) by decide), if_pos (show nI 1 = (1 : Int32) by decide), if_pos (show nI 1 = (1 : Int32) by decide)]; exact A_bill h _ _ _ _
  · rw [if_neg (show ¬ nI 2 = (0 : Int32) by decide), if_neg (show ¬ nI 2 = (0 : Int32) by decide), if_neg (show ¬ nI 2 = (1 : Int32) by decide), if_neg (show ¬ nI 2 = (1 : Int32) by decide), if_pos (show nI 2 = (2 : Int32) by decide), if_pos (show nI 2 = (2 : Int32) by decide)]; exact A_bill h _ _ _ _
  · rw [if_neg (show ¬ nI 3 = (0 : Int32) by decide), if_neg (show ¬ nI 3 = (0 : Int32) by decide), if_neg (show ¬ nI 3 = (1 : Int32) by decide), if_neg (show ¬ nI 3 = (1 : Int32) by decide), if_neg (show ¬ nI 3 = (2 : Int32) by decide), if_neg (show ¬ nI 3 = (2 : Int32) by decide), if_pos (show nI 3 = (3 : Int32) by decide), if_pos (show nI 3 = (3 : Int32) by decide)]; exact A_pay h _ _
  · rw [if_neg (show ¬ nI 4 = (0 : Int32) by decide), if_neg (show ¬ nI 4 = (0 : Int32) by decide), if_neg (show ¬ nI 4 = (1 : Int32) by decide), if_neg (show ¬ nI 4 = (1 : Int32) by decide), if_neg (show ¬ nI 4 = (2 : Int32) by decide), if_neg (show ¬ nI 4 = (2 : Int32) by decide), if_neg (show ¬ nI 4 = (3 : Int32) by decide), if_neg (show ¬ nI 4 = (3 : Int32) by decide), if_pos (show nI 4 = (4 : Int32) by decide), if_pos (show nI 4 = (4 : Int32) by decide)]; exact A_pay h _ _
  · rw [if_neg (show ¬ nI 5 = (0 : Int32) by decide), if_neg (show ¬ nI 5 = (0 : Int32) by decide), if_neg (show ¬ nI 5 = (1 : Int32) by decide), if_neg (show ¬ nI 5 = (1 : Int32) by decide), if_neg (show ¬ nI 5 = (2 : Int32) by decide), if_neg (show ¬ nI 5 = (2 : Int32) by decide), if_neg (show ¬ nI 5 = (3 : Int32) by decide), if_neg (show ¬ nI 5 = (3 : Int32) by decide), if_neg (show ¬ nI 5 = (4 : Int32) by decide), if_neg (show ¬ nI 5 = (4 : Int32) by decide), if_pos (show nI 5 = (5 : Int32) by decide), if_pos (show nI 5 = (5 : Int32) by decide)]; exact A_payBill h _ _
  · rw [if_neg (show ¬ nI 6 = (0 : Int32) by decide), if_neg (show ¬ nI 6 = (0 : Int32) by decide), if_neg (show ¬ nI 6 = (1 : Int32) by decide), if_neg (show ¬ nI 6 = (1 : Int32) by decide), if_neg (show ¬ nI 6 = (2 : Int32) by decide), if_neg (show ¬ nI 6 = (2 : Int32) by decide), if_neg (show ¬ nI 6 = (3 : Int32) by decide), if_neg (show ¬ nI 6 = (3 : Int32) by decide), if_neg (show ¬ nI 6 = (4 : Int32) by decide), if_neg (show ¬ nI 6 = (4 : Int32) by decide), if_neg (show ¬ nI 6 = (5 : Int32) by decide), if_neg (show ¬ nI 6 = (5 : Int32) by decide), if_pos (show nI 6 = (6 : Int32) by decide), if_pos (show nI 6 = (6 : Int32) by decide)]; exact A_payBill h _ _
  · rw [if_neg (show ¬ nI 7 = (0 : Int32) by decide), if_neg (show ¬ nI 7 = (0 : Int32) by decide), if_neg (show ¬ nI 7 = (1 : Int32) by decide), if_neg (show ¬ nI 7 = (1 : Int32) by decide), if_neg (show ¬ nI 7 = (2 : Int32) by decide), if_neg (show ¬ nI 7 = (2 : Int32) by decide), if_neg (show ¬ nI 7 = (3 : Int32) by decide), if_neg (show ¬ nI 7 = (3 : Int32) by decide), if_neg (show ¬ nI 7 = (4 : Int32) by decide), if_neg (show ¬ nI 7 = (4 : Int32) by decide), if_neg (show ¬ nI 7 = (5 : Int32) by decide), if_neg (show ¬ nI 7 = (5 : Int32) by decide), if_neg (show ¬ nI 7 = (6 : Int32) by decide), if_neg (show ¬ nI 7 = (6 : Int32) by decide), if_pos (show nI 7 = (7 : Int32) by decide), if_pos (show nI 7 = (7 : Int32) by decide)]; exact A_payBack h _
  · rw [if_neg (show ¬ nI 8 = (0 : Int32) by decide), if_neg (show ¬ nI 8 = (0 : Int32) by decide), if_neg (show ¬ nI 8 = (1 : Int32) by decide), if_neg (show ¬ nI 8 = (1 : Int32) by decide), if_neg (show ¬ nI 8 = (2 : Int32) by decide), if_neg (show ¬ nI 8 = (2 : Int32) by decide), if_neg (show ¬ nI 8 = (3 : Int32) by decide), if_neg (show ¬ nI 8 = (3 : Int32) by decide), if_neg (show ¬ nI 8 = (4 : Int32) by decide), if_neg (show ¬ nI 8 = (4 : Int32) by decide), if_neg (show ¬ nI 8 = (5 : Int32) by decide), if_neg (show ¬ nI 8 = (5 : Int32) by decide), if_neg (show ¬ nI 8 = (6 : Int32) by decide), if_neg (show ¬ nI 8 = (6 : Int32) by decide), if_neg (show ¬ nI 8 = (7 : Int32) by decide), if_neg (show ¬ nI 8 = (7 : Int32) by decide), if_pos (show nI 8 = (8 : Int32) by decide), if_pos (show nI 8 = (8 : Int32) by decide)]; exact A_pass h _
  · rw [if_neg (show ¬ nI 9 = (0 : Int32) by decide), if_neg (show ¬ nI 9 = (0 : Int32) by decide), if_neg (show ¬ nI 9 = (1 : Int32) by decide), if_neg (show ¬ nI 9 = (1 : Int32) by decide), if_neg (show ¬ nI 9 = (2 : Int32) by decide), if_neg (show ¬ nI 9 = (2 : Int32) by decide), if_neg (show ¬ nI 9 = (3 : Int32) by decide), if_neg (show ¬ nI 9 = (3 : Int32) by decide), if_neg (show ¬ nI 9 = (4 : Int32) by decide), if_neg (show ¬ nI 9 = (4 : Int32) by decide), if_neg (show ¬ nI 9 = (5 : Int32) by decide), if_neg (show ¬ nI 9 = (5 : Int32) by decide), if_neg (show ¬ nI 9 = (6 : Int32) by decide), if_neg (show ¬ nI 9 = (6 : Int32) by decide), if_neg (show ¬ nI 9 = (7 : Int32) by decide), if_neg (show ¬ nI 9 = (7 : Int32) by decide), if_neg (show ¬ nI 9 = (8 : Int32) by decide), if_neg (show ¬ nI 9 = (8 : Int32) by decide), if_pos (show nI 9 = (9 : Int32) by decide), if_pos (show nI 9 = (9 : Int32) by decide)]; exact A_pass h _
  · rw [if_neg (show ¬ nI 10 = (0 : Int32) by decide), if_neg (show ¬ nI 10 = (0 : Int32) by decide), if_neg (show ¬ nI 10 = (1 : Int32) by decide), if_neg (show ¬ nI 10 = (1 : Int32) by decide), if_neg (show ¬ nI 10 = (2 : Int32) by decide), if_neg (show ¬ nI 10 = (2 : Int32) by decide), if_neg (show ¬ nI 10 = (3 : Int32) by decide), if_neg (show ¬ nI 10 = (3 : Int32) by decide), if_neg (show ¬ nI 10 = (4 : Int32) by decide), if_neg (show ¬ nI 10 = (4 : Int32) by decide), if_neg (show ¬ nI 10 = (5 : Int32) by decide), if_neg (show ¬ nI 10 = (5 : Int32) by decide), if_neg (show ¬ nI 10 = (6 : Int32) by decide), if_neg (show ¬ nI 10 = (6 : Int32) by decide), if_neg (show ¬ nI 10 = (7 : Int32) by decide), if_neg (show ¬ nI 10 = (7 : Int32) by decide), if_neg (show ¬ nI 10 = (8 : Int32) by decide), if_neg (show ¬ nI 10 = (8 : Int32) by decide), if_neg (show ¬ nI 10 = (9 : Int32) by decide), if_neg (show ¬ nI 10 = (9 : Int32) by decide), if_pos (show nI 10 = (10 : Int32) by decide), if_pos (show nI 10 = (10 : Int32) by decide)]; exact A_pass h _
  · rw [if_neg (show ¬ nI 11 = (0 : Int32) by decide), if_neg (show ¬ nI 11 = (0 : Int32) by decide), if_neg (show ¬ nI 11 = (1 : Int32) by decide), if_neg (show ¬ nI 11 = (1 : Int32) by decide), if_neg (show ¬ nI 11 = (2 : Int32) by decide), if_neg (show ¬ nI 11 = (2 : Int32) by decide), if_neg (show ¬ nI 11 = (3 : Int32) by decide), if_neg (show ¬ nI 11 = (3 : Int32) by decide), if_neg (show ¬ nI 11 = (4 : Int32) by decide), if_neg (show ¬ nI 11 = (4 : Int32) by decide), if_neg (show ¬ nI 11 = (5 : Int32) by decide), if_neg (show ¬ nI 11 = (5 : Int32) by decide), if_neg (show ¬ nI 11 = (6 : Int32) by decide), if_neg (show ¬ nI 11 = (6 : Int32) by decide), if_neg (show ¬ nI 11 = (7 : Int32) by decide), if_neg (show ¬ nI 11 = (7 : Int32) by decide), if_neg (show ¬ nI 11 = (8 : Int32) by decide), if_neg (show ¬ nI 11 = (8 : Int32) by decide), if_neg (show ¬ nI 11 = (9 : Int32) by decide), if_neg (show ¬ nI 11 = (9 : Int32) by decide), if_neg (show ¬ nI 11 = (10 : Int32) by decide), if_neg (show ¬ nI 11 = (10 : Int32) by decide), if_pos (show nI 11 = (11 : Int32) by decide), if_pos (show nI 11 = (11 : Int32) by decide)]; exact A_remind h
  · rw [if_neg (show ¬ nI 12 = (0 : Int32) by decide), if_neg (show ¬ nI 12 = (0 : Int32) by decide), if_neg (show ¬ nI 12 = (1 : Int32) by decide), if_neg (show ¬ nI 12 = (1 : Int32) by decide), if_neg (show ¬ nI 12 = (2 : Int32) by decide), if_neg (show ¬ nI 12 = (2 : Int32) by decide), if_neg (show ¬ nI 12 = (3 : Int32) by decide), if_neg (show ¬ nI 12 = (3 : Int32) by decide), if_neg (show ¬ nI 12 = (4 : Int32) by decide), if_neg (show ¬ nI 12 = (4 : Int32) by decide), if_neg (show ¬ nI 12 = (5 : Int32) by decide), if_neg (show ¬ nI 12 = (5 : Int32) by decide), if_neg (show ¬ nI 12 = (6 : Int32) by decide), if_neg (show ¬ nI 12 = (6 : Int32) by decide), if_neg (show ¬ nI 12 = (7 : Int32) by decide), if_neg (show ¬ nI 12 = (7 : Int32) by decide), if_neg (show ¬ nI 12 = (8 : Int32) by decide), if_neg (show ¬ nI 12 = (8 : Int32) by decide), if_neg (show ¬ nI 12 = (9 : Int32) by decide), if_neg (show ¬ nI 12 = (9 : Int32) by decide), if_neg (show ¬ nI 12 = (10 : Int32) by decide), if_neg (show ¬ nI 12 = (10 : Int32) by decide), if_neg (show ¬ nI 12 = (11 : Int32) by decide), if_neg (show ¬ nI 12 = (11 : Int32) by decide), if_pos (show nI 12 = (12 : Int32) by decide), if_pos (show nI 12 = (12 : Int32) by decide)]; exact A_remind h
  · rw [if_neg (show ¬ nI 13 = (0 : Int32) by decide), if_neg (show ¬ nI 13 = (0 : Int32) by decide), if_neg (show ¬ nI 13 = (1 : Int32) by decide), if_neg (show ¬ nI 13 = (1 : Int32) by decide), if_neg (show ¬ nI 13 = (2 : Int32) by decide), if_neg (show ¬ nI 13 = (2 : Int32) by decide), if_neg (show ¬ nI 13 = (3 : Int32) by decide), if_neg (show ¬ nI 13 = (3 : Int32) by decide), if_neg (show ¬ nI 13 = (4 : Int32) by decide), if_neg (show ¬ nI 13 = (4 : Int32) by decide), if_neg (show ¬ nI 13 = (5 : Int32) by decide), if_neg (show ¬ nI 13 = (5 : Int32) by decide), if_neg (show ¬ nI 13 = (6 : Int32) by decide), if_neg (show ¬ nI 13 = (6 : Int32) by decide), if_neg (show ¬ nI 13 = (7 : Int32) by decide), if_neg (show ¬ nI 13 = (7 : Int32) by decide), if_neg (show ¬ nI 13 = (8 : Int32) by decide), if_neg (show ¬ nI 13 = (8 : Int32) by decide), if_neg (show ¬ nI 13 = (9 : Int32) by decide), if_neg (show ¬ nI 13 = (9 : Int32) by decide), if_neg (show ¬ nI 13 = (10 : Int32) by decide), if_neg (show ¬ nI 13 = (10 : Int32) by decide), if_neg (show ¬ nI 13 = (11 : Int32) by decide), if_neg (show ¬ nI 13 = (11 : Int32) by decide), if_neg (show ¬ nI 13 = (12 : Int32) by decide), if_neg (show ¬ nI 13 = (12 : Int32) by decide), if_pos (show nI 13 = (13 : Int32) by decide), if_pos (show nI 13 = (13 : Int32) by decide)]; exact A_writeOff h _
  · rw [if_neg (show ¬ nI 14 = (0 : Int32) by decide), if_neg (show ¬ nI 14 = (0 : Int32) by decide), if_neg (show ¬ nI 14 = (1 : Int32) by decide), if_neg (show ¬ nI 14 = (1 : Int32) by decide), if_neg (show ¬ nI 14 = (2 : Int32) by decide), if_neg (show ¬ nI 14 = (2 : Int32) by decide), if_neg (show ¬ nI 14 = (3 : Int32) by decide), if_neg (show ¬ nI 14 = (3 : Int32) by decide), if_neg (show ¬ nI 14 = (4 : Int32) by decide), if_neg (show ¬ nI 14 = (4 : Int32) by decide), if_neg (show ¬ nI 14 = (5 : Int32) by decide), if_neg (show ¬ nI 14 = (5 : Int32) by decide), if_neg (show ¬ nI 14 = (6 : Int32) by decide), if_neg (show ¬ nI 14 = (6 : Int32) by decide), if_neg (show ¬ nI 14 = (7 : Int32) by decide), if_neg (show ¬ nI 14 = (7 : Int32) by decide), if_neg (show ¬ nI 14 = (8 : Int32) by decide), if_neg (show ¬ nI 14 = (8 : Int32) by decide), if_neg (show ¬ nI 14 = (9 : Int32) by decide), if_neg (show ¬ nI 14 = (9 : Int32) by decide), if_neg (show ¬ nI 14 = (10 : Int32) by decide), if_neg (show ¬ nI 14 = (10 : Int32) by decide), if_neg (show ¬ nI 14 = (11 : Int32) by decide), if_neg (show ¬ nI 14 = (11 : Int32) by decide), if_neg (show ¬ nI 14 = (12 : Int32) by decide), if_neg (show ¬ nI 14 = (12 : Int32) by decide), if_neg (show ¬ nI 14 = (13 : Int32) by decide), if_neg (show ¬ nI 14 = (13 : Int32) by decide), if_pos (show nI 14 = (14 : Int32) by decide), if_pos (show nI 14 = (14 : Int32) by decide)]; exact A_closeYear h _
  · rw [if_neg (show ¬ nI 15 = (0 : Int32) by decide), if_neg (show ¬ nI 15 = (0 : Int32) by decide), if_neg (show ¬ nI 15 = (1 : Int32) by decide), if_neg (show ¬ nI 15 = (1 : Int32) by decide), if_neg (show ¬ nI 15 = (2 : Int32) by decide), if_neg (show ¬ nI 15 = (2 : Int32) by decide), if_neg (show ¬ nI 15 = (3 : Int32) by decide), if_neg (show ¬ nI 15 = (3 : Int32) by decide), if_neg (show ¬ nI 15 = (4 : Int32) by decide), if_neg (show ¬ nI 15 = (4 : Int32) by decide), if_neg (show ¬ nI 15 = (5 : Int32) by decide), if_neg (show ¬ nI 15 = (5 : Int32) by decide), if_neg (show ¬ nI 15 = (6 : Int32) by decide), if_neg (show ¬ nI 15 = (6 : Int32) by decide), if_neg (show ¬ nI 15 = (7 : Int32) by decide), if_neg (show ¬ nI 15 = (7 : Int32) by decide), if_neg (show ¬ nI 15 = (8 : Int32) by decide), if_neg (show ¬ nI 15 = (8 : Int32) by decide), if_neg (show ¬ nI 15 = (9 : Int32) by decide), if_neg (show ¬ nI 15 = (9 : Int32) by decide), if_neg (show ¬ nI 15 = (10 : Int32) by decide), if_neg (show ¬ nI 15 = (10 : Int32) by decide), if_neg (show ¬ nI 15 = (11 : Int32) by decide), if_neg (show ¬ nI 15 = (11 : Int32) by decide), if_neg (show ¬ nI 15 = (12 : Int32) by decide), if_neg (show ¬ nI 15 = (12 : Int32) by decide), if_neg (show ¬ nI 15 = (13 : Int32) by decide), if_neg (show ¬ nI 15 = (13 : Int32) by decide), if_neg (show ¬ nI 15 = (14 : Int32) by decide), if_neg (show ¬ nI 15 = (14 : Int32) by decide), if_pos (show nI 15 = (15 : Int32) by decide), if_pos (show nI 15 = (15 : Int32) by decide)]; exact A_set h _ _
theorem L_undo {z : CS} (p2 p3 : Int32) : v_L_act z (nI 16) p2 p3 = v_X5_undo z ∧ w_L_act z (nI 16) p2 p3 = w_X5_undo z := by
  unfold w_L_act v_L_act
  rw [if_neg (show ¬ nI 16 = (0 : Int32) by decide), if_neg (show ¬ nI 16 = (0 : Int32) by decide), if_neg (show ¬ nI 16 = (1 : Int32) by decide), if_neg (show ¬ nI 16 = (1 : Int32) by decide), if_neg (show ¬ nI 16 = (2 : Int32) by decide), if_neg (show ¬ nI 16 = (2 : Int32) by decide), if_neg (show ¬ nI 16 = (3 : Int32) by decide), if_neg (show ¬ nI 16 = (3 : Int32) by decide), if_neg (show ¬ nI 16 = (4 : Int32) by decide), if_neg (show ¬ nI 16 = (4 : Int32) by decide), if_neg (show ¬ nI 16 = (5 : Int32) by decide), if_neg (show ¬ nI 16 = (5 : Int32) by decide), if_neg (show ¬ nI 16 = (6 : Int32) by decide), if_neg (show ¬ nI 16 = (6 : Int32) by decide), if_neg (show ¬ nI 16 = (7 : Int32) by decide), if_neg (show ¬ nI 16 = (7 : Int32) by decide), if_neg (show ¬ nI 16 = (8 : Int32) by decide), if_neg (show ¬ nI 16 = (8 : Int32) by decide), if_neg (show ¬ nI 16 = (9 : Int32) by decide), if_neg (show ¬ nI 16 = (9 : Int32) by decide), if_neg (show ¬ nI 16 = (10 : Int32) by decide), if_neg (show ¬ nI 16 = (10 : Int32) by decide), if_neg (show ¬ nI 16 = (11 : Int32) by decide), if_neg (show ¬ nI 16 = (11 : Int32) by decide), if_neg (show ¬ nI 16 = (12 : Int32) by decide), if_neg (show ¬ nI 16 = (12 : Int32) by decide), if_neg (show ¬ nI 16 = (13 : Int32) by decide), if_neg (show ¬ nI 16 = (13 : Int32) by decide), if_neg (show ¬ nI 16 = (14 : Int32) by decide), if_neg (show ¬ nI 16 = (14 : Int32) by decide), if_neg (show ¬ nI 16 = (15 : Int32) by decide), if_neg (show ¬ nI 16 = (15 : Int32) by decide)]
  exact ⟨rfl, rfl⟩
