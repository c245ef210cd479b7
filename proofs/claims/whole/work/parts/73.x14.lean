/-! the public acts: same answer, same relation behind -/
theorem wrB_bad {b : Nat → Nat → Int32} {c : Nat} {p2 p3 p4 : Int32} (hc : c < 8) (h : p2 < (1 : Int32) ∨ (9999 : Int32) < p2 ∨ p3 < 0 ∨ (40 : Int32) < p3 ∨ p4 < 0 ∨ ¬ p4 ≤ (99 : Int32)) : v_X1_writeBill b (nI c) p2 p3 p4 = (-2 : Int32) := by
  unfold v_X1_writeBill
  rw [if_neg (isC1 hc).1]
  repeat' split
  all_goals first | rfl | (exfalso; rcases h with h | h | h | h | h | h <;> contradiction)
theorem net_cs (p2 p3 p4 : Int32) : (v_X6_isNet p2 p3 p4 = 0 ∧ (p2 < (1 : Int32) ∨ (9999 : Int32) < p2 ∨ p3 < 0 ∨ (40 : Int32) < p3 ∨ p4 < 0 ∨ ¬ p4 ≤ (99 : Int32))) ∨ (¬ v_X6_isNet p2 p3 p4 = 0 ∧ ∃ ne ra du : Nat, 1 ≤ ne ∧ ne ≤ 9999 ∧ ra ≤ 40 ∧ du ≤ 99 ∧ p2 = nI ne ∧ p3 = nI ra ∧ p4 = nI du) := by
  by_cases h : v_X6_isNet p2 p3 p4 = 0
  · left
    refine ⟨h, ?_⟩
    rcases Classical.em (p2 < (1 : Int32)) with c1 | c1
    · exact Or.inl c1
    rcases Classical.em ((9999 : Int32) < p2) with c2 | c2
    · exact Or.inr (Or.inl c2)
    rcases Classical.em (p3 < 0) with c3 | c3
    · exact Or.inr (Or.inr (Or.inl c3))
    rcases Classical.em ((40 : Int32) < p3) with c4 | c4
    · exact Or.inr (Or.inr (Or.inr (Or.inl c4)))
    rcases Classical.em (p4 < 0) with c5 | c5
    · exact Or.inr (Or.inr (Or.inr (Or.inr (Or.inl c5))))
    rcases Classical.em (p4 ≤ (99 : Int32)) with c6 | c6
    · exfalso
      unfold v_X6_isNet v_X6_in at h
      rw [if_neg c1, if_neg c2, if_neg c3, if_neg c4, if_neg c5, if_neg (Int32.not_lt.mpr c6)] at h
      exact absurd h (by decide)
    · exact Or.inr (Or.inr (Or.inr (Or.inr (Or.inr c6))))
  · right
    refine ⟨h, ?_⟩
    have c1 : ¬ p2 < (1 : Int32) := fun z => h (by unfold v_X6_isNet v_X6_in; rw [if_pos z]; rfl)
    have c2 : ¬ (9999 : Int32) < p2 := fun z => h (by unfold v_X6_isNet v_X6_in; rw [if_neg c1, if_pos z]; rfl)
    have g1 : ¬ v_X6_in p2 (1 : Int32) (9999 : Int32) = 0 := by unfold v_X6_in; rw [if_neg c1, if_neg c2]; decide
    have g2 : ¬ v_X6_in p3 (0 : Int32) (40 : Int32) = 0 := fun z => h (by unfold v_X6_isNet; rw [if_neg g1, if_pos z])
    have g3 : ¬ v_X6_in p4 (0 : Int32) (99 : Int32) = 0 := fun z => h (by unfold v_X6_isNet; rw [if_neg g1, if_neg g2, if_pos z])
    obtain ⟨k3, h3, h3', rfl⟩ := digit_val (A := 0) (B := 40) g2 (by decide)
    obtain ⟨k4, h4, h4', rfl⟩ := digit_val (A := 0) (B := 99) g3 (by decide)
    obtain ⟨k2, h2, h2', rfl⟩ := digit_val (A := 1) (B := 9999) g1 (by decide)
    exact ⟨k2, k3, k4, h2, h2', h3', h4', rfl, rfl, rfl⟩
theorem nn {k : Nat} (hk : k < 2 ^ 31) : ¬ nI k < 0 := nI_pos hk
section MM
variable {z : CS} {u : Nat → Nat → Int32}
theorem M_bill (h : RLz z u) (p1 p2 p3 p4 : Int32) : v_X5_bill z p1 p2 p3 p4 = v_X6_bill u p1 p2 p3 p4 ∧ RLz (w_X5_bill z p1 p2 p3 p4) (w_X6_bill u p1 p2 p3 p4) := by
  have hJ := h.2.1
  have eV : v_X5_bill z p1 p2 p3 p4 = v_X1_writeBill (z.2 (z.1 0)) p1 p2 p3 p4 := by
    unfold v_X5_bill
    rw [eA_v, sA_1 hJ, sA_0 hJ]
  have eW : w_X5_bill z p1 p2 p3 p4 = w_X5_endAct (zB (w_X5_startAct z) (z.1 0) (w_X1_writeBill (z.2 (z.1 0)) p1 p2 p3 p4)) (v_X1_writeBill (z.2 (z.1 0)) p1 p2 p3 p4) := by
    unfold w_X5_bill
    rw [sA_1 hJ, sA_0 hJ]
  rw [eV, eW]
  obtain ⟨hm, n, d, hB, hS⟩ := h.2.2.1
  unfold v_X6_bill w_X6_bill
  rcases cust_cs p1 with ⟨c1, c2⟩ | ⟨c, hc, rfl, c1, c2, c3⟩
  · have e : v_X1_writeBill (z.2 (z.1 0)) p1 p2 p3 p4 = (-1 : Int32) := by
      unfold v_X1_writeBill
      rw [if_pos c1]
    rw [if_pos c2, if_pos c2, e]
    exact ⟨rfl, act_no h (by decide) uE.rf⟩
  · rw [if_neg c2, if_neg c2, c3]
    rcases net_cs p2 p3 p4 with ⟨g1, g2⟩ | ⟨g1, ne, ra, du, h1, h2, h3, h4, rfl, rfl, rfl⟩
    · rw [if_pos g1, if_pos g1, wrB_bad hc g2]
      exact ⟨rfl, act_no h (by decide) uE.rf⟩
    · rw [if_neg g1, if_neg g1]
      have e6 : u 1 6 = nI n := hB.1.1.1
      by_cases e40 : u 1 6 = (40 : Int32)
      · rw [if_pos e40, if_pos e40]
        have en : n = 40 := (nI_eq (by have := hB.1.1.2; omega) (by decide)).mp (e6.symm.trans e40)
        have e : v_X1_writeBill (z.2 (z.1 0)) (nI c) (nI ne) (nI ra) (nI du) = (-3 : Int32) := by
          unfold v_X1_writeBill
          rw [if_neg c1, if_neg (show ¬ nI ne < (1 : Int32) from nI_nlt (b := 1) h1 (by omega)), if_neg (show ¬ (9999 : Int32) < nI ne from nI_nlt (a := 9999) h2 (by decide)), if_neg (nn (by omega)), if_neg (show ¬ (40 : Int32) < nI ra from nI_nlt (a := 40) h3 (by decide)), if_neg (nn (by omega)), if_pos (show nI du ≤ (99 : Int32) from nI_le (b := 99) h4 (by decide)), cB_all hB, en, if_neg (by decide)]
        rw [e]
        exact ⟨rfl, act_no h (by decide) uE.rf⟩
      · rw [if_neg e40, if_neg e40]
        have hn : n < 40 := by
          rcases (show n = 40 ∨ n < 40 by have := hB.1.1.2; omega) with rfl | z
          · exact absurd e6 e40
          · exact z
        have k1 : w_X6_know u 1 = u 1 := know_o (by decide) (by decide) (by decide)
        obtain ⟨f1, f2, f3, f4, f5⟩ := bill_step (u := w_X6_know u) (b := z.2 (z.1 0)) (n := n) (d := d) (by rw [k1]; exact hm) (by rw [k1]; exact hB) (by rw [k1]; exact hS) hn hc h1 h2 h3 h4
        rw [f1, f2]
        exact ⟨rfl, act_know h uE.rf (nn (by omega)) (fun i hi => (billed_PR (by rw [k1]; exact hm) hc ⟨ra, h3, rfl⟩).2.1 i hi) ⟨f3, n + 1, d, f4, f5⟩⟩
theorem M_pay (h : RLz z u) (p1 p2 : Int32) : v_X5_pay z p1 p2 = v_X6_pay u p1 p2 ∧ RLz (w_X5_pay z p1 p2) (w_X6_pay u p1 p2) := by
  have hJ := h.2.1
  have eV : v_X5_pay z p1 p2 = v_X1_takePayment (z.2 (z.1 0)) p1 p2 := by
    unfold v_X5_pay
    rw [eA_v, sA_1 hJ, sA_0 hJ]
  have eW : w_X5_pay z p1 p2 = w_X5_endAct (zB (w_X5_startAct z) (z.1 0) (w_X1_takePayment (z.2 (z.1 0)) p1 p2)) (v_X1_takePayment (z.2 (z.1 0)) p1 p2) := by
    unfold w_X5_pay
    rw [sA_1 hJ, sA_0 hJ]
  rw [eV, eW]
  obtain ⟨hm, n, d, hB, hS⟩ := h.2.2.1
  unfold v_X6_pay w_X6_pay
  rcases cust_cs p1 with ⟨c1, c2⟩ | ⟨c, hc, rfl, c1, c2, c3⟩
  · have e : v_X1_takePayment (z.2 (z.1 0)) p1 p2 = (-1 : Int32) := by
      unfold v_X1_takePayment
      rw [if_pos c1]
    rw [if_pos c2, if_pos c2, e]
    exact ⟨rfl, act_no h (by decide) uE.rf⟩
  · rw [if_neg c2, if_neg c2, c3]
    rcases amt_cs p2 with ⟨g1, g2⟩ | ⟨L, hL1, hL2, rfl, g1, g2⟩
    · have e : v_X1_takePayment (z.2 (z.1 0)) (nI c) p2 = (-2 : Int32) := by
        unfold v_X1_takePayment
        rw [if_neg c1, if_pos g1]
      rw [if_pos g2, if_pos g2, e]
      exact ⟨rfl, act_no h (by decide) uE.rf⟩
    · rw [if_neg g2, if_neg g2]
      have a1 : w_X6_putAside u 1 = u 1 := putAside_o (by decide)
      have hwE : uE u (w_X6_wouldBeTooMuch u c (nI L)) := uE_PR2 (would_1 hm hc) (fun i h1 h2 => would_o hm hc h1 h2)
      have hev : v_X6_wouldBeTooMuch u c (nI L) = v_X6_isTooMuch (w_X6_paysAll (w_X6_putAside u) c (nI L)) := rfl
      rcases takePay (u := w_X6_putAside u) (b := z.2 (z.1 0)) (n := n) (d := d) (by rw [a1]; exact hm) (by rw [a1]; exact hB) (by rw [a1]; exact hS) hc hL1 hL2 with ⟨f1, f2⟩ | ⟨t, ht, f1, f2, -⟩
      · rw [hev, if_neg f2, if_neg f2, f1]
        exact ⟨rfl, act_no h (by decide) hwE⟩
      · rw [hev, if_pos f2, if_pos f2]
        have k1 : w_X6_know (w_X6_wouldBeTooMuch u c (nI L)) 1 = u 1 := (know_o (by decide) (by decide) (by decide)).trans (would_1 hm hc)
        rcases takePay (u := w_X6_know (w_X6_wouldBeTooMuch u c (nI L))) (b := z.2 (z.1 0)) (n := n) (d := d) (by rw [k1]; exact hm) (by rw [k1]; exact hB) (by rw [k1]; exact hS) hc hL1 hL2 with ⟨q1, q2⟩ | ⟨t', ht', q1, q2, q3, q4, q5, q6⟩
        · rw [f1] at q1
          exact absurd q1 (nI_nm (by omega) (by decide))
        · rw [q3, q1]
          exact ⟨rfl, act_know h hwE (nn (by omega)) (fun i hi => (paysAll_PR (by rw [k1]; exact hm) hc).2.1 i hi) ⟨q4, n, d, q5, q6⟩⟩
theorem M_payBill (h : RLz z u) (p1 p2 : Int32) : v_X5_payBill z p1 p2 = v_X6_payBill u p1 p2 ∧ RLz (w_X5_payBill z p1 p2) (w_X6_payBill u p1 p2) := by
  have hJ := h.2.1
  have eV : v_X5_payBill z p1 p2 = v_X1_takePaymentFor (z.2 (z.1 0)) p1 p2 := by
    unfold v_X5_payBill
    rw [eA_v, sA_1 hJ, sA_0 hJ]
  have eW : w_X5_payBill z p1 p2 = w_X5_endAct (zB (w_X5_startAct z) (z.1 0) (w_X1_takePaymentFor (z.2 (z.1 0)) p1 p2)) (v_X1_takePaymentFor (z.2 (z.1 0)) p1 p2) := by
    unfold w_X5_payBill
    rw [sA_1 hJ, sA_0 hJ]
  rw [eV, eW]
  obtain ⟨hm, n, d, hB, hS⟩ := h.2.2.1
  have hn : n ≤ 40 := hB.1.1.2
  unfold v_X6_payBill w_X6_payBill
  rcases billAt_cs hB p1 with ⟨c1, c2⟩ | ⟨j, hj, rfl, c1, c2, c3⟩
  · have e : v_X1_takePaymentFor (z.2 (z.1 0)) p1 p2 = (-1 : Int32) := by
      unfold v_X1_takePaymentFor
      rw [oel_n c1]
    rw [if_pos c2, if_pos c2, e]
    exact ⟨rfl, act_no h (by decide) uE.rf⟩
  · rw [if_neg c2, if_neg c2, c3]
    rcases amt_cs p2 with ⟨g1, g2⟩ | ⟨L, hL1, hL2, rfl, g1, g2⟩
    · have e : v_X1_takePaymentFor (z.2 (z.1 0)) (nI j) p2 = (-2 : Int32) := by
        unfold v_X1_takePaymentFor
        rw [oel_s c1, if_pos g1]
      rw [if_pos g2, if_pos g2, e]
      exact ⟨rfl, act_no h (by decide) uE.rf⟩
    · rw [if_neg g2, if_neg g2]
      have a1 : w_X6_putAside u 1 = u 1 := putAside_o (by decide)
      have x0 : z.2 (z.1 0) (j + 7) 0 = u 1 (233 + 12 * j + 5) := (hB.2.1 j hj).1.1
      have hwE : uE u (w_X6_refusalOn u j (nI L)) := uE_PR2 (refusal_1 hm (by omega)) (fun i h1 h2 => refusal_o hm (by omega) h1 h2)
      by_cases hst : u 1 (233 + 12 * j + 5) = (1 : Int32)
      · have ev : v_X6_refusalOn u j (nI L) = (-4 : Int32) := by
          unfold v_X6_refusalOn v_X6_is
          rw [if_pos hst, if_neg (by decide)]
        have e : v_X1_takePaymentFor (z.2 (z.1 0)) (nI j) (nI L) = (-4 : Int32) := by
          unfold v_X1_takePaymentFor
          rw [oel_s c1, if_neg g1, x0, if_pos hst]
        rw [ev, if_neg (by decide), if_neg (by decide), e]
        exact ⟨rfl, act_no h (by decide) hwE⟩
      · have ev : v_X6_refusalOn u j (nI L) = if v_X6_isTooMuch (w_X6_paidOn (w_X6_putAside u) j (nI L)) = 0 then (0 : Int32) else (-3 : Int32) := by
          unfold v_X6_refusalOn v_X6_is
          rw [if_neg hst, if_pos rfl]
        rcases takeFor (u := w_X6_putAside u) (b := z.2 (z.1 0)) (n := n) (d := d) (by rw [a1]; exact hm) (by rw [a1]; exact hB) (by rw [a1]; exact hS) hj hL1 hL2 (by rw [a1]; exact hst) c1 with ⟨f1, f2⟩ | ⟨t, ht, f1, f2, -⟩
        · rw [ev, if_neg f2, if_neg (by decide), if_neg (by decide), f1]
          exact ⟨rfl, act_no h (by decide) hwE⟩
        · rw [ev, if_pos f2, if_pos (by decide), if_pos (by decide)]
          have k1 : w_X6_know (w_X6_refusalOn u j (nI L)) 1 = u 1 := (know_o (by decide) (by decide) (by decide)).trans (refusal_1 hm (by omega))
          rcases takeFor (u := w_X6_know (w_X6_refusalOn u j (nI L))) (b := z.2 (z.1 0)) (n := n) (d := d) (by rw [k1]; exact hm) (by rw [k1]; exact hB) (by rw [k1]; exact hS) hj hL1 hL2 (by rw [k1]; exact hst) c1 with ⟨q1, q2⟩ | ⟨t', ht', q1, q2, q3, q4, q5, q6⟩
          · rw [f1] at q1
            exact absurd q1 (fun w => absurd (w ▸ nn (k := t) (by omega) : ¬ (-3 : Int32) < 0) (by decide))
          · rw [q3, q1]
            exact ⟨rfl, act_know h hwE (nn (by omega)) (fun i hi => (paidOn_PR (by rw [k1]; exact hm) (by omega)).2.1 i hi) ⟨q4, n, d, q5, q6⟩⟩
theorem M_payBack (h : RLz z u) (p1 : Int32) : v_X5_payBack z p1 = v_X6_payBack u p1 ∧ RLz (w_X5_payBack z p1) (w_X6_payBack u p1) := by
  have hJ := h.2.1
  have eV : v_X5_payBack z p1 = v_X1_returnCredit (z.2 (z.1 0)) p1 := by
    unfold v_X5_payBack
    rw [eA_v, sA_1 hJ, sA_0 hJ]
  have eW : w_X5_payBack z p1 = w_X5_endAct (zB (w_X5_startAct z) (z.1 0) (w_X1_returnCredit (z.2 (z.1 0)) p1)) (v_X1_returnCredit (z.2 (z.1 0)) p1) := by
    unfold w_X5_payBack
    rw [sA_1 hJ, sA_0 hJ]
  rw [eV, eW]
  obtain ⟨hm, n, d, hB, hS⟩ := h.2.2.1
  unfold v_X6_payBack w_X6_payBack v_X1_returnCredit w_X1_returnCredit
  rcases cust_cs p1 with ⟨c1, c2⟩ | ⟨c, hc, rfl, c1, c2, c3⟩
  · rw [if_pos c1, if_pos c1, if_pos c2, if_pos c2]
    exact ⟨rfl, act_no h (by decide) uE.rf⟩
  · rw [if_neg c1, if_neg c1, if_neg c2, if_neg c2, c3]
    obtain ⟨hcr, v, hv, ev⟩ := hB.1.2.2.2.2.2.2.1 c hc
    have ecr : v_X1_creditOf (z.2 (z.1 0)) (nI c) = z.2 (z.1 0) 2 c := by
      unfold v_X1_creditOf
      rw [if_neg c1, c3]
    have eset : w_X1_setCredit (z.2 (z.1 0)) (nI c) (0 : Int32) = up (z.2 (z.1 0)) 2 c (0 : Int32) := by
      unfold w_X1_setCredit
      rw [if_neg c1, c3]
    rw [ecr, eset, hcr]
    by_cases e0 : u 1 (9 + c) = 0
    · rw [if_pos e0, if_pos e0, if_pos e0]
      exact ⟨rfl, act_no h (by decide) uE.rf⟩
    · rw [if_neg e0, if_neg e0, if_neg e0]
      have k1 : w_X6_know u 1 = u 1 := know_o (by decide) (by decide) (by decide)
      obtain ⟨f1, f2, f3⟩ := back_step (u := w_X6_know u) (b := z.2 (z.1 0)) (n := n) (d := d) (by rw [k1]; exact hm) (by rw [k1]; exact hB) (by rw [k1]; exact hS) hc
      rw [k1] at f1 f2 f3
      rw [hcr] at f2 f3
      refine ⟨rfl, act_know h uE.rf (by rw [ev]; exact nn (by omega)) (fun i hi => by rw [up_oi hi, up_oi hi, up_oi hi]) ?_⟩
      rw [k1, up_ni (show (0 : Nat) ≠ 2 by decide)]
      exact ⟨f1, n, d, f2, f3⟩
theorem M_pass (h : RLz z u) (p1 : Int32) : v_X5_pass z p1 = v_X6_pass u p1 ∧ RLz (w_X5_pass z p1) (w_X6_pass u p1) := by
  have hJ := h.2.1
  have eV : v_X5_pass z p1 = v_X1_goOn (z.2 (z.1 0)) p1 := by
    unfold v_X5_pass
    rw [eA_v, sA_1 hJ, sA_0 hJ]
  have eW : w_X5_pass z p1 = w_X5_endAct (zB (w_X5_startAct z) (z.1 0) (w_X1_goOn (z.2 (z.1 0)) p1)) (v_X1_goOn (z.2 (z.1 0)) p1) := by
    unfold w_X5_pass
    rw [sA_1 hJ, sA_0 hJ]
  rw [eV, eW]
  obtain ⟨hm, n, d, hB, hS⟩ := h.2.2.1
  have hd9 : d ≤ 9999 := hB.1.2.1.2.1
  have hday : z.2 (z.1 0) 0 5 = u 1 0 := hB.1.2.1.2.2
  unfold v_X6_pass w_X6_pass v_X1_goOn w_X1_goOn
  by_cases g : v_X6_in p1 (1 : Int32) (99 : Int32) = 0
  · rw [if_pos g, if_pos g]
    have e : (if p1 < (1 : Int32) then (-2 : Int32) else if p1 ≤ (99 : Int32) then (if (z.2 (z.1 0) 0 5) + p1 ≤ (9999 : Int32) then (v_X1_countOverdue (up (z.2 (z.1 0)) 0 5 ((z.2 (z.1 0) 0 5) + p1))) else (-3 : Int32)) else (-2 : Int32)) = (-2 : Int32) := by
      by_cases c1 : p1 < (1 : Int32)
      · rw [if_pos c1]
      · rw [if_neg c1]
        by_cases c2 : p1 ≤ (99 : Int32)
        · exfalso
          unfold v_X6_in at g
          rw [if_neg c1, if_neg (Int32.not_lt.mpr c2)] at g
          exact absurd g (by decide)
        · rw [if_neg c2]
    rw [e]
    exact ⟨rfl, act_no h (by decide) uE.rf⟩
  · rw [if_neg g, if_neg g]
    obtain ⟨k, h1, h2, rfl⟩ := digit_val (A := 1) (B := 99) g (by decide)
    have c1 : ¬ nI k < (1 : Int32) := nI_nlt (b := 1) h1 (by omega)
    have c2 : nI k ≤ (99 : Int32) := nI_le (b := 99) h2 (by decide)
    rw [if_neg c1, if_neg c1, if_pos c2, if_pos c2, hday]
    by_cases c3 : u 1 0 + nI k ≤ (9999 : Int32)
    · rw [if_pos c3, if_pos c3, if_pos c3, if_pos c3]
      have hk : d + k ≤ 9999 := by
        rw [hB.1.2.1.1, nI_add] at c3
        exact (nI_leI (b := 9999) (by omega) (by decide)).mp c3
      have k1 : w_X6_know u 1 = u 1 := know_o (by decide) (by decide) (by decide)
      obtain ⟨f1, f2, f3⟩ := day_step (u := w_X6_know u) (b := z.2 (z.1 0)) (n := n) (d := d) (k := k) (by rw [k1]; exact hm) (by rw [k1]; exact hB) (by rw [k1]; exact hS) hk
      have eo := cO_eq f2
      rw [hday] at eo f2 f3
      refine ⟨eo, act_know h uE.rf ?_ (fun i hi => up_oi hi) ⟨f1, n, d + k, f2, f3⟩⟩
      have hco : ∀ (m q x : Nat) (b : Nat → Nat → Int32), ∃ y : Nat, y ≤ x + m ∧ v_X1_countOverdue_loop b m q (nI x) = nI y := by
        intro m
        induction m with
        | zero => intro q x b; exact ⟨x, by omega, rfl⟩
        | succ m ih =>
          intro q x b
          have e : v_X1_countOverdue_loop b (m + 1) q (nI x) = if v_X0_isOverdue b q (b 0 5) = 0 then (v_X1_countOverdue_loop b m (q + 1) (nI x + (0 : Int32))) else v_X1_countOverdue_loop b m (q + 1) (nI x + (1 : Int32)) := rfl
          rw [e, Int32.add_zero, nI_1]
          split
          · obtain ⟨y, g1, g2⟩ := ih (q + 1) x b
            exact ⟨y, by omega, g2⟩
          · obtain ⟨y, g1, g2⟩ := ih (q + 1) (x + 1) b
            exact ⟨y, by omega, g2⟩
      obtain ⟨y, hy, ey⟩ := hco 40 0 0 (up (z.2 (z.1 0)) 0 5 (u 1 0 + nI k))
      have ey : v_X1_countOverdue (up (z.2 (z.1 0)) 0 5 (u 1 0 + nI k)) = nI y := ey
      rw [ey]
      exact nn (by omega)
    · rw [if_neg c3, if_neg c3, if_neg c3, if_neg c3]
      exact ⟨rfl, act_no h (by decide) uE.rf⟩
end MM
