section MQ
variable {z : CS} {u : Nat → Nat → Int32}
def ipV (y : CS) (p1 p2 p3 : Int32) (W : CS) (T : Int32) : Int32 := if 0 ≤ T then (if p3 = 0 then T else if p3 = 1 then (v_X1_allDiscounts (W.2 (W.1 1)) - v_X1_allDiscounts (W.2 (W.1 0))) else if p3 = 2 then (v_X1_creditOf (W.2 (W.1 1)) p1) else v_X1_owedOn (W.2 (W.1 1)) p1 (0 : Int32)) else T
theorem ipV_eq (p1 p2 p3 : Int32) : v_X5_ifPaid z p1 p2 p3 = if v_X5_isCustomer p1 = 0 then (-1 : Int32) else if v_X5_isAmount p2 = 0 then (-2 : Int32) else if p3 < 0 then (-2 : Int32) else if p3 ≤ (3 : Int32) then ipV (w_X1_copyFrom z (z.1 1) (z.1 0)) p1 p2 p3 (zB (w_X1_copyFrom z (z.1 1) (z.1 0)) ((w_X1_copyFrom z (z.1 1) (z.1 0)).1 1) (w_X1_takePayment ((w_X1_copyFrom z (z.1 1) (z.1 0)).2 ((w_X1_copyFrom z (z.1 1) (z.1 0)).1 1)) p1 p2)) (v_X1_takePayment ((w_X1_copyFrom z (z.1 1) (z.1 0)).2 ((w_X1_copyFrom z (z.1 1) (z.1 0)).1 1)) p1 p2) else (-2 : Int32) := rfl
theorem ipW_eq (p1 p2 p3 : Int32) : w_X5_ifPaid z p1 p2 p3 = if v_X5_isCustomer p1 = 0 then z else if v_X5_isAmount p2 = 0 then z else if p3 < 0 then z else if p3 ≤ (3 : Int32) then (zB (w_X1_copyFrom z (z.1 1) (z.1 0)) ((w_X1_copyFrom z (z.1 1) (z.1 0)).1 1) (w_X1_takePayment ((w_X1_copyFrom z (z.1 1) (z.1 0)).2 ((w_X1_copyFrom z (z.1 1) (z.1 0)).1 1)) p1 p2)) else z := by
  unfold w_X5_ifPaid
  simp only [ite_self]
theorem ipW6_eq (p1 p2 p3 : Int32) : w_X6_ifPaid u p1 p2 p3 = if v_X6_isCustomer p1 = 0 then u else if v_X6_isAmount p2 = 0 then u else if v_X6_in p3 (0 : Int32) (3 : Int32) = 0 then u else if v_X6_wouldBeTooMuch u p1.toNatClampNeg p2 = 0 then (w_X6_putBack (w_X6_paysAll (w_X6_putAside (w_X6_wouldBeTooMuch u p1.toNatClampNeg p2)) p1.toNatClampNeg p2)) else w_X6_wouldBeTooMuch u p1.toNatClampNeg p2 := by
  unfold w_X6_ifPaid
  simp only [ite_self]
theorem ip_fin {c L : Nat} (h : RLz z u) (hc : c < 8) (hL1 : 1 ≤ L) (hL2 : L ≤ 99999) {k : Nat} (hk : k ≤ 3) (y : CS) (y1 : y.1 = z.1) (y2 : ∀ q, q ≠ z.1 1 → y.2 q = z.2 q) (y3 : cpE (y.2 (z.1 1)) (z.2 (z.1 0))) :
    ipV y (nI c) (nI L) (nI k) (zB y (y.1 1) (w_X1_takePayment (y.2 (y.1 1)) (nI c) (nI L))) (v_X1_takePayment (y.2 (y.1 1)) (nI c) (nI L)) = (if v_X6_wouldBeTooMuch u c (nI L) = 0 then (if nI k = 0 then (v_X6_paysAll (w_X6_putAside (w_X6_wouldBeTooMuch u c (nI L))) c (nI L)) else if nI k = (1 : Int32) then ((v_X6_sum (w_X6_paysAll (w_X6_putAside (w_X6_wouldBeTooMuch u c (nI L))) c (nI L)) 7) - (v_X6_sum (w_X6_putAside (w_X6_wouldBeTooMuch u c (nI L))) 7)) else if nI k = (2 : Int32) then ((w_X6_paysAll (w_X6_putAside (w_X6_wouldBeTooMuch u c (nI L))) c (nI L)) 1 (9 + c)) else v_X6_owedBy (w_X6_paysAll (w_X6_putAside (w_X6_wouldBeTooMuch u c (nI L))) c (nI L)) (nI c) (0 : Int32)) else (-3 : Int32)) := by
  have hJ := h.2.1
  obtain ⟨hm0, n0, d0, hB0, hS0⟩ := h.2.2.1
  obtain ⟨hm, n, d, hB, hS⟩ := BR_cp h.2.2.1 y3
  have a1 : w_X6_putAside u 1 = u 1 := putAside_o (by decide)
  have a2 : w_X6_putAside (w_X6_wouldBeTooMuch u c (nI L)) 1 = u 1 := (putAside_o (by decide)).trans (would_1 hm hc)
  have hev : v_X6_wouldBeTooMuch u c (nI L) = v_X6_isTooMuch (w_X6_paysAll (w_X6_putAside u) c (nI L)) := rfl
  rw [y1]
  have W1 : (zB y (z.1 1) (w_X1_takePayment (y.2 (z.1 1)) (nI c) (nI L))).1 = z.1 := y1
  have W2 : (zB y (z.1 1) (w_X1_takePayment (y.2 (z.1 1)) (nI c) (nI L))).2 (z.1 1) = w_X1_takePayment (y.2 (z.1 1)) (nI c) (nI L) := wz_same
  have W3 : (zB y (z.1 1) (w_X1_takePayment (y.2 (z.1 1)) (nI c) (nI L))).2 (z.1 0) = z.2 (z.1 0) := (wz_ne (RJ_ne hJ (by decide) (by decide) (by decide))).trans (y2 _ (RJ_ne hJ (by decide) (by decide) (by decide)))
  unfold ipV
  rw [W1, W2, W3]
  rcases takePay (u := w_X6_putAside u) (b := y.2 (z.1 1)) (n := n) (d := d) (by rw [a1]; exact hm) (by rw [a1]; exact hB) (by rw [a1]; exact hS) hc hL1 hL2 with ⟨f1, f2⟩ | ⟨t, ht, f1, f2, -⟩
  · rw [hev, if_neg f2, f1, if_neg (by decide)]
  · rw [hev, if_pos f2]
    rcases takePay (u := w_X6_putAside (w_X6_wouldBeTooMuch u c (nI L))) (b := y.2 (z.1 1)) (n := n) (d := d) (by rw [a2]; exact hm) (by rw [a2]; exact hB) (by rw [a2]; exact hS) hc hL1 hL2 with ⟨q1, q2⟩ | ⟨t', ht', q1, q2, q3, q4, q5, q6⟩
    · rw [f1] at q1
      exact absurd q1 (nI_nm (by omega) (by decide))
    · rw [q1, q3, if_pos (nI_pos' (by omega))]
      have eD := aD_eq (u := w_X6_putAside (w_X6_wouldBeTooMuch u c (nI L))) (b := z.2 (z.1 0)) (by rw [a2]; exact hB0)
      have ecr : v_X1_creditOf (w_X1_takePayment (y.2 (z.1 1)) (nI c) (nI L)) (nI c) = w_X6_paysAll (w_X6_putAside (w_X6_wouldBeTooMuch u c (nI L))) c (nI L) 1 (9 + c) := by
        unfold v_X1_creditOf
        rw [if_neg (isC1 hc).1, nI_clamp (by omega)]
        exact (q5.1.2.2.2.2.2.2.1 c hc).1
      rw [aD_eq q5, eD, ecr, oO_eq q5 (sw_n (show c < 1000 by omega)) (show sw (0 : Int32) 0 from sw_n (k := 0) (by decide))]
theorem M_ifPaid (h : RLz z u) (p1 p2 p3 : Int32) : v_X5_ifPaid z p1 p2 p3 = v_X6_ifPaid u p1 p2 p3 ∧ RLz (w_X5_ifPaid z p1 p2 p3) (w_X6_ifPaid u p1 p2 p3) := by
  have hJ := h.2.1
  obtain ⟨hm, n, d, hB, hS⟩ := h.2.2.1
  rw [ipV_eq, ipW_eq, ipW6_eq]
  unfold v_X6_ifPaid
  rcases cust_cs p1 with ⟨c1, c2⟩ | ⟨c, hc, rfl, c1, c2, c3⟩
  · rw [if_pos c1, if_pos c1, if_pos c2, if_pos c2]; exact ⟨rfl, h⟩
  · rw [if_neg c1, if_neg c1, if_neg c2, if_neg c2, c3]
    rcases amt_cs p2 with ⟨g1, g2⟩ | ⟨L, hL1, hL2, rfl, g1, g2⟩
    · rw [if_pos g1, if_pos g1, if_pos g2, if_pos g2]; exact ⟨rfl, h⟩
    · rw [if_neg g1, if_neg g1, if_neg g2, if_neg g2]
      by_cases g : v_X6_in p3 (0 : Int32) (3 : Int32) = 0
      · rw [if_pos g, if_pos g]
        by_cases q1 : p3 < 0
        · rw [if_pos q1, if_pos q1]; exact ⟨rfl, h⟩
        · rw [if_neg q1, if_neg q1]
          by_cases q2 : p3 ≤ (3 : Int32)
          · exfalso
            unfold v_X6_in at g
            rw [if_neg q1, if_neg (Int32.not_lt.mpr q2)] at g
            exact absurd g (by decide)
          · rw [if_neg q2, if_neg q2]; exact ⟨rfl, h⟩
      · rw [if_neg g, if_neg g]
        obtain ⟨k, -, hk, rfl⟩ := digit_val (A := 0) (B := 3) g (by decide)
        rw [if_neg (nn (k := k) (by omega)), if_neg (nn (k := k) (by omega)), if_pos (show nI k ≤ (3 : Int32) from nI_le (b := 3) hk (by decide)), if_pos (show nI k ≤ (3 : Int32) from nI_le (b := 3) hk (by decide))]
        obtain ⟨s1, s2, s3⟩ := cp_ok (z := z) (r := z.1 1) (r1 := z.1 0) (RJ_ne hJ (by decide) (by decide) (by decide))
        have hu : uE u (if v_X6_wouldBeTooMuch u c (nI L) = 0 then (w_X6_putBack (w_X6_paysAll (w_X6_putAside (w_X6_wouldBeTooMuch u c (nI L))) c (nI L))) else w_X6_wouldBeTooMuch u c (nI L)) := by
          have hm' := would_SI (p := nI L) hm hc
          split
          · have hPR := paysAll_PR (p := nI L) (aside_SI hm') hc
            exact uE_PR2 ((back_1 hPR).trans (would_1 hm hc)) (fun i h1 h2 => (back_o hPR h1 h2).trans (would_o hm hc h1 h2))
          · exact uE_PR2 (would_1 hm hc) (fun i h1 h2 => would_o hm hc h1 h2)
        have key : ∀ y : CS, y.1 = z.1 → (∀ q, q ≠ z.1 1 → y.2 q = z.2 q) → RLz (zB y (y.1 1) (w_X1_takePayment (y.2 (y.1 1)) (nI c) (nI L))) u := fun y y1 y2 =>
          RL_spare h y1 (fun q hq => (wz_ne (by rw [y1]; exact hq)).trans (y2 q hq))
        exact ⟨ip_fin h hc hL1 hL2 hk _ s1 s2 s3, RLz_u (key _ s1 s2) hu⟩
end MQ
