section MR
variable {z : CS} {u : Nat → Nat → Int32}
theorem R_billOf (h : RLz z u) (p1 p2 : Int32) : v_X5_billOf z p1 p2 = v_X6_billOf u p1 p2 := by
  obtain ⟨hm, n, d, hB, hS⟩ := h.2.2.1
  unfold v_X5_billOf v_X6_billOf
  rcases billAt_cs hB p1 with ⟨c1, c2⟩ | ⟨j, hj, rfl, c1, c2, c3⟩
  · rw [if_pos c2, oel_n c1]
  · obtain ⟨x0, x1, x2, x3, x4, x5, x6, x7, x8, x9, x10, x11, x12, x13⟩ := (hB.2.1 j hj).1
    have ed : v_X0_dueDay (z.2 (z.1 0)) j = v_X6_dueDay u j := by
      unfold v_X0_dueDay v_X6_dueDay
      rw [x6, x7]
    have es : z.2 (z.1 0) (j + 7) 5 = v_X6_sumOf u j := x5
    rw [if_neg c2, oel_s c1, c3, ed, BR_owed hB hj, ov_lt hB hj, tx_lt hB hj, x1, x2, es, x6, x0, x8, x9, x10, x11, x13]
theorem R_customer (h : RLz z u) (p1 p2 : Int32) : v_X5_customer z p1 p2 = v_X6_customer u p1 p2 := by
  obtain ⟨hm, n, d, hB, hS⟩ := h.2.2.1
  unfold v_X5_customer v_X6_customer
  rcases cust_cs p1 with ⟨c1, c2⟩ | ⟨c, hc, rfl, c1, c2, c3⟩
  · rw [if_pos c1, if_pos c2]
  · have ecr : v_X1_creditOf (z.2 (z.1 0)) (nI c) = z.2 (z.1 0) 2 c := by
      unfold v_X1_creditOf
      rw [if_neg c1, c3]
    have ec : z.2 (z.1 0) 2 c = u 1 (9 + c) := (hB.1.2.2.2.2.2.2.1 c hc).1
    have e4 := hS.1 c hc
    have s0 : sw (0 : Int32) (0 : Int32) := sw_n (k := 0) (by decide)
    have s2 : sw (2 : Int32) (2 : Int32) := sw_n (k := 2) (by decide)
    rw [if_neg c1, if_neg c2, c3, cB_eq hB (sw_n (by omega)) sw_a, cB_eq hB (sw_n (by omega)) s0, oO_eq hB (sw_n (by omega)) s0, oO_eq hB (sw_n (by omega)) s2, oo_eq hB (by omega), ecr, e4, ec]
theorem R_tax (h : RLz z u) (p1 p2 : Int32) : v_X5_tax z p1 p2 = v_X6_tax u p1 p2 := by
  obtain ⟨hm, n, d, hB, hS⟩ := h.2.2.1
  unfold v_X5_tax v_X6_tax
  rcases year_cs p1 with ⟨c1, c2⟩ | ⟨y, hy, rfl, c1, c2, c3⟩
  · rw [if_pos c1, if_pos c2]
  · rw [if_neg c1, if_neg c2, c3]
    by_cases g : v_X6_in p2 (0 : Int32) (2 : Int32) = 0
    · rw [if_pos g]
      by_cases g1 : p2 < 0
      · rw [if_pos g1]
      · rw [if_neg g1]
        by_cases g2 : p2 ≤ (2 : Int32)
        · exfalso
          unfold v_X6_in at g
          rw [if_neg g1, if_neg (Int32.not_lt.mpr g2)] at g
          exact absurd g (by decide)
        · rw [if_neg g2]
    · rw [if_neg g]
      obtain ⟨k, -, hk, rfl⟩ := digit_val (A := 0) (B := 2) g (by decide)
      rw [if_neg (nn (by omega)), if_pos (show nI k ≤ (2 : Int32) from nI_le (b := 2) hk (by decide))]
      rcases (show k = 0 ∨ k = 1 ∨ k = 2 by omega) with rfl | rfl | rfl
      · rw [if_neg (by decide), if_neg (by decide)]
        exact tO_eq hB hy (Or.inl rfl)
      · rw [if_neg (by decide), if_neg (by decide)]
        exact tO_eq hB hy (Or.inr rfl)
      · rw [if_pos (by decide), if_pos (by decide)]
        unfold v_X1_taxTold
        rw [if_neg c1, c3, hB.1.2.2.1.1, hB.1.2.2.2.2.2.2.2.2 y hy]
theorem R_reason (h : RLz z u) (p1 : Int32) : v_X5_reason z p1 = v_X6_reason u p1 := by
  obtain ⟨hm, n, d, hB, hS⟩ := h.2.2.1
  unfold v_X5_reason v_X6_reason
  rcases billAt_cs hB p1 with ⟨c1, c2⟩ | ⟨j, hj, rfl, c1, c2, c3⟩
  · rw [if_pos c2, oel_n c1]
  · rw [if_neg c2, oel_s c1, c3, why_eq hB hj]
theorem R_settles (h : RLz z u) (p1 : Int32) : v_X5_settles z p1 = v_X6_settles u p1 := by
  obtain ⟨hm, n, d, hB, hS⟩ := h.2.2.1
  unfold v_X5_settles
  rcases cust_cs p1 with ⟨c1, c2⟩ | ⟨c, hc, rfl, c1, c2, c3⟩
  · unfold v_X6_settles
    rw [if_pos c1, if_pos c2]
  · rw [if_neg c1]
    exact se_eq hB hc c2
theorem R_worst (h : RLz z u) : v_X5_worst z = v_X6_worst u := by
  obtain ⟨hm, n, d, hB, hS⟩ := h.2.2.1
  exact wl_eq hB 8 0 _ _ rfl
theorem R_stopped (h : RLz z u) (p1 : Int32) : v_X5_stopped z p1 = v_X6_stopped u p1 := by
  unfold v_X5_stopped v_X6_stopped
  rcases h.2.2.2.2.2.2 with ⟨g1, g2, g3⟩ | ⟨g1, g2, g3⟩
  · rw [if_pos g1, if_pos g1, g2, g3]
  · have g4 : ¬ z.2 7 0 6 = 0 := by rw [g1]; decide
    rw [if_neg g4, if_neg g4, g2, g3]
theorem R_nextReminder (h : RLz z u) (p1 : Int32) : v_X5_nextReminder z p1 = v_X6_nextReminder u p1 := by
  obtain ⟨hm, n, d, hB, hS⟩ := h.2.2.1
  unfold v_X5_nextReminder v_X6_nextReminder
  rcases billAt_cs hB p1 with ⟨c1, c2⟩ | ⟨j, hj, rfl, c1, c2, c3⟩
  · rw [if_pos c2, oel_n c1]
  · rw [if_neg c2, oel_s c1, c3]
    obtain ⟨a, w, ha, hw1, hw2, ea, ew, e62, er⟩ := cf_N hB hj
    obtain ⟨r, hr, er1, er2⟩ := rm_N hB hj
    have x0 : z.2 (z.1 0) (j + 7) 0 = u 1 (233 + 12 * j + 5) := (hB.2.1 j hj).1.1
    have hday : z.2 (z.1 0) 0 5 = u 1 0 := hB.1.2.1.2.2
    have hd9 : d ≤ 9999 := hB.1.2.1.2.1
    have hd0 : u 1 0 = nI d := hB.1.2.1.1
    unfold v_X0_awaitsReminder v_X3_reminderDays v_X6_is
    rw [er, ea, ew, er1, er2, x0, hday, hd0, nI_add]
    by_cases s0 : u 1 (233 + 12 * j + 5) = (0 : Int32)
    · rw [if_pos s0, if_pos s0]
      by_cases r3 : nI r = (3 : Int32)
      · rw [if_pos ((rm3 hr).2.mpr r3), if_pos rfl, if_neg (show ¬ (1 : Int32) = 0 by decide), if_neg (show ¬ (1 : Int32) = 0 by decide), if_pos r3, if_pos r3, ite_self]
      · rw [if_neg (fun q => r3 ((rm3 hr).2.mp q)), if_neg (show ¬ (1 : Int32) = 0 by decide), if_neg (show ¬ (1 : Int32) = 0 by decide), if_neg (show ¬ (1 : Int32) = 0 by decide), if_neg r3, if_neg r3]
        have hd9' : nI d ≤ (9999 : Int32) := nI_le (b := 9999) hd9 (by decide)
        have hdn : ¬ (9999 : Int32) < nI d := nI_nlt (a := 9999) hd9 (by decide)
        rcases Nat.lt_or_ge d (a + w) with q | q
        · have q1 : nI d < nI (a + w) := nI_lt q (by omega)
          have q2 : nI d ≤ nI (a + w) := nI_le (by omega) (by omega)
          rw [if_pos q1, if_pos q2]
          by_cases q3 : nI (a + w) ≤ (9999 : Int32)
          · rw [if_pos q3, if_neg (Int32.not_lt.mpr q3)]
          · rw [if_neg q3, if_pos (Int32.not_le.mp q3)]
        · have q1 : ¬ nI d < nI (a + w) := nI_nlt q (by omega)
          rw [if_neg q1, if_neg hdn, if_pos hd9']
          by_cases q2 : nI d ≤ nI (a + w)
          · have q4 : d = a + w := Nat.le_antisymm ((nI_leI (by omega) (by omega)).mp q2) q
            rw [if_pos q2, ← q4, if_pos hd9']
          · rw [if_neg q2]
    · rw [if_neg s0, if_neg s0, if_pos rfl, if_pos rfl, if_pos rfl, ite_self]
theorem R_count (h : RLz z u) (p1 : Int32) : v_X5_count z p1 = v_X6_count u p1 := by
  have hH := h.2.2.2.1
  have hT := h.2.2.2.2.2.1
  obtain ⟨hm, n, d, hB, hS⟩ := h.2.2.1
  obtain ⟨⟨a1, a1'⟩, ⟨a2, a3, a4⟩, ⟨a5, c5, a5c, a5'⟩, a6, a7, hE, a9, a10, a11⟩ := hB.1
  have s0 : sw (0 : Int32) (0 : Int32) := sw_n (k := 0) (by decide)
  have s1 : sw (1 : Int32) (1 : Int32) := sw_n (k := 1) (by decide)
  have s2 : sw (2 : Int32) (2 : Int32) := sw_n (k := 2) (by decide)
  have e9 : v_X1_paidOn (z.2 (z.1 0)) (-9) + v_X1_allCredit (z.2 (z.1 0)) + z.2 (z.1 0) 0 7 = v_X6_sumOfCustomers u 17 := hS.2.1.trans (sC_l 17).symm
  have e20 : z.2 7 1 1 = u 0 6 := by
    obtain ⟨k, -, h1, h2, -⟩ := hH
    rw [h1, h2]
  have e21 : z.2 8 0 1 = u 0 8 := by
    obtain ⟨k, -, h1, h2, -⟩ := hT
    rw [h1, h2]
  have e1 : v_X1_countBills (z.2 (z.1 0)) (-9) (-9) = u 1 6 := (cB_all hB).trans a1.symm
  unfold v_X5_count v_X6_count v_X3_discountDays v_X3_discountPercent v_X3_reminderDays v_X3_reminderFee v_X3_taxWay
  rw [e1, cB_eq hB sw_a s0, cB_eq hB sw_a s1, cB_eq hB sw_a s2, cO_eq hB, oO_eq hB sw_a s0, oO_eq hB sw_a s2, e9, aC_eq hB, aD_eq hB, aF_eq hB, aR_eq hB, a4, a5, a6, a7 0 (by decide), a7 1 (by decide), a7 2 (by decide), a7 3 (by decide), a7 4 (by decide), e20, e21]
  by_cases g : v_X6_in p1 (15 : Int32) (19 : Int32) = 0
  · rw [if_pos g]
    have hne : ∀ k : Nat, 15 ≤ k → k ≤ 19 → ¬ p1 = nI k := fun k h1 h2 e => by
      rw [e] at g
      unfold v_X6_in at g
      rw [if_neg (show ¬ nI k < (15 : Int32) from nI_nlt (b := 15) h1 (by omega)), if_neg (show ¬ (19 : Int32) < nI k from nI_nlt (a := 19) h2 (by decide))] at g
      exact absurd g (by decide)
    have n15 : ¬ p1 = (15 : Int32) := hne 15 (by decide) (by decide)
    have n16 : ¬ p1 = (16 : Int32) := hne 16 (by decide) (by decide)
    have n17 : ¬ p1 = (17 : Int32) := hne 17 (by decide) (by decide)
    have n18 : ¬ p1 = (18 : Int32) := hne 18 (by decide) (by decide)
    have n19 : ¬ p1 = (19 : Int32) := hne 19 (by decide) (by decide)
    rw [if_neg n15, if_neg n16, if_neg n17, if_neg n18, if_neg n19, if_neg n15, if_neg n16, if_neg n17, if_neg n18, if_neg n19]
    by_cases q2 : p1 = 2
    · subst q2; rfl
    by_cases q3 : p1 = 3
    · subst q3; rfl
    by_cases q4 : p1 = 4
    · subst q4; rfl
    rw [if_neg q2, if_neg q3, if_neg q4, if_neg q2, if_neg q3, if_neg q4]
  · rw [if_neg g]
    obtain ⟨k, h1, h2, rfl⟩ := digit_val (A := 15) (B := 19) g (by decide)
    rcases (show k = 15 ∨ k = 16 ∨ k = 17 ∨ k = 18 ∨ k = 19 by omega) with rfl | rfl | rfl | rfl | rfl <;> rfl
end MR
