/-! a thing is done alike -/
section DO
variable {z : CS} {u : Nat → Nat → Int32}
theorem zB_id {r : Nat} : zB z r (z.2 r) = z := (zB_self (x := z) (y := z) rfl (fun _ _ => rfl)).symm
/-- what a thing comes to -/
def DTo (W : Nat → Nat → Int32) (v : Int32) (u : Nat → Nat → Int32) : Prop := ((0 ≤ v ∨ v = (-5 : Int32)) ∧ 0 ≤ v_X6_does u ∧ BR W (w_X6_does u 1)) ∨ (v < 0 ∧ ¬ v = (-5 : Int32) ∧ v_X6_does u = v)
theorem coN (b : Nat → Nat → Int32) : ∃ y : Nat, y ≤ 40 ∧ v_X1_countOverdue b = nI y := by
  have hco : ∀ (m q x : Nat), ∃ y : Nat, y ≤ x + m ∧ v_X1_countOverdue_loop b m q (nI x) = nI y := by
    intro m
    induction m with
    | zero => intro q x; exact ⟨x, by omega, rfl⟩
    | succ m ih =>
      intro q x
      have e : v_X1_countOverdue_loop b (m + 1) q (nI x) = if v_X0_isOverdue b q (b 0 5) = 0 then (v_X1_countOverdue_loop b m (q + 1) (nI x + (0 : Int32))) else v_X1_countOverdue_loop b m (q + 1) (nI x + (1 : Int32)) := rfl
      rw [e, Int32.add_zero, nI_1]
      split
      · obtain ⟨y, g1, g2⟩ := ih (q + 1) x
        exact ⟨y, by omega, g2⟩
      · obtain ⟨y, g1, g2⟩ := ih (q + 1) (x + 1)
        exact ⟨y, by omega, g2⟩
  obtain ⟨y, hy, ey⟩ := hco 40 0 0
  exact ⟨y, by omega, ey⟩
theorem dt_bill {b : Nat → Nat → Int32} (hB : BR b (u 1)) {c v r d : Nat} (h0 : u 7 0 = (98 : Int32)) (hc : c < 8) (h1 : u 7 1 = nI c) (v1 : 1 ≤ v) (v2 : v ≤ 9999) (h2 : u 7 2 = nI v) (hr : r ≤ 40) (h3 : u 7 3 = nI r) (hd : d ≤ 99) (h4 : u 7 4 = nI d) : DTo (w_X1_writeBill b (nI c) (nI v) (nI r) (nI d)) (v_X1_writeBill b (nI c) (nI v) (nI r) (nI d)) u := by
  obtain ⟨hm, n, dd, hB, hS⟩ := hB
  have e1 : v_X6_does u = v_X6_billed u c (nI v) (nI r) (nI d) := by
    unfold v_X6_does
    rw [if_pos h0, (sN_of h1 (by omega)).2, h2, h3, h4]
  have e2 : w_X6_does u = w_X6_billed u c (nI v) (nI r) (nI d) := by
    unfold w_X6_does
    rw [if_pos h0, (sN_of h1 (by omega)).2, h2, h3, h4]
  unfold DTo
  rw [e1, e2]
  have hn := hB.1.1.2
  rcases (show n = 40 ∨ n < 40 by omega) with rfl | hn
  · right
    have e : v_X1_writeBill b (nI c) (nI v) (nI r) (nI d) = (-3 : Int32) := by
      unfold v_X1_writeBill
      rw [if_neg (isC1 hc).1, if_neg (show ¬ nI v < (1 : Int32) from nI_nlt (b := 1) v1 (by omega)), if_neg (show ¬ (9999 : Int32) < nI v from nI_nlt (a := 9999) v2 (by decide)), if_neg (nn (by omega)), if_neg (show ¬ (40 : Int32) < nI r from nI_nlt (a := 40) hr (by decide)), if_neg (nn (by omega)), if_pos (show nI d ≤ (99 : Int32) from nI_le (b := 99) hd (by decide)), cB_all hB, if_neg (by decide)]
    have e' : v_X6_billed u c (nI v) (nI r) (nI d) = (-3 : Int32) := by
      unfold v_X6_billed
      rw [if_pos (show u 1 6 = (40 : Int32) from hB.1.1.1)]
    rw [e, e']
    exact ⟨by decide, by decide, rfl⟩
  · left
    obtain ⟨f1, f2, f3, f4, f5⟩ := bill_step hm hB hS hn hc v1 v2 hr hd
    rw [f1, f2]
    exact ⟨Or.inl (nI_pos' (by omega)), nI_pos' (by omega), f3, n + 1, dd, f4, f5⟩
theorem dt_pay {b : Nat → Nat → Int32} (hB : BR b (u 1)) {c v : Nat} (h0 : u 7 0 = (112 : Int32)) (hc : c < 8) (h1 : u 7 1 = nI c) (v1 : 1 ≤ v) (v2 : v ≤ 99999) (h2 : u 7 2 = nI v) (h3 : u 7 3 = (-5 : Int32)) : DTo (w_X1_takePayment b (nI c) (nI v)) (v_X1_takePayment b (nI c) (nI v)) u := by
  obtain ⟨hm, n, d, hB, hS⟩ := hB
  have n98 : ¬ u 7 0 = (98 : Int32) := by rw [h0]; decide
  have e1 : v_X6_does u = if v_X6_wouldBeTooMuch u c (nI v) = 0 then (v_X6_paysAll (w_X6_wouldBeTooMuch u c (nI v)) c (nI v)) else (-3 : Int32) := by
    unfold v_X6_does v_X6_paidByText
    rw [if_neg n98, if_pos h0, (sN_of h1 (by omega)).2, h2, if_pos h3]
  have e2 : w_X6_does u = if v_X6_wouldBeTooMuch u c (nI v) = 0 then (w_X6_paysAll (w_X6_wouldBeTooMuch u c (nI v)) c (nI v)) else w_X6_wouldBeTooMuch u c (nI v) := by
    unfold w_X6_does w_X6_paidByText
    rw [if_neg n98, if_pos h0, (sN_of h1 (by omega)).2, h2, if_pos h3]
  have a1 : w_X6_putAside u 1 = u 1 := putAside_o (by decide)
  have hev : v_X6_wouldBeTooMuch u c (nI v) = v_X6_isTooMuch (w_X6_paysAll (w_X6_putAside u) c (nI v)) := rfl
  unfold DTo
  rw [e1, e2]
  rcases takePay (u := w_X6_putAside u) (b := b) (n := n) (d := d) (by rw [a1]; exact hm) (by rw [a1]; exact hB) (by rw [a1]; exact hS) hc v1 v2 with ⟨f1, f2⟩ | ⟨t, ht, f1, f2, -⟩
  · right
    rw [hev, if_neg f2, f1]
    exact ⟨by decide, by decide, rfl⟩
  · left
    have k1 : w_X6_wouldBeTooMuch u c (nI v) 1 = u 1 := would_1 hm hc
    rcases takePay (u := w_X6_wouldBeTooMuch u c (nI v)) (b := b) (n := n) (d := d) (by rw [k1]; exact hm) (by rw [k1]; exact hB) (by rw [k1]; exact hS) hc v1 v2 with ⟨q1, q2⟩ | ⟨t', ht', q1, q2, q3, q4, q5, q6⟩
    · rw [f1] at q1
      exact absurd q1 (nI_nm (by omega) (by decide))
    · rw [hev, if_pos f2, if_pos f2, q1, q3]
      exact ⟨Or.inl (nI_pos' (by omega)), nI_pos' (by omega), q4, n, d, q5, q6⟩
theorem dt_named {b : Nat → Nat → Int32} (hB : BR b (u 1)) {c v k : Nat} (h0 : u 7 0 = (112 : Int32)) (hc : c < 8) (h1 : u 7 1 = nI c) (v1 : 1 ≤ v) (v2 : v ≤ 99999) (h2 : u 7 2 = nI v) (hk : k ≤ 39) (h3 : u 7 3 = nI k) : DTo (if v_X1_isOfAnother b (nI k) (nI c) = 0 then w_X1_takePaymentFor b (nI k) (nI v) else b) (if v_X1_isOfAnother b (nI k) (nI c) = 0 then v_X1_takePaymentFor b (nI k) (nI v) else (-4 : Int32)) u := by
  obtain ⟨hm, n, d, hB, hS⟩ := hB
  have hn := hB.1.1.2
  have n98 : ¬ u 7 0 = (98 : Int32) := by rw [h0]; decide
  have n5 : ¬ nI k = (-5 : Int32) := nI_nm (by omega) (by decide)
  have hck : (nI k).toNatClampNeg = k := nI_clamp (by omega)
  have e1 : v_X6_does u = if v_X6_isBill u (nI k) = 0 then (-1 : Int32) else if u 1 (233 + 12 * k + 0) = nI c then (if 0 ≤ v_X6_refusalOn u k (nI v) then (v_X6_paidOn (w_X6_refusalOn u k (nI v)) k (nI v)) else v_X6_refusalOn u k (nI v)) else (-4 : Int32) := by
    unfold v_X6_does v_X6_paidByText
    rw [if_neg n98, if_pos h0, (sN_of h1 (by omega)).2, h2, h3, if_neg n5, hck]
  have e2 : w_X6_does u = if v_X6_isBill u (nI k) = 0 then u else if u 1 (233 + 12 * k + 0) = nI c then (if 0 ≤ v_X6_refusalOn u k (nI v) then (w_X6_paidOn (w_X6_refusalOn u k (nI v)) k (nI v)) else w_X6_refusalOn u k (nI v)) else u := by
    unfold w_X6_does w_X6_paidByText
    rw [if_neg n98, if_pos h0, (sN_of h1 (by omega)).2, h2, h3, if_neg n5, hck]
  unfold DTo
  rw [e1, e2]
  rcases billAt_cs hB (nI k) with ⟨c1, c2⟩ | ⟨j, hj, ej, c1, c2, c3⟩
  · right
    have ea : v_X1_isOfAnother b (nI k) (nI c) = 0 := by
      unfold v_X1_isOfAnother
      rw [oel_n c1]
    have eb : v_X1_takePaymentFor b (nI k) (nI v) = (-1 : Int32) := by
      unfold v_X1_takePaymentFor
      rw [oel_n c1]
    rw [if_pos ea, eb, if_pos c2]
    exact ⟨by decide, by decide, rfl⟩
  · rw [hck] at c3
    subst c3
    have x1 : b (k + 7) 1 = u 1 (233 + 12 * k + 0) := (hB.2.1 k hj).1.2.1
    have x0 : b (k + 7) 0 = u 1 (233 + 12 * k + 5) := (hB.2.1 k hj).1.1
    have ea : v_X1_isOfAnother b (nI k) (nI c) = if u 1 (233 + 12 * k + 0) = nI c then (0 : Int32) else (1 : Int32) := by
      unfold v_X1_isOfAnother
      rw [oel_s c1, x1]
    rw [if_neg c2, if_neg c2, ea]
    by_cases g : u 1 (233 + 12 * k + 0) = nI c
    · rw [if_pos g, if_pos g, if_pos g, if_pos rfl, if_pos rfl]
      by_cases hst : u 1 (233 + 12 * k + 5) = (1 : Int32)
      · right
        have ev : v_X6_refusalOn u k (nI v) = (-4 : Int32) := by
          unfold v_X6_refusalOn v_X6_is
          rw [if_pos hst, if_neg (by decide)]
        have e : v_X1_takePaymentFor b (nI k) (nI v) = (-4 : Int32) := by
          unfold v_X1_takePaymentFor
          rw [oel_s c1, if_neg (isA1 v1 v2).1, x0, if_pos hst]
        rw [ev, e, if_neg (by decide)]
        exact ⟨by decide, by decide, rfl⟩
      · have ev : v_X6_refusalOn u k (nI v) = if v_X6_isTooMuch (w_X6_paidOn (w_X6_putAside u) k (nI v)) = 0 then (0 : Int32) else (-3 : Int32) := by
          unfold v_X6_refusalOn v_X6_is
          rw [if_neg hst, if_pos rfl]
        have a1 : w_X6_putAside u 1 = u 1 := putAside_o (by decide)
        rcases takeFor (u := w_X6_putAside u) (b := b) (n := n) (d := d) (by rw [a1]; exact hm) (by rw [a1]; exact hB) (by rw [a1]; exact hS) hj v1 v2 (by rw [a1]; exact hst) c1 with ⟨f1, f2⟩ | ⟨t, ht, f1, f2, -⟩
        · right
          rw [ev, if_neg f2, if_neg (by decide), f1]
          exact ⟨by decide, by decide, rfl⟩
        · left
          have k1 : w_X6_refusalOn u k (nI v) 1 = u 1 := refusal_1 hm (by omega)
          rcases takeFor (u := w_X6_refusalOn u k (nI v)) (b := b) (n := n) (d := d) (by rw [k1]; exact hm) (by rw [k1]; exact hB) (by rw [k1]; exact hS) hj v1 v2 (by rw [k1]; exact hst) c1 with ⟨q1, q2⟩ | ⟨t', ht', q1, q2, q3, q4, q5, q6⟩
          · rw [f1] at q1
            exact absurd q1 (fun w => absurd (w ▸ nn (k := t) (by omega) : ¬ (-3 : Int32) < 0) (by decide))
          · rw [ev, if_pos f2, if_pos (by decide), if_pos (by decide), q1, q3]
            exact ⟨Or.inl (nI_pos' (by omega)), nI_pos' (by omega), q4, n, d, q5, q6⟩
    · right
      rw [if_neg g, if_neg g, if_neg (by decide)]
      exact ⟨by decide, by decide, rfl⟩
theorem dt_rem {b : Nat → Nat → Int32} (hB : BR b (u 1)) (h0 : u 7 0 = (114 : Int32)) : DTo (w_X1_sendReminders b) (v_X1_sendReminders b) u := by
  obtain ⟨hm, n, d, hB, hS⟩ := hB
  have hn := hB.1.1.2
  have n98 : ¬ u 7 0 = (98 : Int32) := by rw [h0]; decide
  have n112 : ¬ u 7 0 = (112 : Int32) := by rw [h0]; decide
  obtain ⟨b', u', t', f1, f2, f3, f4, f5, f6, f7, f8, f9, f10⟩ := rem_lp (d := d) hn n 0 b u 0 (by omega) hm hB
  have e1 : v_X1_sendReminders b = if nI t' ≤ 0 then (-5 : Int32) else nI t' := f7
  have e2 : w_X1_sendReminders b = b' := f8
  have e3 : v_X6_does u = nI t' := by
    unfold v_X6_does v_X6_reminds
    rw [if_neg n98, if_neg n112, if_pos h0, BR_nb hB]; exact f9
  have e4 : w_X6_does u = u' := by
    unfold w_X6_does w_X6_reminds
    rw [if_neg n98, if_neg n112, if_pos h0, BR_nb hB]; exact f10
  unfold DTo
  rw [e1, e2, e3, e4]
  left
  refine ⟨?_, nI_pos' (by omega), f3, n, d, f4, f5 hS⟩
  split
  · exact Or.inr rfl
  · exact Or.inl (nI_pos' (by omega))
theorem dt_day {b : Nat → Nat → Int32} (hB : BR b (u 1)) {k : Nat} (h0 : u 7 0 = (46 : Int32)) (k1 : 1 ≤ k) (k2 : k ≤ 99) (h1 : u 7 1 = nI k) : DTo (w_X1_goOn b (nI k)) (v_X1_goOn b (nI k)) u := by
  obtain ⟨hm, n, d, hB, hS⟩ := hB
  have n98 : ¬ u 7 0 = (98 : Int32) := by rw [h0]; decide
  have n112 : ¬ u 7 0 = (112 : Int32) := by rw [h0]; decide
  have n114 : ¬ u 7 0 = (114 : Int32) := by rw [h0]; decide
  have hday : b 0 5 = u 1 0 := hB.1.2.1.2.2
  have hd9 : d ≤ 9999 := hB.1.2.1.2.1
  have c1 : ¬ nI k < (1 : Int32) := nI_nlt (b := 1) k1 (by omega)
  have c2 : nI k ≤ (99 : Int32) := nI_le (b := 99) k2 (by decide)
  unfold DTo v_X6_does w_X6_does v_X1_goOn w_X1_goOn
  rw [if_neg n98, if_neg n112, if_neg n114, if_neg n98, if_neg n112, if_neg n114, if_neg c1, if_neg c1, if_pos c2, if_pos c2, h1, hday]
  by_cases g : u 1 0 + nI k ≤ (9999 : Int32)
  · left
    have hk : d + k ≤ 9999 := by
      have g2 := g
      rw [hB.1.2.1.1, nI_add] at g2
      exact (nI_leI (b := 9999) (by omega) (by decide)).mp g2
    obtain ⟨f1, f2, f3⟩ := day_step hm hB hS hk
    rw [hday] at f2 f3
    have g3 : ¬ (9999 : Int32) < u 1 0 + nI k := Int32.not_lt.mpr g
    rw [if_pos g, if_pos g, if_neg g3, if_neg g3]
    obtain ⟨y, hy, ey⟩ := coN (up b 0 5 (u 1 0 + nI k))
    rw [ey]
    exact ⟨Or.inl (nI_pos' (by omega)), by decide, f1, n, d + k, f2, f3⟩
  · right
    rw [if_neg g, if_pos (Int32.not_le.mp g)]
    exact ⟨by decide, by decide, rfl⟩
theorem dt (hB : BR (z.2 (z.1 0)) (u 1)) (hH : TH (z.2 8) u) (hV : HV u) : ∃ W : Nat → Nat → Int32, w_X5_doThing z = zB z (z.1 0) W ∧ DTo W (v_X5_doThing z) u := by
  rcases hH with ⟨h0, t3, t4, t5, t6, t7⟩ | ⟨h0, t4, t5, t3⟩ | ⟨h0, t3⟩ | ⟨h0, t3, t7⟩
  · rcases hV with ⟨-, ⟨c, c1, c2⟩, ⟨v, v1, v2, v3⟩, ⟨r, r1, r2⟩, d, d1, d2⟩ | ⟨e, -⟩ | e | ⟨e, -⟩
    · refine ⟨w_X1_writeBill (z.2 (z.1 0)) (nI c) (nI v) (nI r) (nI d), ?_, ?_⟩
      · unfold w_X5_doThing
        rw [if_pos t3, t4, t5, t6, t7, c2, v3, r2, d2]
      · have e : v_X5_doThing z = v_X1_writeBill (z.2 (z.1 0)) (nI c) (nI v) (nI r) (nI d) := by
          unfold v_X5_doThing
          rw [if_pos t3, t4, t5, t6, t7, c2, v3, r2, d2]
        rw [e]
        exact dt_bill hB h0 c1 c2 v1 v2 v3 r1 r2 d1 d2
    · rw [h0] at e; exact absurd e (by decide)
    · rw [h0] at e; exact absurd e (by decide)
    · rw [h0] at e; exact absurd e (by decide)
  · rcases hV with ⟨e, -⟩ | ⟨-, ⟨c, c1, c2⟩, ⟨v, v1, v2, v3⟩, hk⟩ | e | ⟨e, -⟩
    · rw [h0] at e; exact absurd e (by decide)
    · rcases t3 with ⟨t3, t8⟩ | ⟨t3, t8, t9⟩
      · have n0 : ¬ z.2 8 0 3 = 0 := by rw [t3]; decide
        refine ⟨w_X1_takePayment (z.2 (z.1 0)) (nI c) (nI v), ?_, ?_⟩
        · unfold w_X5_doThing
          rw [if_neg n0, if_pos t3, t4, t5, c2, v3]
        · have e : v_X5_doThing z = v_X1_takePayment (z.2 (z.1 0)) (nI c) (nI v) := by
            unfold v_X5_doThing
            rw [if_neg n0, if_pos t3, t4, t5, c2, v3]
          rw [e]
          exact dt_pay hB h0 c1 c2 v1 v2 v3 t8
      · have n0 : ¬ z.2 8 0 3 = 0 := by rw [t3]; decide
        have n1 : ¬ z.2 8 0 3 = (1 : Int32) := by rw [t3]; decide
        obtain ⟨k, k1, k2⟩ := hk.resolve_left t9
        refine ⟨if v_X1_isOfAnother (z.2 (z.1 0)) (nI k) (nI c) = 0 then w_X1_takePaymentFor (z.2 (z.1 0)) (nI k) (nI v) else z.2 (z.1 0), ?_, ?_⟩
        · unfold w_X5_doThing
          rw [if_neg n0, if_neg n1, if_pos t3, t4, t5, t8, c2, v3, k2]
          split
          · rfl
          · exact zB_id.symm
        · have e : v_X5_doThing z = if v_X1_isOfAnother (z.2 (z.1 0)) (nI k) (nI c) = 0 then v_X1_takePaymentFor (z.2 (z.1 0)) (nI k) (nI v) else (-4 : Int32) := by
            unfold v_X5_doThing
            rw [if_neg n0, if_neg n1, if_pos t3, t4, t5, t8, c2, v3, k2]
          rw [e]
          exact dt_named hB h0 c1 c2 v1 v2 v3 k1 k2
    · rw [h0] at e; exact absurd e (by decide)
    · rw [h0] at e; exact absurd e (by decide)
  · have n0 : ¬ z.2 8 0 3 = 0 := by rw [t3]; decide
    have n1 : ¬ z.2 8 0 3 = (1 : Int32) := by rw [t3]; decide
    have n2 : ¬ z.2 8 0 3 = (2 : Int32) := by rw [t3]; decide
    refine ⟨w_X1_sendReminders (z.2 (z.1 0)), ?_, ?_⟩
    · unfold w_X5_doThing
      rw [if_neg n0, if_neg n1, if_neg n2, if_pos t3]
    · have e : v_X5_doThing z = v_X1_sendReminders (z.2 (z.1 0)) := by
        unfold v_X5_doThing
        rw [if_neg n0, if_neg n1, if_neg n2, if_pos t3]
      rw [e]
      exact dt_rem hB h0
  · have n0 : ¬ z.2 8 0 3 = 0 := by rw [t3]; decide
    have n1 : ¬ z.2 8 0 3 = (1 : Int32) := by rw [t3]; decide
    have n2 : ¬ z.2 8 0 3 = (2 : Int32) := by rw [t3]; decide
    have n3 : ¬ z.2 8 0 3 = (3 : Int32) := by rw [t3]; decide
    rcases hV with ⟨e, -⟩ | ⟨e, -⟩ | e | ⟨-, k, k1, k2, k3⟩
    · rw [h0] at e; exact absurd e (by decide)
    · rw [h0] at e; exact absurd e (by decide)
    · rw [h0] at e; exact absurd e (by decide)
    · refine ⟨w_X1_goOn (z.2 (z.1 0)) (nI k), ?_, ?_⟩
      · unfold w_X5_doThing
        rw [if_neg n0, if_neg n1, if_neg n2, if_neg n3, t7, k3]
      · have e : v_X5_doThing z = v_X1_goOn (z.2 (z.1 0)) (nI k) := by
          unfold v_X5_doThing
          rw [if_neg n0, if_neg n1, if_neg n2, if_neg n3, t7, k3]
        rw [e]
        exact dt_day hB h0 k1 k2 k3
end DO
