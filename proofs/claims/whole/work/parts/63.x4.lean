/-! what is read off all bills -/
def mI (u : Nat → Nat → Int32) (w p1 p2 : Int32) (i : Nat) : Int32 := if p1 = w ∨ u 1 (233 + 12 * i + 0) = p1 then (if p2 = w ∨ u 1 (233 + 12 * i + 5) = p2 then 1 else 0) else 0
theorem mI_w {u : Nat → Nat → Int32} {w w' p1 p2 q1 q2 : Int32} {i : Nat} (h1 : (p1 = w ∨ u 1 (233 + 12 * i + 0) = p1) ↔ (q1 = w' ∨ u 1 (233 + 12 * i + 0) = q1)) (h2 : (p2 = w ∨ u 1 (233 + 12 * i + 5) = p2) ↔ (q2 = w' ∨ u 1 (233 + 12 * i + 5) = q2)) : mI u w p1 p2 i = mI u w' q1 q2 i := by
  unfold mI
  simp only [h1, h2]
theorem st_in {y : Nat → Int32} {d cu ne ra wr du st pd dc fe rm lt : Nat} (h : BN y d cu ne ra wr du st pd dc fe rm lt) : ∃ k : Nat, k ≤ 2 ∧ y 5 = nI k := ⟨st, h.2.1.2.2.2.2.2.2.1, h.1.2.2.2.2.2.1⟩
section RD
variable {b : Nat → Nat → Int32} {u : Nat → Nat → Int32} {n d : Nat}
theorem BR_nb (h : BR0 b (u 1) n d) : sN (u 1) 6 = n := (sN_of h.1.1.1 (by have := h.1.1.2; omega)).2
theorem BR_day (h : BR0 b (u 1) n d) : sN (u 1) 0 = d := (sN_of h.1.2.1.1 (by have := h.1.2.1.2.1; omega)).2
theorem st_ok (h : BR0 b (u 1) n d) {j : Nat} (hj : j < n) : ∃ k : Nat, k ≤ 2 ∧ u 1 (233 + 12 * j + 5) = nI k := by
  obtain ⟨-, cu, ne, ra, wr, du, st, pd, dc, fe, rm, lt, hN⟩ := h.2.1 j hj
  exact st_in hN
theorem cu_ok (h : BR0 b (u 1) n d) {j : Nat} (hj : j < n) : ∃ k : Nat, k < 8 ∧ u 1 (233 + 12 * j + 0) = nI k := by
  obtain ⟨-, cu, ne, ra, wr, du, st, pd, dc, fe, rm, lt, hN⟩ := h.2.1 j hj
  exact ⟨cu, hN.2.1.1, hN.1.1⟩
theorem nI_nm {k : Nat} (hk : k < 1000) {v : Int32} (hv : v < 0) : ¬ nI k = v := fun z => absurd hv (z ▸ nI_pos (by omega))
theorem is_lt (h : BR0 b (u 1) n d) {j : Nat} (hj : j < n) (p1 p2 : Int32) : v_X0_is b j p1 p2 = mI u (-9) p1 p2 j := by
  obtain ⟨x0, x1, -⟩ := (h.2.1 j hj).1
  obtain ⟨k, hk, e⟩ := st_ok h hj
  have x0' : b (j + 7) 0 = u 1 (233 + 12 * j + 5) := x0
  have x1' : b (j + 7) 1 = u 1 (233 + 12 * j + 0) := x1
  unfold v_X0_is mI
  rw [x0', x1', if_neg (show ¬ u 1 (233 + 12 * j + 5) = (-1 : Int32) by rw [e]; exact nI_nm (by omega) (by decide))]
  by_cases c1 : p1 = (-9 : Int32)
  · rw [if_pos c1, if_pos (Or.inl c1)]
    by_cases c2 : p2 = (-9 : Int32)
    · rw [if_pos c2, if_pos (Or.inl c2)]
    · rw [if_neg c2]
      by_cases c3 : p2 = u 1 (233 + 12 * j + 5)
      · rw [if_pos c3, if_pos (Or.inr c3.symm)]
      · rw [if_neg c3, if_neg (fun z => z.elim c2 (fun z => c3 z.symm))]
  · rw [if_neg c1]
    by_cases c4 : p1 = u 1 (233 + 12 * j + 0)
    · rw [if_pos c4, if_pos (Or.inr c4.symm)]
      by_cases c2 : p2 = (-9 : Int32)
      · rw [if_pos c2, if_pos (Or.inl c2)]
      · rw [if_neg c2]
        by_cases c3 : p2 = u 1 (233 + 12 * j + 5)
        · rw [if_pos c3, if_pos (Or.inr c3.symm)]
        · rw [if_neg c3, if_neg (fun z => z.elim c2 (fun z => c3 z.symm))]
    · rw [if_neg c4, if_neg (fun z => z.elim c1 (fun z => c4 z.symm))]
theorem is_ge (h : BR0 b (u 1) n d) {j : Nat} (hj : n ≤ j) (hj2 : j < 40) (p1 p2 : Int32) : v_X0_is b j p1 p2 = 0 := by
  unfold v_X0_is
  rw [if_pos (h.2.2 j hj hj2).1]
theorem cB_l (p1 p2 : Int32) : v_X1_countBills b p1 p2 = lS (fun i => if v_X0_is b i p1 p2 = 0 then 0 else 1) 40 0 := by
  unfold v_X1_countBills
  rw [acc_lS (f := fun i => if v_X0_is b i p1 p2 = 0 then 0 else 1) (L := v_X1_countBills_loop b p1 p2) (fun _ _ => rfl) (fun n k x => by show (if _ then _ else _) = _; split <;> rfl), Int32.zero_add]
theorem cB_n (h : BR0 b (u 1) n d) (p1 p2 : Int32) : v_X1_countBills b p1 p2 = lS (fun i => if mI u (-9) p1 p2 i = 0 then 0 else 1) n 0 := by
  have hn : n ≤ 40 := h.1.1.2
  rw [cB_l, lS_cut hn (fun i h1 h2 => by rw [is_ge h h1 h2, if_pos rfl])]
  exact lS_c n 0 (fun i _ h2 => by rw [is_lt h (by omega)])
theorem bO_l (p1 p2 : Int32) : v_X6_billsOf u p1 p2 = lS (fun i => if mI u (-5) p1 p2 i = 0 then 0 else 1) (sN (u 1) 6) 0 := by
  unfold v_X6_billsOf
  rw [acc_lS (f := fun i => if mI u (-5) p1 p2 i = 0 then 0 else 1) (L := v_X6_billsOf_loop u p1 p2) (fun _ _ => rfl) ?_, Int32.zero_add]
  intro n k x
  show (if _ then _ else _) = v_X6_billsOf_loop u p1 p2 n (k + 1) (x + if mI u (-5) p1 p2 k = 0 then 0 else 1)
  unfold mI v_X6_is
  grind
/-- one word for all customers, states, on either side -/
def sw (p q : Int32) : Prop := (p = (-9 : Int32) ∧ q = (-5 : Int32)) ∨ (p = q ∧ ∃ k : Nat, k < 1000 ∧ p = nI k)
theorem sw_a : sw (-9) (-5) := Or.inl ⟨rfl, rfl⟩
theorem sw_n {k : Nat} (h : k < 1000) : sw (nI k) (nI k) := Or.inr ⟨rfl, k, h, rfl⟩
theorem sw_iff {p q v : Int32} (h : sw p q) : (p = (-9 : Int32) ∨ v = p) ↔ (q = (-5 : Int32) ∨ v = q) := by
  rcases h with ⟨rfl, rfl⟩ | ⟨rfl, k, hk, rfl⟩
  · exact ⟨fun _ => Or.inl rfl, fun _ => Or.inl rfl⟩
  · exact ⟨fun z => z.elim (fun z => absurd z (nI_nm hk (by decide))) Or.inr, fun z => z.elim (fun z => absurd z (nI_nm hk (by decide))) Or.inr⟩
theorem mI_sw {p1 p2 q1 q2 : Int32} {i : Nat} (h1 : sw p1 q1) (h2 : sw p2 q2) : mI u (-9) p1 p2 i = mI u (-5) q1 q2 i := mI_w (sw_iff h1) (sw_iff h2)
theorem cB_eq (h : BR0 b (u 1) n d) {p1 p2 q1 q2 : Int32} (h1 : sw p1 q1) (h2 : sw p2 q2) : v_X1_countBills b p1 p2 = v_X6_billsOf u q1 q2 := by
  rw [cB_n h, bO_l, BR_nb h]
  exact lS_c n 0 (fun i _ _ => by rw [mI_sw h1 h2])
theorem lS_1 : ∀ (n k : Nat), lS (fun _ => (1 : Int32)) n k = nI n := by
  intro n
  induction n with
  | zero => intro k; rfl
  | succ n ih =>
    intro k
    show (1 : Int32) + lS _ n (k + 1) = _
    rw [ih, i1, nI_add, Nat.add_comm]
theorem cB_all (h : BR0 b (u 1) n d) : v_X1_countBills b (-9) (-9) = nI n := by
  rw [cB_n h, ← lS_1 n 0]
  refine lS_c n 0 (fun i _ _ => ?_)
  have e : mI u (-9) (-9) (-9) i = 1 := by
    unfold mI
    rw [if_pos (Or.inl rfl), if_pos (Or.inl rfl)]
  rw [e]; rfl
theorem oO_l (p1 p2 : Int32) : v_X1_owedOn b p1 p2 = lS (fun i => if v_X0_is b i p1 p2 = 0 then 0 else v_X0_owed b i) 40 0 := by
  unfold v_X1_owedOn
  rw [acc_lS (f := fun i => if v_X0_is b i p1 p2 = 0 then 0 else v_X0_owed b i) (L := v_X1_owedOn_loop b p1 p2) (fun _ _ => rfl) (fun n k x => by show (if _ then _ else _) = _; split <;> rfl), Int32.zero_add]
theorem oO_n (h : BR0 b (u 1) n d) (p1 p2 : Int32) : v_X1_owedOn b p1 p2 = lS (fun i => if mI u (-9) p1 p2 i = 0 then 0 else v_X6_owedOn u i) n 0 := by
  have hn : n ≤ 40 := h.1.1.2
  rw [oO_l, lS_cut hn (fun i h1 h2 => by rw [is_ge h h1 h2, if_pos rfl])]
  exact lS_c n 0 (fun i _ h2 => by rw [is_lt h (by omega), BR_owed h (by omega)])
theorem oB_l {p1 p2 : Int32} (h2 : ¬ p2 = (-5 : Int32)) : v_X6_owedBy u p1 p2 = lS (fun i => if mI u (-5) p1 p2 i = 0 then 0 else v_X6_owedOn u i) (sN (u 1) 6) 0 := by
  unfold v_X6_owedBy
  rw [acc_lS (f := fun i => if mI u (-5) p1 p2 i = 0 then 0 else v_X6_owedOn u i) (L := v_X6_owedBy_loop u p1 p2) (fun _ _ => rfl) ?_, Int32.zero_add]
  intro n k x
  show (if _ then _ else _) = v_X6_owedBy_loop u p1 p2 n (k + 1) (x + if mI u (-5) p1 p2 k = 0 then 0 else v_X6_owedOn u k)
  unfold mI v_X6_is
  grind
theorem oO_eq (h : BR0 b (u 1) n d) {p1 p2 q1 : Int32} (h1 : sw p1 q1) (h2 : sw p2 p2) : v_X1_owedOn b p1 p2 = v_X6_owedBy u q1 p2 := by
  have h3 : ¬ p2 = (-5 : Int32) := by
    rcases h2 with ⟨rfl, z⟩ | ⟨-, k, hk, rfl⟩
    · exact absurd z (by decide)
    · exact nI_nm hk (by decide)
  rw [oO_n h, oB_l h3, BR_nb h]
  exact lS_c n 0 (fun i _ _ => by rw [mI_sw h1 h2])
theorem pO_l (p1 : Int32) : v_X1_paidOn b p1 = lS (fun i => if v_X0_is b i p1 (-9) = 0 then 0 else b (i + 7) 8) 40 0 := by
  unfold v_X1_paidOn
  rw [acc_lS (f := fun i => if v_X0_is b i p1 (-9) = 0 then 0 else b (i + 7) 8) (L := v_X1_paidOn_loop b p1) (fun _ _ => rfl) (fun n k x => by show (if _ then _ else _) = _; split <;> rfl), Int32.zero_add]
theorem aC_l : v_X1_allCredit b = lS (fun i => b 2 i) 8 0 := by
  unfold v_X1_allCredit
  rw [acc_lS (f := fun i => b 2 i) (L := v_X1_allCredit_loop b) (fun _ _ => rfl) (fun _ _ _ => rfl), Int32.zero_add]
theorem sC_l (w : Nat) : v_X6_sumOfCustomers u w = lS (fun i => u 1 (w + i)) 8 0 := by
  unfold v_X6_sumOfCustomers
  rw [acc_lS (f := fun i => u 1 (w + i)) (L := v_X6_sumOfCustomers_loop u w) (fun _ _ => rfl) (fun _ _ _ => rfl), Int32.zero_add]
theorem sm_l (w : Nat) : v_X6_sum u w = lS (fun i => u 1 (233 + 12 * i + w)) (sN (u 1) 6) 0 := by
  unfold v_X6_sum
  rw [acc_lS (f := fun i => u 1 (233 + 12 * i + w)) (L := v_X6_sum_loop u w) (fun _ _ => rfl) (fun _ _ _ => rfl), Int32.zero_add]
theorem aD_eq (h : BR0 b (u 1) n d) : v_X1_allDiscounts b = v_X6_sum u 7 := by
  have hn : n ≤ 40 := h.1.1.2
  unfold v_X1_allDiscounts
  rw [acc_lS (f := fun i => b (i + 7) 9) (L := v_X1_allDiscounts_loop b) (fun _ _ => rfl) (fun _ _ _ => rfl), Int32.zero_add, sm_l, BR_nb h, lS_cut hn (fun i h1 h2 => (h.2.2 i h1 h2).2.1 9 (by decide) (by decide))]
  exact lS_c n 0 (fun i _ h2 => (h.2.1 i (by omega)).1.2.2.2.2.2.2.2.2.2.1)
theorem aF_eq (h : BR0 b (u 1) n d) : v_X1_allFees b = v_X6_sum u 8 := by
  have hn : n ≤ 40 := h.1.1.2
  unfold v_X1_allFees
  rw [acc_lS (f := fun i => b (i + 7) 10) (L := v_X1_allFees_loop b) (fun _ _ => rfl) (fun _ _ _ => rfl), Int32.zero_add, sm_l, BR_nb h, lS_cut hn (fun i h1 h2 => (h.2.2 i h1 h2).2.1 10 (by decide) (by decide))]
  exact lS_c n 0 (fun i _ h2 => (h.2.1 i (by omega)).1.2.2.2.2.2.2.2.2.2.2.1)
theorem aR_eq (h : BR0 b (u 1) n d) : v_X1_allReminders b = v_X6_sum u 9 := by
  have hn : n ≤ 40 := h.1.1.2
  unfold v_X1_allReminders
  rw [acc_lS (f := fun i => b (i + 7) 11) (L := v_X1_allReminders_loop b) (fun _ _ => rfl) (fun _ _ _ => rfl), Int32.zero_add, sm_l, BR_nb h, lS_cut hn (fun i h1 h2 => (h.2.2 i h1 h2).2.1 11 (by decide) (by decide))]
  exact lS_c n 0 (fun i _ h2 => (h.2.1 i (by omega)).1.2.2.2.2.2.2.2.2.2.2.2.1)
theorem aC_eq (h : BR0 b (u 1) n d) : v_X1_allCredit b = v_X6_sumOfCustomers u 9 := by
  rw [aC_l, sC_l]
  exact lS_c 8 0 (fun i _ h2 => (h.1.2.2.2.2.2.2.1 i (by omega)).1)
theorem ov_lt (h : BR0 b (u 1) n d) {j : Nat} (hj : j < n) : v_X0_isOverdue b j (b 0 5) = v_X6_isOverdue u j := by
  obtain ⟨x0, x1, x2, x3, x4, x5, x6, x7, -⟩ := (h.2.1 j hj).1
  have hday : b 0 5 = u 1 0 := h.1.2.1.2.2
  unfold v_X0_isOverdue v_X6_isOverdue v_X6_is v_X6_daysSince
  rw [x0, x6, x7, hday]
  by_cases c : yR (u 1) j 5 = 0
  · rw [if_pos c, if_pos c, if_neg (show ¬ (1 : Int32) = 0 by decide)]
  · rw [if_neg c, if_neg c, if_pos rfl]
theorem cO_eq (h : BR0 b (u 1) n d) : v_X1_countOverdue b = v_X6_overdue u := by
  have hn : n ≤ 40 := h.1.1.2
  unfold v_X1_countOverdue v_X6_overdue
  rw [acc_lS (f := fun i => if v_X0_isOverdue b i (b 0 5) = 0 then 0 else 1) (L := v_X1_countOverdue_loop b) (fun _ _ => rfl) (fun n k x => by show (if _ then _ else _) = _; split <;> rfl), acc_lS (f := fun i => if v_X6_isOverdue u i = 0 then 0 else 1) (L := v_X6_overdue_loop u) (fun _ _ => rfl) (fun n k x => by show (if _ then _ else _) = _; split <;> rfl), BR_nb h, lS_cut hn (fun i h1 h2 => ?_), lS_c n 0 (fun i _ h2 => by rw [ov_lt h (by omega)])]
  unfold v_X0_isOverdue
  rw [if_neg (show ¬ b (i + 7) 0 = 0 by rw [(h.2.2 i h1 h2).1]; decide), if_pos rfl]
end RD
