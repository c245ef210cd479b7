/-! the numbers of one bill and of one book -/
def BN (x : Nat → Int32) (d st cu ne tx ra wr du pd dc fe rm lt lp : Nat) : Prop :=
  (x 0 = nI st ∧ x 1 = nI cu ∧ x 2 = nI ne ∧ x 3 = nI ra ∧ x 4 = nI tx ∧ x 5 = nI (ne + tx) ∧ x 6 = nI wr ∧ x 7 = nI du ∧ x 8 = nI pd ∧ x 9 = nI dc ∧ x 10 = nI fe ∧ x 11 = nI rm ∧ x 12 = nI lt ∧ x 13 = (if pd = 0 then (-5 : Int32) else nI lp)) ∧
  (st ≤ 2 ∧ cu < 8 ∧ 1 ≤ ne ∧ ne ≤ 9999 ∧ tx ≤ 4000 ∧ ra ≤ 40 ∧ wr ≤ d ∧ du ≤ 99 ∧ rm ≤ 3 ∧ lt ≤ d ∧ lp ≤ d ∧ fe ≤ 300 * rm) ∧
  pd + dc ≤ ne + tx + fe ∧ (st = 1 ↔ pd + dc = ne + tx + fe) ∧ (st = 2 → rm = 3) ∧ (1 ≤ rm → wr + du < lt)
def BI (x : Nat → Int32) (d : Nat) : Prop := ∃ st cu ne tx ra wr du pd dc fe rm lt lp : Nat, BN x d st cu ne tx ra wr du pd dc fe rm lt lp
/-- a place without a bill -/
def EB (x : Nat → Int32) : Prop := x 0 = (-1 : Int32) ∧ (∀ k, 1 ≤ k → k < 13 → x k = 0) ∧ x 13 = (-5 : Int32)
def SE (b : Nat → Nat → Int32) : Prop := ∃ e p w f t : Nat, (b 6 0 = nI e ∧ b 6 1 = nI p ∧ b 6 2 = nI w ∧ b 6 3 = nI f ∧ b 6 4 = nI t) ∧ e ≤ 99 ∧ p ≤ 20 ∧ 1 ≤ w ∧ w ≤ 99 ∧ f ≤ 99 ∧ t ≤ 1
/-- what was paid on all bills -/
def pS (b : Nat → Nat → Int32) : Nat := nS (fun j => (b (j + 7) 8).toNatClampNeg) 40 0
def KI (b : Nat → Nat → Int32) (n d : Nat) : Prop :=
  (n ≤ 40 ∧ d ≤ 9999 ∧ b 0 5 = nI d) ∧ (∃ y : Nat, y * 100 ≤ d ∧ b 0 6 = nI y ∧ ∀ k, k < y → ∃ v : Nat, v < 2 ^ 31 ∧ b 4 k = nI v) ∧ SE b ∧
  (∀ c, c < 8 → ∃ v : Nat, v ≤ 999999 ∧ b 2 c = nI v) ∧ (∀ y, y < 100 → ∃ v : Nat, v ≤ pS b ∧ b 3 y = nI v) ∧
  (∀ j, j < n → BI (b (j + 7)) d) ∧ ∀ j, n ≤ j → j < 40 → EB (b (j + 7))
theorem BI_c {x x' : Nat → Int32} {d d' : Nat} (h : BI x d) (he : ∀ k, k < 14 → x' k = x k) (hd : d ≤ d') : BI x' d' := by
  obtain ⟨st, cu, ne, tx, ra, wr, du, pd, dc, fe, rm, lt, lp, ⟨h0, h1, h2, h3, h4, h5, h6, h7, h8, h9, h10, h11, h12, h13⟩, ⟨g0, g1, g2, g3, g4, g5, g6, g7, g8, g9, g10, g11⟩, k1, k2, k3, k4⟩ := h
  refine ⟨st, cu, ne, tx, ra, wr, du, pd, dc, fe, rm, lt, lp, ⟨?_, ?_, ?_, ?_, ?_, ?_, ?_, ?_, ?_, ?_, ?_, ?_, ?_, ?_⟩, ⟨g0, g1, g2, g3, g4, g5, by omega, g7, g8, by omega, by omega, g11⟩, k1, k2, k3, k4⟩
  · rw [he 0 (by decide)]; exact h0
  · rw [he 1 (by decide)]; exact h1
  · rw [he 2 (by decide)]; exact h2
  · rw [he 3 (by decide)]; exact h3
  · rw [he 4 (by decide)]; exact h4
  · rw [he 5 (by decide)]; exact h5
  · rw [he 6 (by decide)]; exact h6
  · rw [he 7 (by decide)]; exact h7
  · rw [he 8 (by decide)]; exact h8
  · rw [he 9 (by decide)]; exact h9
  · rw [he 10 (by decide)]; exact h10
  · rw [he 11 (by decide)]; exact h11
  · rw [he 12 (by decide)]; exact h12
  · rw [he 13 (by decide)]; exact h13
theorem EB_c {x x' : Nat → Int32} (h : EB x) (he : ∀ k, k < 14 → x' k = x k) : EB x' := by
  obtain ⟨h0, h1, h2⟩ := h
  exact ⟨(he 0 (by decide)).trans h0, fun k g1 g2 => (he k (by omega)).trans (h1 k g1 g2), (he 13 (by decide)).trans h2⟩
theorem pS_c {b b' : Nat → Nat → Int32} (h : ∀ j, j < 40 → b' (j + 7) 8 = b (j + 7) 8) : pS b' = pS b := nS_c 40 0 (fun i _ hi => by rw [h i (by omega)])
theorem SE_c {b b' : Nat → Nat → Int32} (h : SE b) (he : ∀ k, k < 5 → b' 6 k = b 6 k) : SE b' := by
  obtain ⟨e, p, w, f, t, ⟨q1, q2, q3, q4, q5⟩, r⟩ := h
  exact ⟨e, p, w, f, t, ⟨(he 0 (by decide)).trans q1, (he 1 (by decide)).trans q2, (he 2 (by decide)).trans q3, (he 3 (by decide)).trans q4, (he 4 (by decide)).trans q5⟩, r⟩
theorem cpE.rf {b : Nat → Nat → Int32} : cpE b b := ⟨fun _ _ _ => rfl, fun _ _ => rfl, fun _ _ => rfl, fun _ _ => rfl, fun _ _ => rfl, fun _ _ _ _ => rfl⟩
theorem cpE.sy {b b1 : Nat → Nat → Int32} (h : cpE b b1) : cpE b1 b := by
  obtain ⟨c0, c2, c3, c4, c6, cj⟩ := h
  exact ⟨fun k g1 g2 => (c0 k g1 g2).symm, fun k hk => (c2 k hk).symm, fun k hk => (c3 k hk).symm, fun k hk => (c4 k hk).symm, fun k hk => (c6 k hk).symm, fun j hj k hk => (cj j hj k hk).symm⟩
theorem cpE.tr {b b1 b2 : Nat → Nat → Int32} (h : cpE b b1) (h' : cpE b1 b2) : cpE b b2 := by
  obtain ⟨c0, c2, c3, c4, c6, cj⟩ := h
  obtain ⟨e0, e2, e3, e4, e6, ej⟩ := h'
  exact ⟨fun k g1 g2 => (c0 k g1 g2).trans (e0 k g1 g2), fun k hk => (c2 k hk).trans (e2 k hk), fun k hk => (c3 k hk).trans (e3 k hk), fun k hk => (c4 k hk).trans (e4 k hk), fun k hk => (c6 k hk).trans (e6 k hk), fun j hj k hk => (cj j hj k hk).trans (ej j hj k hk)⟩
theorem KI_cp {b b1 : Nat → Nat → Int32} {n d : Nat} (h : KI b1 n d) (hc : cpE b b1) : KI b n d := by
  obtain ⟨c0, c2, c3, c4, c6, cj⟩ := hc
  obtain ⟨⟨a1, a2, a3⟩, ⟨y, a4, a5, a6⟩, a7, a8, a9, a10, a11⟩ := h
  have hp : pS b = pS b1 := pS_c (fun j hj => cj j hj 8 (by decide))
  refine ⟨⟨a1, a2, (c0 5 (by decide) (by decide)).trans a3⟩, ⟨y, a4, (c0 6 (by decide) (by decide)).trans a5, fun k hk => ?_⟩, SE_c a7 c6, fun c hc => ?_, fun q hq => ?_, fun j hj => BI_c (a10 j hj) (fun k hk => cj j (by omega) k hk) (Nat.le_refl d), fun j g1 g2 => EB_c (a11 j g1 g2) (fun k hk => cj j g2 k hk)⟩
  · obtain ⟨v, hv, e⟩ := a6 k hk
    exact ⟨v, hv, (c4 k (by omega)).trans e⟩
  · obtain ⟨v, hv, e⟩ := a8 c hc
    exact ⟨v, hv, (c2 c hc).trans e⟩
  · obtain ⟨v, hv, e⟩ := a9 q hq
    exact ⟨v, by rw [hp]; exact hv, (c3 q hq).trans e⟩
theorem BN_o {x : Nat → Int32} {d st cu ne tx ra wr du pd dc fe rm lt lp : Nat} (h : BN x d st cu ne tx ra wr du pd dc fe rm lt lp) : ((x 5 + x 10) - x 8) - x 9 = nI (ne + tx + fe - pd - dc) := by
  obtain ⟨⟨h0, h1, h2, h3, h4, h5, h6, h7, h8, h9, h10, h11, h12, h13⟩, ⟨g0, g1, g2, g3, g4, g5, g6, g7, g8, g9, g10, g11⟩, k1, k2, k3, k4⟩ := h
  rw [h5, h10, h8, h9, nI_add, pk_sub (by omega), pk_sub (by omega)]
section RB
variable {b : Nat → Nat → Int32} {n d j : Nat}
theorem KI_pS (h : KI b n d) : pS b ≤ 40 * 20000 := by
  refine nS_le 40 0 (fun i _ hi => ?_)
  by_cases g : i < n
  · obtain ⟨st, cu, ne, tx, ra, wr, du, pd, dc, fe, rm, lt, lp, ⟨h0, h1, h2, h3, h4, h5, h6, h7, h8, h9, h10, h11, h12, h13⟩, ⟨g0, g1, g2, g3, g4, g5, g6, g7, g8, g9, g10, g11⟩, k1, k2, k3, k4⟩ := h.2.2.2.2.2.1 i g
    show (b (i + 7) 8).toNatClampNeg ≤ 20000
    rw [h8, nI_clamp (by omega)]
    omega
  · have e := (h.2.2.2.2.2.2 i (by omega) (by omega)).2.1 8 (by decide) (by decide)
    show (b (i + 7) 8).toNatClampNeg ≤ 20000
    rw [e]
    decide
theorem is_iff (p1 p2 : Int32) : v_X0_is b j p1 p2 = 0 ↔ (b (j + 7) 0 = (-1 : Int32) ∨ ¬ (p1 = (-9 : Int32) ∨ p1 = b (j + 7) 1) ∨ ¬ (p2 = (-9 : Int32) ∨ p2 = b (j + 7) 0)) := by
  unfold v_X0_is
  have e : ¬ (1 : Int32) = 0 := by decide
  by_cases c1 : b (j + 7) 0 = (-1 : Int32)
  · rw [if_pos c1]; exact ⟨fun _ => Or.inl c1, fun _ => rfl⟩
  rw [if_neg c1]
  by_cases c2 : p1 = (-9 : Int32)
  · rw [if_pos c2]
    by_cases c3 : p2 = (-9 : Int32)
    · rw [if_pos c3]; exact ⟨fun z => absurd z e, fun z => absurd (z.resolve_left c1) (fun z => z.elim (fun z => z (Or.inl c2)) (fun z => z (Or.inl c3)))⟩
    · rw [if_neg c3]
      by_cases c4 : p2 = b (j + 7) 0
      · rw [if_pos c4]; exact ⟨fun z => absurd z e, fun z => absurd (z.resolve_left c1) (fun z => z.elim (fun z => z (Or.inl c2)) (fun z => z (Or.inr c4)))⟩
      · rw [if_neg c4]; exact ⟨fun _ => Or.inr (Or.inr (fun z => z.elim c3 c4)), fun _ => rfl⟩
  · rw [if_neg c2]
    by_cases c5 : p1 = b (j + 7) 1
    · rw [if_pos c5]
      by_cases c3 : p2 = (-9 : Int32)
      · rw [if_pos c3]; exact ⟨fun z => absurd z e, fun z => absurd (z.resolve_left c1) (fun z => z.elim (fun z => z (Or.inr c5)) (fun z => z (Or.inl c3)))⟩
      · rw [if_neg c3]
        by_cases c4 : p2 = b (j + 7) 0
        · rw [if_pos c4]; exact ⟨fun z => absurd z e, fun z => absurd (z.resolve_left c1) (fun z => z.elim (fun z => z (Or.inr c5)) (fun z => z (Or.inr c4)))⟩
        · rw [if_neg c4]; exact ⟨fun _ => Or.inr (Or.inr (fun z => z.elim c3 c4)), fun _ => rfl⟩
    · rw [if_neg c5]; exact ⟨fun _ => Or.inr (Or.inl (fun z => z.elim c2 c5)), fun _ => rfl⟩
theorem is_ge (h : KI b n d) (hj : n ≤ j) (hj2 : j < 40) (p1 p2 : Int32) : v_X0_is b j p1 p2 = 0 := (is_iff p1 p2).mpr (Or.inl (h.2.2.2.2.2.2 j hj hj2).1)
/-- a bill of the customer that waits for payment -/
def opn (b : Nat → Nat → Int32) (c j : Nat) : Prop := b (j + 7) 0 = (0 : Int32) ∧ b (j + 7) 1 = nI c
theorem is_op {c : Nat} (hc : c < 8) : v_X0_is b j (nI c) (0 : Int32) = 0 ↔ ¬ opn b c j := by
  rw [is_iff]
  have e9 : ¬ (0 : Int32) = (-9 : Int32) := by decide
  constructor
  · rintro (z | z | z) ⟨q1, q2⟩
    · rw [q1] at z; exact absurd z (by decide)
    · exact z (Or.inr q2.symm)
    · exact z (Or.inr q1.symm)
  · intro z
    by_cases q1 : b (j + 7) 0 = 0
    · right; left
      rintro (q | q)
      · exact nI_m9 (by omega) q
      · exact z ⟨q1, q.symm⟩
    · right; right
      rintro (q | q)
      · exact e9 q
      · exact q1 q.symm
theorem cB_l (p1 p2 : Int32) : v_X1_countBills b p1 p2 = lS (fun i => if v_X0_is b i p1 p2 = 0 then 0 else 1) 40 0 := by
  unfold v_X1_countBills
  rw [acc_lS (f := fun i => if v_X0_is b i p1 p2 = 0 then 0 else 1) (L := v_X1_countBills_loop b p1 p2) (fun _ _ => rfl) (fun n k x => by show (if _ then _ else _) = _; split <;> rfl), Int32.zero_add]
theorem oO_l (p1 p2 : Int32) : v_X1_owedOn b p1 p2 = lS (fun i => if v_X0_is b i p1 p2 = 0 then 0 else v_X0_owed b i) 40 0 := by
  unfold v_X1_owedOn
  rw [acc_lS (f := fun i => if v_X0_is b i p1 p2 = 0 then 0 else v_X0_owed b i) (L := v_X1_owedOn_loop b p1 p2) (fun _ _ => rfl) (fun n k x => by show (if _ then _ else _) = _; split <;> rfl), Int32.zero_add]
theorem lP_l (p1 : Int32) : v_X1_leastToPayAll b p1 = lS (fun i => if v_X0_is b i p1 (0 : Int32) = 0 then 0 else v_X0_owed b i - v_X1_discountOn b i) 40 0 := by
  unfold v_X1_leastToPayAll
  rw [acc_lS (f := fun i => if v_X0_is b i p1 (0 : Int32) = 0 then 0 else v_X0_owed b i - v_X1_discountOn b i) (L := v_X1_leastToPayAll_loop b p1) (fun _ _ => rfl) (fun n k x => by show (if _ then _ else _) = _; split <;> rfl), Int32.zero_add]
theorem pO_l (p1 : Int32) : v_X1_paidOn b p1 = lS (fun i => if v_X0_is b i p1 (-9 : Int32) = 0 then 0 else b (i + 7) 8) 40 0 := by
  unfold v_X1_paidOn
  rw [acc_lS (f := fun i => if v_X0_is b i p1 (-9 : Int32) = 0 then 0 else b (i + 7) 8) (L := v_X1_paidOn_loop b p1) (fun _ _ => rfl) (fun n k x => by show (if _ then _ else _) = _; split <;> rfl), Int32.zero_add]
theorem aD_l : v_X1_allDiscounts b = lS (fun i => b (i + 7) 9) 40 0 := by
  unfold v_X1_allDiscounts
  rw [acc_lS (f := fun i => b (i + 7) 9) (L := v_X1_allDiscounts_loop b) (fun _ _ => rfl) (fun n k x => rfl), Int32.zero_add]
theorem aF_l : v_X1_allFees b = lS (fun i => b (i + 7) 10) 40 0 := by
  unfold v_X1_allFees
  rw [acc_lS (f := fun i => b (i + 7) 10) (L := v_X1_allFees_loop b) (fun _ _ => rfl) (fun n k x => rfl), Int32.zero_add]
theorem aR_l : v_X1_allReminders b = lS (fun i => b (i + 7) 11) 40 0 := by
  unfold v_X1_allReminders
  rw [acc_lS (f := fun i => b (i + 7) 11) (L := v_X1_allReminders_loop b) (fun _ _ => rfl) (fun n k x => rfl), Int32.zero_add]
theorem tO_l (p1 p2 : Int32) : ∀ m k x, v_X1_taxOf_loop b p1 p2 m k x = x + lS (fun i => if v_X0_is b i (-9) (-9) = 0 then 0 else if (b (i + 7) 6) / (100 : Int32) = p1 then b (i + 7) 4 else 0) m k := by
  refine acc_lS (fun _ _ => rfl) (fun m k x => ?_)
  show (if _ then _ else if _ then _ else _) = _
  split
  · rw [Int32.add_zero]
  · split
    · rfl
    · rw [Int32.add_zero]
/-- a written bill is one of all -/
theorem is_all (h : KI b n d) (hj : j < n) : ¬ v_X0_is b j (-9 : Int32) (-9 : Int32) = 0 := by
  rw [is_iff]
  obtain ⟨st, cu, ne, tx, ra, wr, du, pd, dc, fe, rm, lt, lp, ⟨h0, h1, h2, h3, h4, h5, h6, h7, h8, h9, h10, h11, h12, h13⟩, ⟨g0, g1, g2, g3, g4, g5, g6, g7, g8, g9, g10, g11⟩, k1, k2, k3, k4⟩ := h.2.2.2.2.2.1 j hj
  rintro (z | z | z)
  · rw [h0] at z; exact nI_nm (by omega) (by decide) z
  · exact z (Or.inl rfl)
  · exact z (Or.inl rfl)
theorem cB_all (h : KI b n d) : v_X1_countBills b (-9 : Int32) (-9 : Int32) = nI n := by
  have hn : n ≤ 40 := h.1.1
  rw [cB_l, lS_cut hn (fun i h1 h2 => by rw [is_ge h h1 h2, if_pos rfl]), ← lS_1 n 0]
  exact lS_c n 0 (fun i _ hi => if_neg (is_all h (by omega)))
/-- what is owed on a bill, and the discount now -/
def oN (b : Nat → Nat → Int32) (j : Nat) : Nat := (v_X0_owed b j).toNatClampNeg
def dN (b : Nat → Nat → Int32) (j : Nat) : Nat := (v_X1_discountOn b j).toNatClampNeg
theorem ow_e (h : KI b n d) (hj : j < n) : v_X0_owed b j = nI (oN b j) ∧ oN b j ≤ 15000 ∧ (b (j + 7) 0 = (1 : Int32) ↔ oN b j = 0) := by
  obtain ⟨st, cu, ne, tx, ra, wr, du, pd, dc, fe, rm, lt, lp, hN⟩ := h.2.2.2.2.2.1 j hj
  have e : v_X0_owed b j = nI (ne + tx + fe - pd - dc) := BN_o hN
  obtain ⟨⟨h0, h1, h2, h3, h4, h5, h6, h7, h8, h9, h10, h11, h12, h13⟩, ⟨g0, g1, g2, g3, g4, g5, g6, g7, g8, g9, g10, g11⟩, k1, k2, k3, k4⟩ := hN
  have e2 : oN b j = ne + tx + fe - pd - dc := by unfold oN; rw [e, nI_clamp (by omega)]
  refine ⟨by rw [e2]; exact e, by omega, ?_⟩
  rw [h0, i1, nI_eq (by omega) (by decide), e2]
  omega
theorem di_e (h : KI b n d) (hj : j < n) (ho : 0 < oN b j) : v_X1_discountOn b j = nI (dN b j) ∧ dN b j < oN b j := by
  obtain ⟨o1, o2, -⟩ := ow_e h hj
  obtain ⟨st, cu, ne, tx, ra, wr, du, pd, dc, fe, rm, lt, lp, ⟨h0, h1, h2, h3, h4, h5, h6, h7, h8, h9, h10, h11, h12, h13⟩, ⟨g0, g1, g2, g3, g4, g5, g6, g7, g8, g9, g10, g11⟩, k1, k2, k3, k4⟩ := h.2.2.2.2.2.1 j hj
  obtain ⟨e, p, w, f, t, ⟨q1, q2, q3, q4, q5⟩, r1, r2, r3, r4, r5, r6⟩ := h.2.2.1
  have key : ∃ D : Nat, D < oN b j ∧ v_X1_discountOn b j = nI D := by
    unfold v_X1_discountOn v_X3_discountDays v_X3_discountPercent
    split
    · exact ⟨0, ho, rfl⟩
    split
    · have hm : (ne + tx) * p ≤ 13999 * 20 := Nat.mul_le_mul (by omega) (by omega)
      have eP : (b (j + 7) 5 * b 6 1) / (100 : Int32) = nI ((ne + tx) * p / 100) := by
        rw [h5, q2, pk_mul, i100, pk_div (by omega) (by decide) (by decide)]
      rw [eP, o1]
      split
      · exact ⟨oN b j - 1, by omega, by rw [i1, pk_sub (by omega)]⟩
      · rename_i c
        refine ⟨(ne + tx) * p / 100, Nat.not_le.mp (fun z => c ?_), rfl⟩
        exact (nI_m1lt (by omega) (by omega)).mpr z
    · exact ⟨0, ho, rfl⟩
  obtain ⟨D, hD, eD⟩ := key
  have e2 : dN b j = D := by unfold dN; rw [eD, nI_clamp (by omega)]
  rw [e2]
  exact ⟨eD, hD⟩
theorem op_lt (h : KI b n d) {c : Nat} (hj : j < 40) (ho : opn b c j) : j < n := by
  by_cases g : j < n
  · exact g
  · have e := (h.2.2.2.2.2.2 j (by omega) hj).1
    rw [ho.1] at e
    exact absurd e (by decide)
theorem op_o (h : KI b n d) {c : Nat} (hj : j < 40) (ho : opn b c j) : 0 < oN b j := by
  obtain ⟨-, -, e⟩ := ow_e h (op_lt h hj ho)
  refine Nat.pos_of_ne_zero (fun z => ?_)
  have := e.mpr z
  rw [ho.1] at this
  exact absurd this (by decide)
end RB
