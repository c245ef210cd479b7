/-! arguments; taxes, the oldest, reminders -/
theorem le_succ {x a b : Int32} (hab : a.toInt = b.toInt + 1) : a ≤ x ↔ b < x := by
  rw [Int32.le_iff_toInt_le, Int32.lt_iff_toInt_lt]
  omega
theorem cust_cs (x : Int32) : (v_X5_isCustomer x = 0 ∧ v_X6_isCustomer x = 0) ∨ ∃ k : Nat, k < 8 ∧ x = nI k ∧ ¬ v_X5_isCustomer x = 0 ∧ ¬ v_X6_isCustomer x = 0 ∧ x.toNatClampNeg = k := by
  unfold v_X5_isCustomer v_X6_isCustomer v_X6_in
  rcases pk_ix x (n := 8) (by decide) with h | h | ⟨k, hk, rfl⟩
  · left; rw [if_pos h, if_pos h]; exact ⟨rfl, rfl⟩
  · left
    have h2 : (7 : Int32) < x := (le_succ (a := 8) (by decide)).mp h
    have h0 : ¬ x < 0 := fun z => absurd (Int32.lt_trans h2 z) (by decide)
    rw [if_neg h0, if_neg h0, if_pos (show (8 : Int32) ≤ x from h), if_pos h2]; exact ⟨rfl, rfl⟩
  · right
    have h2 : ¬ (8 : Int32) ≤ nI k := nI_ge (b := 8) hk (by decide)
    have h0 : ¬ nI k < 0 := nI_pos (by omega)
    have h3 : ¬ (7 : Int32) < nI k := fun z => h2 ((le_succ (a := 8) (by decide)).mpr z)
    rw [if_neg h0, if_neg h0, if_neg h2, if_neg h3]
    exact ⟨k, hk, rfl, by decide, by decide, nI_clamp (by omega)⟩
theorem year_cs (x : Int32) : (v_X5_isYear x = 0 ∧ v_X6_isYear x = 0) ∨ ∃ k : Nat, k < 100 ∧ x = nI k ∧ ¬ v_X5_isYear x = 0 ∧ ¬ v_X6_isYear x = 0 ∧ x.toNatClampNeg = k := by
  unfold v_X5_isYear v_X6_isYear v_X6_in
  rcases pk_ix x (n := 100) (by decide) with h | h | ⟨k, hk, rfl⟩
  · left; rw [if_pos h, if_pos h]; exact ⟨rfl, rfl⟩
  · left
    have h2 : (99 : Int32) < x := (le_succ (a := 100) (by decide)).mp h
    have h0 : ¬ x < 0 := fun z => absurd (Int32.lt_trans h2 z) (by decide)
    rw [if_neg h0, if_neg h0, if_pos (show (100 : Int32) ≤ x from h), if_pos h2]; exact ⟨rfl, rfl⟩
  · right
    have h2 : ¬ (100 : Int32) ≤ nI k := nI_ge (b := 100) hk (by decide)
    have h0 : ¬ nI k < 0 := nI_pos (by omega)
    have h3 : ¬ (99 : Int32) < nI k := fun z => h2 ((le_succ (a := 100) (by decide)).mpr z)
    rw [if_neg h0, if_neg h0, if_neg h2, if_neg h3]
    exact ⟨k, hk, rfl, by decide, by decide, nI_clamp (by omega)⟩
theorem amt_cs (x : Int32) : (v_X5_isAmount x = 0 ∧ v_X6_isAmount x = 0) ∨ ∃ L : Nat, 1 ≤ L ∧ L ≤ 99999 ∧ x = nI L ∧ ¬ v_X5_isAmount x = 0 ∧ ¬ v_X6_isAmount x = 0 := by
  have e : v_X6_isAmount x = v_X5_isAmount x := rfl
  rw [e]
  by_cases h : v_X5_isAmount x = 0
  · exact Or.inl ⟨h, h⟩
  · right
    have h1 : ¬ x < (1 : Int32) := fun z => h (by unfold v_X5_isAmount; rw [if_pos z])
    have h2 : ¬ (99999 : Int32) < x := fun z => h (by unfold v_X5_isAmount; rw [if_neg h1, if_pos z])
    have h0 : ¬ x < 0 := fun z => h1 (Int32.lt_trans z (by decide))
    obtain ⟨j, hj, rfl⟩ := nI_of2 (M := 99999) (n := 99999) (by decide) h0 (Int32.not_lt.mp h2)
    refine ⟨j, ?_, hj, rfl, h, h⟩
    rcases Nat.eq_zero_or_pos j with e | e
    · exact absurd (by rw [e]; decide) h1
    · exact e
theorem sub1_of {n : Nat} (hn : n ≤ 40) : (nI n - (1 : Int32)).toInt = (n : Int) - 1 := by
  rw [i1, pk_sub_toInt (by omega) (by decide)]; rfl
section RE
variable {b : Nat → Nat → Int32} {u : Nat → Nat → Int32} {n d : Nat}
theorem billAt_cs (h : BR0 b (u 1) n d) (x : Int32) : (v_X1_billAt b x = none ∧ v_X6_isBill u x = 0) ∨ ∃ k : Nat, k < n ∧ x = nI k ∧ v_X1_billAt b x = some k ∧ ¬ v_X6_isBill u x = 0 ∧ x.toNatClampNeg = k := by
  have hn : n ≤ 40 := h.1.1.2
  have e6 : u 1 6 = nI n := h.1.1.1
  have hs := sub1_of hn
  unfold v_X1_billAt v_X6_isBill v_X6_in
  rw [e6]
  rcases pk_ix x (n := 40) (by decide) with h1 | h1 | ⟨k, hk, rfl⟩
  · left; rw [if_pos h1, if_pos h1]; exact ⟨rfl, rfl⟩
  · left
    have h2 := Int32.le_iff_toInt_le.mp h1
    rw [nI_toInt (by decide)] at h2
    have h0 : ¬ x < 0 := fun z => by
      have := Int32.lt_iff_toInt_lt.mp z
      rw [show (0 : Int32).toInt = 0 by decide] at this
      omega
    rw [if_neg h0, if_pos (show (40 : Int32) ≤ x from h1), if_neg h0, if_pos (Int32.lt_iff_toInt_lt.mpr (by omega))]
    exact ⟨rfl, rfl⟩
  · have h0 : ¬ nI k < 0 := nI_pos (by omega)
    have hk2 := nI_toInt (n := k) (by omega)
    have ec : (nI k).toNatClampNeg = k := nI_clamp (by omega)
    rw [if_neg h0, if_neg (show ¬ (40 : Int32) ≤ nI k from nI_ge (b := 40) hk (by decide)), if_neg h0, ec]
    by_cases c : k < n
    · right
      obtain ⟨q, hq, eq⟩ := st_ok h c
      have x0 : b (k + 7) 0 = u 1 (233 + 12 * k + 5) := (h.2.1 k c).1.1
      rw [x0, if_neg (show ¬ u 1 (233 + 12 * k + 5) = (-1 : Int32) by rw [eq]; exact nI_nm (by omega) (by decide)), if_neg (fun z => by
        have := Int32.lt_iff_toInt_lt.mp z
        omega)]
      exact ⟨k, c, rfl, rfl, by decide, rfl⟩
    · left
      rw [if_pos (h.2.2 k (by omega) hk).1, if_pos (Int32.lt_iff_toInt_lt.mpr (by omega))]
      exact ⟨rfl, rfl⟩
theorem tx_lt (h : BR0 b (u 1) n d) {j : Nat} (hj : j < n) : b (j + 7) 4 = v_X6_taxOf u j := (h.2.1 j hj).1.2.2.2.2.1
theorem tO_l (p1 p2 : Int32) : ∀ m k x, v_X1_taxOf_loop b p1 p2 m k x = x + lS (fun i => if v_X0_is b i (-9) (-9) = 0 then 0 else if (b (i + 7) 6) / (100 : Int32) = p1 then b (i + 7) 4 else 0) m k := by
  refine acc_lS (fun _ _ => rfl) (fun m k x => ?_)
  show (if _ then _ else if _ then _ else _) = _
  split
  · rw [Int32.add_zero]
  · split
    · rfl
    · rw [Int32.add_zero]
theorem dF_l (y : Nat) (p2 : Int32) : ∀ m k x, v_X6_dueFor_loop u y p2 m k x = if p2 = 0 then x + lS (fun i => if (u 1 (233 + 12 * i + 3)) / (100 : Int32) = nI y then v_X6_taxOf u i else 0) m k else u 1 (25 + y) := by
  intro m
  induction m with
  | zero => intro k x; show (if p2 = 0 then x else _) = (if p2 = 0 then x + 0 else _); rw [Int32.add_zero]
  | succ m ih =>
    intro k x
    show (if _ then _ else _) = (if p2 = 0 then x + ((if (u 1 (233 + 12 * k + 3)) / (100 : Int32) = nI y then v_X6_taxOf u k else 0) + lS _ m (k + 1)) else _)
    by_cases hc : (u 1 (233 + 12 * k + 3)) / (100 : Int32) = nI y
    · rw [if_pos hc, if_pos hc, ih, Int32.add_assoc]
    · rw [if_neg hc, if_neg hc, ih, Int32.add_assoc]
theorem tO_eq (h : BR0 b (u 1) n d) {y : Nat} (hy : y < 100) {p2 : Int32} (hp : p2 = 0 ∨ p2 = (1 : Int32)) : v_X1_taxOf b (nI y) p2 = v_X6_dueFor u y p2 := by
  have hn : n ≤ 40 := h.1.1.2
  unfold v_X1_taxOf v_X6_dueFor
  rw [dF_l, BR_nb h]
  rcases hp with rfl | rfl
  · rw [if_neg (by decide), if_pos rfl, tO_l, Int32.zero_add, Int32.zero_add, lS_cut hn (fun i h1 h2 => by rw [is_ge h h1 h2, if_pos rfl])]
    refine lS_c n 0 (fun i _ h2 => ?_)
    have h2 : i < n := by omega
    have x6 : b (i + 7) 6 = u 1 (233 + 12 * i + 3) := (h.2.1 i h2).1.2.2.2.2.2.2.1
    have e : v_X0_is b i (-9) (-9) = 1 := by
      rw [is_lt h h2]
      unfold mI
      rw [if_pos (Or.inl rfl), if_pos (Or.inl rfl)]
    rw [e, if_neg (by decide), x6, tx_lt h h2]
  · rw [if_pos rfl, if_neg (isYear1 hy), nI_clamp (by omega), if_neg (show ¬ (1 : Int32) = 0 by decide)]
    exact h.1.2.2.2.2.2.2.2.1 y hy
/-- the first open one -/
def fst1 (u : Nat → Nat → Int32) (p : Int32) : Nat → Nat → Int32 → Int32
  | 0, _, x => x
  | m + 1, k, x => if v_X6_isOpenOf u k p = 0 then fst1 u p m (k + 1) x else nI k
theorem fst1_l {p : Int32} : ∀ (m k : Nat) (x : Int32), fst1 u p (m + 1) k x = fst1 u p m k (if v_X6_isOpenOf u (k + m) p = 0 then x else nI (k + m)) := by
  intro m
  induction m with
  | zero => intro k x; rfl
  | succ m ih =>
    intro k x
    show (if v_X6_isOpenOf u k p = 0 then fst1 u p (m + 1) (k + 1) x else nI k) = (if v_X6_isOpenOf u k p = 0 then fst1 u p m (k + 1) _ else nI k)
    rw [ih, show k + 1 + m = k + (m + 1) by omega]
theorem oo_m {p : Int32} : ∀ (m : Nat) (x : Int32), v_X6_oldestOpen_loop u p m x = fst1 u p m 0 x := by
  intro m
  induction m with
  | zero => intro x; rfl
  | succ m ih =>
    intro x
    rw [fst1_l, Nat.zero_add]
    show (if _ then _ else _) = _
    split
    · exact ih _
    · exact ih _
theorem op_lt (h : BR0 b (u 1) n d) {j k : Nat} (hj : j < n) (hk : k < 1000) : v_X0_is b j (nI k) 0 = 0 ↔ v_X6_isOpenOf u j (nI k) = 0 := by
  rw [is_lt h hj, mI_sw (sw_n hk) (show sw 0 0 from sw_n (k := 0) (by decide))]
  unfold mI v_X6_isOpenOf v_X6_is
  have h5 : ¬ nI k = (-5 : Int32) := nI_nm hk (by decide)
  have h6 : ¬ (0 : Int32) = (-5 : Int32) := by decide
  simp only [h5, h6, false_or]
  grind
theorem oo_c (h : BR0 b (u 1) n d) {c : Nat} (hc : c < 1000) : ∀ (m k : Nat), k + m = 40 → v_X1_oldestOpenBill_loop b (nI c) m k = fst1 u (nI c) (n - k) k (-5 : Int32) := by
  have hn : n ≤ 40 := h.1.1.2
  intro m
  induction m with
  | zero => intro k hk; rw [show n - k = 0 by omega]; rfl
  | succ m ih =>
    intro k hk
    show (if v_X0_is b k (nI c) 0 = 0 then v_X1_oldestOpenBill_loop b (nI c) m (k + 1) else nI k) = _
    by_cases e : k < n
    · rw [show n - k = (n - (k + 1)) + 1 by omega]
      show _ = (if v_X6_isOpenOf u k (nI c) = 0 then fst1 u (nI c) (n - (k + 1)) (k + 1) (-5 : Int32) else nI k)
      by_cases g : v_X0_is b k (nI c) 0 = 0
      · rw [if_pos g, if_pos ((op_lt h e hc).mp g), ih (k + 1) (by omega)]
      · rw [if_neg g, if_neg (fun z => g ((op_lt h e hc).mpr z))]
    · rw [if_pos (is_ge h (by omega) (by omega) _ _), ih (k + 1) (by omega), show n - (k + 1) = 0 by omega, show n - k = 0 by omega]
      rfl
theorem oo_eq (h : BR0 b (u 1) n d) {c : Nat} (hc : c < 1000) : v_X1_oldestOpenBill b (nI c) = v_X6_oldestOpen u (nI c) := by
  unfold v_X1_oldestOpenBill v_X6_oldestOpen
  rw [oo_c h hc 40 0 rfl, oo_m, BR_nb h]
  rfl
theorem se_eq (h : BR0 b (u 1) n d) {c : Nat} (hc : c < 8) (hv : ¬ v_X6_isCustomer (nI c) = 0) : v_X1_leastToPayAll b (nI c) = v_X6_settles u (nI c) := by
  have hn : n ≤ 40 := h.1.1.2
  unfold v_X1_leastToPayAll v_X6_settles
  rw [if_neg hv, acc_lS (f := fun i => if v_X0_is b i (nI c) 0 = 0 then 0 else v_X0_owed b i - v_X1_discountOn b i) (L := v_X1_leastToPayAll_loop b (nI c)) (fun _ _ => rfl) (fun n k x => by show (if _ then _ else _) = _; split <;> rfl), acc_lS (f := fun i => if v_X6_isOpenOf u i (nI c) = 0 then 0 else v_X6_owedOn u i - v_X6_discountOf u i) (L := v_X6_settles_loop u (nI c)) (fun _ _ => rfl) (fun n k x => by show (if _ then _ else _) = _; split <;> rfl), BR_nb h, lS_cut hn (fun i h1 h2 => by rw [is_ge h h1 h2, if_pos rfl])]
  congr 1
  refine lS_c n 0 (fun i _ h2 => ?_)
  have h2 : i < n := by omega
  rw [BR_owed h h2, BR_disc h h2]
  by_cases g : v_X0_is b i (nI c) 0 = 0
  · rw [if_pos g, if_pos ((op_lt h h2 (by omega)).mp g)]
  · rw [if_neg g, if_neg (fun z => g ((op_lt h h2 (by omega)).mpr z))]
theorem wl_eq {z : CS} (h : BR0 (z.2 (z.1 0)) (u 1) n d) : ∀ (m k : Nat) (x1 x2 : Int32), k + m = 8 → v_X5_worst_loop z m k x1 x2 = v_X6_worst_loop u m k x1 x2 := by
  intro m
  induction m with
  | zero => intro k x1 x2 hk; rfl
  | succ m ih =>
    intro k x1 x2 hk
    have e : v_X1_owedOn (z.2 (z.1 0)) (nI k) (0 : Int32) = v_X6_owedBy u (nI k) (0 : Int32) := oO_eq h (sw_n (by omega)) (sw_n (k := 0) (by decide))
    show (if _ then _ else _) = (if _ then _ else _)
    rw [e]
    split
    · exact ih _ _ _ (by omega)
    · exact ih _ _ _ (by omega)
theorem le_sub {a c w : Nat} (ha : a < 2 ^ 29) (hc : c < 2 ^ 29) (hw : w < 2 ^ 29) : nI a + nI w ≤ nI c ↔ nI w ≤ nI c - nI a := by
  rw [nI_add, Int32.le_iff_toInt_le, Int32.le_iff_toInt_le, nI_toInt (by omega), nI_toInt (by omega), nI_toInt (by omega), pk_sub_toInt (by omega) (by omega)]
  omega
theorem cf_N (h : BR0 b (u 1) n d) {j : Nat} (hj : j < n) : ∃ a w : Nat, a ≤ 10098 ∧ 1 ≤ w ∧ w ≤ 99 ∧ v_X6_countedFrom u j = nI a ∧ u 1 3 = nI w ∧ b 6 2 = u 1 3 ∧ v_X0_reminderDay b j (b 6 2) = nI a + nI w := by
  obtain ⟨⟨x0, x1, x2, x3, x4, x5, x6, x7, x8, x9, x10, x11, x12, x13⟩, cu, ne, ra, wr, du, st, pd, dc, fe, rm, lt, hN⟩ := h.2.1 j hj
  obtain ⟨⟨h0, h1, h2, h3, h4, h5, h6, h7, h8, h9, h10⟩, ⟨g0, g1, g2, g3, g4, g5, g6, g7, g8, g9, g10⟩, k1, k2⟩ := hN
  obtain ⟨a1, ⟨a2, a3, a4⟩, a5, a6, a7, ⟨e, p, w, f, t, ⟨q1, q2, q3, q4, q5⟩, r1, r2, r3, r4, r5, r6⟩, a9, a10, a11⟩ := h.1
  have e62 : b 6 2 = u 1 3 := a7 2 (by decide)
  have e9 : u 1 (233 + 12 * j + 9) = nI rm := h9
  have e10 : u 1 (233 + 12 * j + 10) = nI lt := h10
  have e3 : u 1 (233 + 12 * j + 3) = nI wr := h3
  have e4 : u 1 (233 + 12 * j + 4) = nI du := h4
  unfold v_X6_countedFrom v_X0_reminderDay v_X0_dueDay v_X6_dueDay
  rw [x11, h9, x6, h3, x7, h4, x12, h10, e62, q3, e9, e10, e3, e4]
  by_cases c : rm = 0
  · rw [c, if_pos nI_0, if_pos nI_0, nI_add]
    exact ⟨wr + du, w, by omega, r3, r4, rfl, rfl, rfl, rfl⟩
  · rw [if_neg (nI_ne0 (by omega) (by omega)), if_neg (nI_ne0 (by omega) (by omega))]
    exact ⟨lt, w, by omega, r3, r4, rfl, rfl, rfl, rfl⟩
theorem rm_N (h : BR0 b (u 1) n d) {j : Nat} (hj : j < n) : ∃ k : Nat, k ≤ 3 ∧ u 1 (233 + 12 * j + 9) = nI k ∧ b (j + 7) 11 = nI k := by
  obtain ⟨x, cu, ne, ra, wr, du, st, pd, dc, fe, rm, lt, hN⟩ := h.2.1 j hj
  exact ⟨rm, hN.2.1.2.2.2.2.2.2.2.1, hN.1.2.2.2.2.2.2.2.2.2.1, x.2.2.2.2.2.2.2.2.2.2.2.1.trans hN.1.2.2.2.2.2.2.2.2.2.1⟩
theorem rm3 {k : Nat} (hk : k ≤ 3) : (nI k < (3 : Int32) ↔ ¬ nI k = (3 : Int32)) ∧ ((3 : Int32) ≤ nI k ↔ nI k = (3 : Int32)) := by
  rcases (show k = 0 ∨ k = 1 ∨ k = 2 ∨ k = 3 by omega) with rfl | rfl | rfl | rfl <;> decide
theorem why_eq (h : BR0 b (u 1) n d) {j : Nat} (hj : j < n) : v_X0_whyNoReminder b j (b 0 5) (v_X3_reminderDays b) = v_X6_why u j := by
  obtain ⟨a, w, ha, hw1, hw2, ea, ew, e62, er⟩ := cf_N h hj
  obtain ⟨r, hr, er1, er2⟩ := rm_N h hj
  obtain ⟨q, hq, eq⟩ := st_ok h hj
  have x0 : b (j + 7) 0 = u 1 (233 + 12 * j + 5) := (h.2.1 j hj).1.1
  have hd9 : d ≤ 9999 := h.1.2.1.2.1
  have hday : b 0 5 = u 1 0 := h.1.2.1.2.2
  have hd0 : u 1 0 = nI d := h.1.2.1.1
  unfold v_X0_whyNoReminder v_X6_why v_X3_reminderDays
  rw [ov_lt h hj, er, ea, er1, er2, x0, hday, ew]
  unfold v_X6_daysSince
  rw [hd0]
  have hls := le_sub (a := a) (c := d) (w := w) (by omega) (by omega) (by omega)
  unfold v_X6_is
  rw [eq]
  rcases (show q = 0 ∨ q = 1 ∨ q = 2 by omega) with rfl | rfl | rfl
  · rw [if_neg (by decide), if_neg (by decide), if_pos (show nI 0 = (0 : Int32) from rfl), if_neg (show ¬ (1 : Int32) = 0 by decide)]
    split
    · rfl
    · by_cases c : nI r = (3 : Int32)
      · rw [if_pos c, if_neg (fun z => (rm3 hr).1.mp z c)]
      · rw [if_neg c, if_pos ((rm3 hr).1.mpr c)]
        by_cases c2 : nI a + nI w ≤ nI d
        · rw [if_pos c2, if_pos (hls.mp c2)]
        · rw [if_neg c2, if_neg (fun z => c2 (hls.mpr z))]
  · rfl
  · rfl
theorem off_eq (h : BR0 b (u 1) n d) {j : Nat} (hj : j < n) : v_X0_canBeWrittenOff b j (b 0 5) (v_X3_reminderDays b) = v_X6_canBeOff u j := by
  obtain ⟨a, w, ha, hw1, hw2, ea, ew, e62, er⟩ := cf_N h hj
  obtain ⟨r, hr, er1, er2⟩ := rm_N h hj
  have x0 : b (j + 7) 0 = u 1 (233 + 12 * j + 5) := (h.2.1 j hj).1.1
  have x12 : b (j + 7) 12 = u 1 (233 + 12 * j + 10) := (h.2.1 j hj).1.2.2.2.2.2.2.2.2.2.2.2.2.1
  have hday : b 0 5 = u 1 0 := h.1.2.1.2.2
  unfold v_X0_canBeWrittenOff v_X6_canBeOff v_X3_reminderDays v_X6_is v_X6_daysSince
  rw [er1, er2, x0, x12, hday, e62]
  by_cases c0 : u 1 (233 + 12 * j + 5) = 0
  · rw [if_pos c0, if_pos c0, if_neg (show ¬ (1 : Int32) = 0 by decide)]
    by_cases c : nI r = (3 : Int32)
    · rw [if_pos c, if_neg (fun z => (rm3 hr).1.mp z c)]
    · rw [if_neg c, if_pos ((rm3 hr).1.mpr c)]
  · rw [if_neg c0, if_neg c0, if_pos rfl]
end RE
