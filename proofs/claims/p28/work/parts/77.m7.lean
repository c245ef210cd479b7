/-! all that is told goes together -/
section HO
variable {z : CS} {n d j : Nat}
theorem cN_of (h : KI (z.2 (z.1 0)) n d) : cN z = n := by
  have h1 := cN_eq z
  have h2 := cN_le z
  have hn := h.1.1
  rw [ct1, cB_all h] at h1
  exact ((nI_eq (by omega) (by omega)).mp h1).symm
theorem qN_of (h : KI (z.2 (z.1 0)) n d) : qN z = d / 100 ∧ v_X5_count z (0 : Int32) / (100 : Int32) = nI (qN z) := by
  have hd9 := h.1.2.1
  have e0 : v_X5_count z (0 : Int32) = nI d := h.1.2.2
  have e : v_X5_count z (0 : Int32) / (100 : Int32) = nI (d / 100) := by rw [e0, i100, pk_div (by omega) (by decide) (by decide)]
  have e2 : qN z = d / 100 := by unfold qN; rw [e, nI_clamp (by omega)]
  exact ⟨e2, by rw [e2]; exact e⟩
theorem cu_e {c : Nat} (hc : c < 8) : v_X5_customer z (nI c) (1 : Int32) = v_X1_countBills (z.2 (z.1 0)) (nI c) (0 : Int32) ∧ v_X5_customer z (nI c) (2 : Int32) = v_X1_owedOn (z.2 (z.1 0)) (nI c) (0 : Int32) ∧ v_X5_customer z (nI c) (3 : Int32) = v_X1_creditOf (z.2 (z.1 0)) (nI c) ∧ v_X5_customer z (nI c) (6 : Int32) = v_X1_oldestOpenBill (z.2 (z.1 0)) (nI c) := by
  unfold v_X5_customer
  simp only [if_neg (cust_1 hc)]
  exact ⟨rfl, rfl, rfl, rfl⟩
/-- what a customer owes on waiting bills -/
def oO (b : Nat → Nat → Int32) (c : Nat) (m k : Nat) : Nat := nS (fun i => if v_X0_is b i (nI c) (0 : Int32) = 0 then 0 else oN b i) m k
theorem in_n {b : Nat → Nat → Int32} (h : KI b n d) {i : Nat} {p1 p2 : Int32} (hi : i < 40) (hc : ¬ v_X0_is b i p1 p2 = 0) : i < n := by
  by_cases g : i < n
  · exact g
  · exact absurd (is_ge h (by omega) hi p1 p2) hc
theorem oO_e {b : Nat → Nat → Int32} (h : KI b n d) {c : Nat} : v_X1_owedOn b (nI c) (0 : Int32) = nI (oO b c 40 0) ∧ oO b c 40 0 ≤ 40 * 15000 := by
  refine ⟨?_, nS_le 40 0 (fun i _ hi => ?_)⟩
  · rw [oO_l]
    refine lS_nI 40 0 (fun i _ hi => ?_)
    by_cases g : v_X0_is b i (nI c) (0 : Int32) = 0
    · rw [if_pos g, if_pos g]; rfl
    · rw [if_neg g, if_neg g]
      exact (ow_e h (in_n h (by omega) g)).1
  · show (if _ then _ else _) ≤ 15000
    by_cases g : v_X0_is b i (nI c) (0 : Int32) = 0
    · rw [if_pos g]; omega
    · rw [if_neg g]
      exact (ow_e h (in_n h (by omega) g)).2.1
theorem cO_e {b : Nat → Nat → Int32} {c : Nat} : v_X1_countBills b (nI c) (0 : Int32) = nI (cO b c 40 0) := by
  rw [cB_l]
  refine lS_nI 40 0 (fun i _ hi => ?_)
  by_cases g : v_X0_is b i (nI c) (0 : Int32) = 0
  · rw [if_pos g, if_pos g]; rfl
  · rw [if_neg g, if_neg g]; rfl
theorem is_opn {b : Nat → Nat → Int32} {c i : Nat} (hc : c < 8) (h : ¬ v_X0_is b i (nI c) (0 : Int32) = 0) : opn b c i := by
  by_cases z : opn b c i
  · exact z
  · exact absurd ((is_op hc).mpr z) h
theorem lO_e {b : Nat → Nat → Int32} (h : KI b n d) {c : Nat} (hc : c < 8) : v_X1_leastToPayAll b (nI c) = nI (lO b c 40 0) ∧ lO b c 40 0 ≤ oO b c 40 0 := by
  refine ⟨?_, nS_mo 40 0 (fun i _ hi => ?_)⟩
  · rw [lP_l]
    refine lS_nI 40 0 (fun i _ hi => ?_)
    by_cases g : v_X0_is b i (nI c) (0 : Int32) = 0
    · rw [if_pos g, if_pos g]; rfl
    · rw [if_neg g, if_neg g]
      have hi := in_n h (by omega) g
      obtain ⟨e1, e2⟩ := di_e h hi (op_o h (by omega) (is_opn hc g))
      rw [(ow_e h hi).1, e1, pk_sub (by omega)]
  · show (if _ then 0 else _) ≤ if _ then 0 else _
    by_cases g : v_X0_is b i (nI c) (0 : Int32) = 0
    · rw [if_pos g, if_pos g]; omega
    · rw [if_neg g, if_neg g]; omega
/-- none waits, so the least payment is 0; and the other way round -/
theorem cO_0 {b : Nat → Nat → Int32} {c : Nat} : ∀ m k, cO b c m k = 0 ↔ ∀ i, k ≤ i → i < k + m → v_X0_is b i (nI c) (0 : Int32) = 0 := by
  intro m
  induction m with
  | zero => intro k; exact ⟨fun _ i g1 g2 => absurd g2 (by omega), fun _ => rfl⟩
  | succ m ih =>
    intro k
    have e : cO b c (m + 1) k = (if v_X0_is b k (nI c) (0 : Int32) = 0 then 0 else 1) + cO b c m (k + 1) := rfl
    rw [e]
    by_cases g : v_X0_is b k (nI c) (0 : Int32) = 0
    · rw [if_pos g, Nat.zero_add, ih]
      refine ⟨fun h i g1 g2 => ?_, fun h i g1 g2 => h i (by omega) (by omega)⟩
      rcases Nat.eq_or_lt_of_le g1 with q | q
      · subst q; exact g
      · exact h i q (by omega)
    · rw [if_neg g]
      exact ⟨fun h => by omega, fun h => absurd (h k (Nat.le_refl k) (by omega)) g⟩
theorem lO_0 {b : Nat → Nat → Int32} (h : KI b n d) {c : Nat} (hc : c < 8) : ∀ m k, k + m = 40 → (lO b c m k = 0 ↔ cO b c m k = 0) := by
  intro m
  induction m with
  | zero => intro k _; exact ⟨fun _ => rfl, fun _ => rfl⟩
  | succ m ih =>
    intro k hk
    have e : cO b c (m + 1) k = (if v_X0_is b k (nI c) (0 : Int32) = 0 then 0 else 1) + cO b c m (k + 1) := rfl
    have e2 : lO b c (m + 1) k = (if v_X0_is b k (nI c) (0 : Int32) = 0 then 0 else oN b k - dN b k) + lO b c m (k + 1) := rfl
    rw [e, e2]
    by_cases g : v_X0_is b k (nI c) (0 : Int32) = 0
    · rw [if_pos g, if_pos g, Nat.zero_add, Nat.zero_add]; exact ih (k + 1) (by omega)
    · rw [if_neg g, if_neg g]
      obtain ⟨e1, e2⟩ := di_e h (in_n h (by omega) g) (op_o h (by omega) (is_opn hc g))
      exact ⟨fun q => by omega, fun q => by omega⟩
theorem old_e {b : Nat → Nat → Int32} {c : Nat} : ∀ m k, k + m ≤ 40 → (v_X1_oldestOpenBill_loop b (nI c) m k = (-5 : Int32) ↔ cO b c m k = 0) := by
  intro m
  induction m with
  | zero => intro k _; exact ⟨fun _ => rfl, fun _ => rfl⟩
  | succ m ih =>
    intro k hk
    have e : cO b c (m + 1) k = (if v_X0_is b k (nI c) (0 : Int32) = 0 then 0 else 1) + cO b c m (k + 1) := rfl
    rw [e]
    show (if v_X0_is b k (nI c) (0 : Int32) = 0 then v_X1_oldestOpenBill_loop b (nI c) m (k + 1) else nI k) = (-5 : Int32) ↔ _
    by_cases g : v_X0_is b k (nI c) (0 : Int32) = 0
    · rw [if_pos g, if_pos g, Nat.zero_add]; exact ih (k + 1) (by omega)
    · rw [if_neg g, if_neg g]
      exact ⟨fun q => absurd q (nI_nm (by omega) (by decide)), fun q => by omega⟩
/-- the customer who owes most -/
theorem wo_lp (h : KI (z.2 (z.1 0)) n d) : ∀ (m k : Nat) (x1 x2 : Int32), k + m = 8 → ((x1 = (-5 : Int32) ∧ x2 = 0 ∧ ∀ c, c < k → oO (z.2 (z.1 0)) c 40 0 = 0) ∨ (∃ w, w < 8 ∧ x1 = nI w ∧ x2 = nI (oO (z.2 (z.1 0)) w 40 0) ∧ ∀ c, c < k → oO (z.2 (z.1 0)) c 40 0 ≤ oO (z.2 (z.1 0)) w 40 0)) →
    ((v_X5_worst_loop z m k x1 x2 = (-5 : Int32) ∧ ∀ c, c < 8 → oO (z.2 (z.1 0)) c 40 0 = 0) ∨ (∃ w, w < 8 ∧ v_X5_worst_loop z m k x1 x2 = nI w ∧ ∀ c, c < 8 → oO (z.2 (z.1 0)) c 40 0 ≤ oO (z.2 (z.1 0)) w 40 0)) := by
  intro m
  induction m with
  | zero =>
    intro k x1 x2 hk hx
    have : k = 8 := by omega
    subst this
    rcases hx with ⟨h1, h2, h3⟩ | ⟨w, h1, h2, h3, h4⟩
    · exact Or.inl ⟨h1, h3⟩
    · exact Or.inr ⟨w, h1, h2, h4⟩
  | succ m ih =>
    intro k x1 x2 hk hx
    obtain ⟨e1, e2⟩ := oO_e h (c := k)
    have e : v_X5_worst_loop z (m + 1) k x1 x2 = if v_X1_owedOn (z.2 (z.1 0)) (nI k) (0 : Int32) ≤ x2 then (v_X5_worst_loop z m (k + 1) x1 x2) else v_X5_worst_loop z m (k + 1) (nI k) (v_X1_owedOn (z.2 (z.1 0)) (nI k) (0 : Int32)) := rfl
    rw [e, e1]
    rcases hx with ⟨h1, h2, h3⟩ | ⟨w, h1, h2, h3, h4⟩
    · subst h2
      by_cases g : oO (z.2 (z.1 0)) k 40 0 = 0
      · rw [if_pos (show nI (oO (z.2 (z.1 0)) k 40 0) ≤ (0 : Int32) by rw [g]; decide)]
        refine ih (k + 1) x1 0 (by omega) (Or.inl ⟨h1, rfl, fun c hc => ?_⟩)
        by_cases q : c = k
        · rw [q]; exact g
        · exact h3 c (by omega)
      · rw [if_neg (nI_nle (by omega) (by omega))]
        refine ih (k + 1) _ _ (by omega) (Or.inr ⟨k, by omega, rfl, rfl, fun c hc => ?_⟩)
        by_cases q : c = k
        · rw [q]; exact Nat.le_refl _
        · rw [h3 c (by omega)]; omega
    · subst h3
      have hw := (oO_e h (c := w)).2
      by_cases g : oO (z.2 (z.1 0)) k 40 0 ≤ oO (z.2 (z.1 0)) w 40 0
      · rw [if_pos ((nI_leI (by omega) (by omega)).mpr g)]
        refine ih (k + 1) _ _ (by omega) (Or.inr ⟨w, h1, h2, rfl, fun c hc => ?_⟩)
        by_cases q : c = k
        · rw [q]; exact g
        · exact h4 c (by omega)
      · rw [if_neg (fun q => g ((nI_leI (by omega) (by omega)).mp q))]
        refine ih (k + 1) _ _ (by omega) (Or.inr ⟨k, by omega, rfl, rfl, fun c hc => ?_⟩)
        by_cases q : c = k
        · rw [q]; exact Nat.le_refl _
        · have := h4 c (by omega)
          omega
theorem wo_e (h : KI (z.2 (z.1 0)) n d) : (v_X5_worst z = (-5 : Int32) ∧ ∀ c, c < 8 → oO (z.2 (z.1 0)) c 40 0 = 0) ∨ (∃ w, w < 8 ∧ v_X5_worst z = nI w ∧ ∀ c, c < 8 → oO (z.2 (z.1 0)) c 40 0 ≤ oO (z.2 (z.1 0)) w 40 0) :=
  wo_lp h 8 0 _ _ rfl (Or.inl ⟨rfl, rfl, fun c hc => absurd hc (by omega)⟩)
/-- first loop: every bill -/
theorem hl_1 (h : KI (z.2 (z.1 0)) n d) : ∀ (m k : Nat) (x2 x3 x4 x5 x6 : Int32), k + m = n → v_L_holds_loop1 z m k x2 x3 x4 x5 x6 1 = v_L_holds_t124 z (x2 + lS (fun i => z.2 (z.1 0) (i + 7) 8) m k) (x3 + lS (fun i => z.2 (z.1 0) (i + 7) 10) m k) (x4 + lS (fun i => z.2 (z.1 0) (i + 7) 9) m k) (x5 + lS (fun i => z.2 (z.1 0) (i + 7) 11) m k) (x6 + lS (fun i => z.2 (z.1 0) (i + 7) 4) m k) 1 := by
  intro m
  induction m with
  | zero =>
    intro k x2 x3 x4 x5 x6 hk
    show v_L_holds_t124 z x2 x3 x4 x5 x6 1 = v_L_holds_t124 z (x2 + 0) (x3 + 0) (x4 + 0) (x5 + 0) (x6 + 0) 1
    rw [Int32.add_zero, Int32.add_zero, Int32.add_zero, Int32.add_zero, Int32.add_zero]
  | succ m ih =>
    intro k x2 x3 x4 x5 x6 hk
    obtain ⟨b1, b2, b3, b4, b5, b6, b7, b8, b9, b10, b11, b12, b13⟩ := bO (billAt_1 h (show k < n by omega))
    have e : v_L_holds_loop1 z (m + 1) k x2 x3 x4 x5 x6 1 = if (1 : Int32) = 0 then (v_L_holds_t124 z x2 x3 x4 x5 x6 1) else v_L_holds_loop1 z m (k + 1) (x2 + (v_X5_billOf z (nI k) (7 : Int32))) (x3 + (v_X5_billOf z (nI k) (9 : Int32))) (x4 + (v_X5_billOf z (nI k) (8 : Int32))) (x5 + (v_X5_billOf z (nI k) (11 : Int32))) (x6 + (v_X5_billOf z (nI k) (2 : Int32))) (v_L_isBill z (nI k)) := rfl
    rw [e, if_neg (show ¬ (1 : Int32) = 0 by decide), isBill_1 h (show k < n by omega), b7, b9, b8, b11, b2, ih (k + 1) _ _ _ _ _ (by omega), Int32.add_assoc, Int32.add_assoc, Int32.add_assoc, Int32.add_assoc, Int32.add_assoc]
    rfl
/-- second loop: every customer -/
theorem hl_2 (h : KI (z.2 (z.1 0)) n d) (x2 x3 x4 x5 x6 : Int32) : ∀ (m k : Nat) (x8 : Int32), k + m = 8 → v_L_holds_loop2 z x2 x3 x4 x5 x6 m k 1 x8 = v_L_holds_t279 z x2 x3 x4 x5 x6 1 (x8 + lS (fun c => v_X1_owedOn (z.2 (z.1 0)) (nI c) (0 : Int32)) m k) := by
  intro m
  induction m with
  | zero =>
    intro k x8 hk
    show v_L_holds_t279 z x2 x3 x4 x5 x6 1 x8 = v_L_holds_t279 z x2 x3 x4 x5 x6 1 (x8 + 0)
    rw [Int32.add_zero]
  | succ m ih =>
    intro k x8 hk
    have hk8 : k < 8 := by omega
    obtain ⟨c1, c2, c3, c4⟩ := cu_e (z := z) hk8
    have hs : v_X5_settles z (nI k) = nI (lO (z.2 (z.1 0)) k 40 0) := by
      unfold v_X5_settles
      rw [if_neg (cust_1 hk8)]
      exact (lO_e h hk8).1
    have hs2 := (lO_e h hk8).2
    obtain ⟨o1, o2⟩ := oO_e h (c := k)
    have ho : v_X1_oldestOpenBill (z.2 (z.1 0)) (nI k) = (-5 : Int32) ↔ cO (z.2 (z.1 0)) k 40 0 = 0 := old_e 40 0 (by omega)
    have hcc : cO (z.2 (z.1 0)) k 40 0 ≤ 40 := cO_le k 40 0
    have c1' := c1.trans cO_e
    have c2' := c2.trans o1
    have hlt : ¬ v_X5_customer z (nI k) (2 : Int32) < v_X5_settles z (nI k) := by rw [c2', hs]; exact nI_nlt hs2 (by omega)
    have IH := ih (k + 1) (x8 + v_X5_customer z (nI k) (2 : Int32)) (by omega)
    have hend : x8 + v_X5_customer z (nI k) (2 : Int32) + lS (fun c => v_X1_owedOn (z.2 (z.1 0)) (nI c) (0 : Int32)) m (k + 1) = x8 + lS (fun c => v_X1_owedOn (z.2 (z.1 0)) (nI c) (0 : Int32)) (m + 1) k := by
      rw [Int32.add_assoc, c2]; rfl
    rw [← hend, ← IH]
    have eu : v_L_holds_loop2 z x2 x3 x4 x5 x6 (m + 1) k 1 x8 = v_L_holds_loop2 z x2 x3 x4 x5 x6 m (k + 1) 1 (x8 + v_X5_customer z (nI k) (2 : Int32)) := by
      rw [v_L_holds_loop2.eq_2, if_neg (show ¬ (1 : Int32) = 0 by decide)]
      have tail : ∀ A B : Int32, (if v_X5_customer z (nI k) (6 : Int32) = (-5 : Int32) then (if v_X5_customer z (nI k) (1 : Int32) = 0 then (if v_X5_customer z (nI k) (2 : Int32) < v_X5_settles z (nI k) then A else B) else A) else if v_X5_customer z (nI k) (1 : Int32) = 0 then A else if v_X5_customer z (nI k) (2 : Int32) < v_X5_settles z (nI k) then A else B) = B := fun A B => by
        rw [if_neg hlt, c4, c1']
        by_cases g : cO (z.2 (z.1 0)) k 40 0 = 0
        · rw [if_pos (ho.mpr g), g, if_pos nI_0]
        · rw [if_neg (fun q => g (ho.mp q)), if_neg (nI_ne0 (by omega) (by omega))]
      rcases wo_e h with ⟨w1, w2⟩ | ⟨w, w1, w2, w3⟩
      · rw [if_pos w1, if_pos (show v_X5_customer z (nI k) (2 : Int32) = 0 by rw [c2', w2 k hk8]; rfl)]
        exact tail _ _
      · rw [if_neg (by rw [w2]; exact nI_nm (by omega) (by decide)), w2, if_neg (by rw [c2', (cu_e (z := z) w1).2.1, (oO_e h (c := w)).1]; exact nI_nlt (w3 k hk8) (by have := (oO_e h (c := w)).2; omega))]
        exact tail _ _
    exact eu
/-- third loop: every year -/
theorem tx_0 (hy : j < 100) : v_X5_tax z (nI j) (0 : Int32) = v_X1_taxOf (z.2 (z.1 0)) (nI j) (0 : Int32) ∧ v_X5_tax z (nI j) (2 : Int32) = v_X1_taxTold (z.2 (z.1 0)) (nI j) := by
  unfold v_X5_tax
  simp only [if_neg (isYear1 hy)]
  exact ⟨rfl, rfl⟩
theorem hl_3 (h : KI (z.2 (z.1 0)) n d) (x2 x3 x4 x5 x8 : Int32) : ∀ (m k : Nat) (x6 : Int32), k + m = qN z + 1 → v_L_holds_loop3 z x2 x3 x4 x5 x8 m k x6 1 = v_L_holds_t361 z x2 x3 x4 x5 (x6 - lS (fun y => v_X1_taxOf (z.2 (z.1 0)) (nI y) (0 : Int32)) m k) 1 x8 := by
  have hq := (qN_of h).1
  have hd9 := h.1.2.1
  intro m
  induction m with
  | zero =>
    intro k x6 hk
    show v_L_holds_t361 z x2 x3 x4 x5 x6 1 x8 = v_L_holds_t361 z x2 x3 x4 x5 (x6 - 0) 1 x8
    rw [Int32.sub_zero]
  | succ m ih =>
    intro k x6 hk
    have hk100 : k < 100 := by omega
    obtain ⟨t0, t2⟩ := tx_0 (z := z) hk100
    obtain ⟨y, y1, y2, y3⟩ := h.2.1
    have ec : v_X5_count z (14 : Int32) = nI y := y2
    have hend : x6 - v_X5_tax z (nI k) (0 : Int32) - lS (fun y => v_X1_taxOf (z.2 (z.1 0)) (nI y) (0 : Int32)) m (k + 1) = x6 - lS (fun y => v_X1_taxOf (z.2 (z.1 0)) (nI y) (0 : Int32)) (m + 1) k := by
      rw [t0]
      show _ = x6 - (v_X1_taxOf (z.2 (z.1 0)) (nI k) (0 : Int32) + lS (fun y => v_X1_taxOf (z.2 (z.1 0)) (nI y) (0 : Int32)) m (k + 1))
      grind
    rw [← hend, ← ih (k + 1) (x6 - v_X5_tax z (nI k) (0 : Int32)) (by omega)]
    rw [v_L_holds_loop3.eq_2, if_neg (show ¬ (1 : Int32) = 0 by decide), t2, ec]
    unfold v_X1_taxTold
    rw [if_neg (isYear1 hk100), y2]
    by_cases g : y ≤ k
    · rw [if_pos ((nI_leI (by omega) (by omega)).mpr g), if_pos rfl, if_pos ((nI_leI (by omega) (by omega)).mpr g)]
    · obtain ⟨v, hv, ev⟩ := y3 k (by omega)
      rw [if_neg (fun q => g ((nI_leI (by omega) (by omega)).mp q)), nI_clamp (by omega), ev, if_neg (nI_nm hv (by decide)), if_neg (fun q => g ((nI_leI (by omega) (by omega)).mp q))]
end HO
