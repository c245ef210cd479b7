/-! the totals -/
section TO
variable {b : Nat → Nat → Int32} {n d j : Nat}
theorem st_e (h : KI b n d) (hj : j < n) : ∃ st cu : Nat, st ≤ 2 ∧ cu < 8 ∧ b (j + 7) 0 = nI st ∧ b (j + 7) 1 = nI cu := by
  obtain ⟨st, cu, ne, tx, ra, wr, du, pd, dc, fe, rm, lt, lp, ⟨h0, h1, -⟩, ⟨g0, g1, -⟩, -⟩ := h.2.2.2.2.2.1 j hj
  exact ⟨st, cu, g0, g1, h0, h1⟩
theorem wr_e (h : KI b n d) (hj : j < n) : ∃ wr : Nat, wr ≤ d ∧ b (j + 7) 6 = nI wr := by
  obtain ⟨st, cu, ne, tx, ra, wr, du, pd, dc, fe, rm, lt, lp, ⟨h0, h1, h2, h3, h4, h5, h6, -⟩, ⟨g0, g1, g2, g3, g4, g5, g6, -⟩, -⟩ := h.2.2.2.2.2.1 j hj
  exact ⟨wr, g6, h6⟩
theorem is_a (h : KI b n d) (hj : j < n) {q : Nat} (hq : q ≤ 2) : v_X0_is b j (-9 : Int32) (nI q) = 0 ↔ ¬ b (j + 7) 0 = nI q := by
  obtain ⟨st, cu, g0, g1, h0, h1⟩ := st_e h hj
  rw [is_iff]
  constructor
  · rintro (z | z | z) e
    · rw [h0] at z; exact nI_nm (by omega) (by decide) z
    · exact z (Or.inl rfl)
    · exact z (Or.inr e.symm)
  · intro z
    right; right
    rintro (q1 | q1)
    · exact nI_m9 (by omega) q1
    · exact z q1.symm
theorem is_c (h : KI b n d) (hj : j < n) {c : Nat} (hc : c < 8) : v_X0_is b j (nI c) (0 : Int32) = 0 ↔ (v_X0_is b j (-9 : Int32) (0 : Int32) = 0 ∨ ¬ b (j + 7) 1 = nI c) := by
  rw [is_op hc]
  have e := is_a h hj (q := 0) (by omega)
  rw [show nI 0 = (0 : Int32) from rfl] at e
  rw [e]
  unfold opn
  constructor
  · intro z
    by_cases q : b (j + 7) 0 = 0
    · exact Or.inr (fun y => z ⟨q, y⟩)
    · exact Or.inl q
  · rintro (z | z) ⟨y1, y2⟩
    · exact z y1
    · exact z y2
/-- what is owed on waiting bills, by customers and together -/
theorem ow_all (h : KI b n d) : lS (fun c => v_X1_owedOn b (nI c) (0 : Int32)) 8 0 = v_X1_owedOn b (-9 : Int32) (0 : Int32) := by
  have e1 : lS (fun c => v_X1_owedOn b (nI c) (0 : Int32)) 8 0 = lS (fun c => lS (fun i => if v_X0_is b i (nI c) (0 : Int32) = 0 then 0 else v_X0_owed b i) 40 0) 8 0 := lS_c 8 0 (fun c _ _ => oO_l _ _)
  rw [e1, lS_sw (f := fun c i => if v_X0_is b i (nI c) (0 : Int32) = 0 then 0 else v_X0_owed b i), oO_l]
  refine lS_c 40 0 (fun i _ hi => ?_)
  show lS (fun c => if v_X0_is b i (nI c) (0 : Int32) = 0 then 0 else v_X0_owed b i) 8 0 = if v_X0_is b i (-9 : Int32) (0 : Int32) = 0 then 0 else v_X0_owed b i
  by_cases g : i < n
  · by_cases g2 : v_X0_is b i (-9 : Int32) (0 : Int32) = 0
    · rw [if_pos g2]
      exact lS_0 8 0 (fun c _ hc => if_pos ((is_c h g (by omega)).mpr (Or.inl g2)))
    · rw [if_neg g2]
      obtain ⟨st, cu, g0, g1, h0, h1⟩ := st_e h g
      refine lS_one (j := cu) 8 0 (Nat.zero_le _) (by omega) (fun c _ hc hne => if_pos ((is_c h g (by omega)).mpr (Or.inr (fun q => ?_)))) (if_neg (fun q => ?_))
      · rw [h1] at q
        exact hne ((nI_eq (by omega) (by omega)).mp q).symm
      · rcases (is_c h g g1).mp q with z | z
        · exact g2 z
        · exact z h1
  · rw [if_pos (is_ge h (by omega) (by omega) _ _)]
    exact lS_0 8 0 (fun c _ _ => if_pos (is_ge h (by omega) (by omega) _ _))
/-- the taxes of all bills, by years and together -/
theorem tx_all (h : KI b n d) : lS (fun y => v_X1_taxOf b (nI y) (0 : Int32)) (d / 100 + 1) 0 = lS (fun i => b (i + 7) 4) n 0 := by
  have hn := h.1.1
  have hd9 := h.1.2.1
  have e1 : lS (fun y => v_X1_taxOf b (nI y) (0 : Int32)) (d / 100 + 1) 0 = lS (fun y => lS (fun i => if v_X0_is b i (-9) (-9) = 0 then 0 else if (b (i + 7) 6) / (100 : Int32) = nI y then b (i + 7) 4 else 0) 40 0) (d / 100 + 1) 0 := lS_c _ 0 (fun y _ _ => by
    show v_X1_taxOf b (nI y) (0 : Int32) = _
    unfold v_X1_taxOf
    rw [if_neg (by decide), tO_l, Int32.zero_add])
  rw [e1, lS_sw (f := fun y i => if v_X0_is b i (-9) (-9) = 0 then 0 else if (b (i + 7) 6) / (100 : Int32) = nI y then b (i + 7) 4 else 0), lS_cut hn (fun i g1 g2 => lS_0 _ 0 (fun y _ _ => if_pos (is_ge h g1 g2 _ _)))]
  refine lS_c n 0 (fun i _ hi => ?_)
  have hi : i < n := by omega
  obtain ⟨wr, g1, h1⟩ := wr_e h hi
  have ew : (b (i + 7) 6) / (100 : Int32) = nI (wr / 100) := by rw [h1, i100, pk_div (by omega) (by decide) (by decide)]
  refine lS_one (j := wr / 100) (d / 100 + 1) 0 (Nat.zero_le _) (by omega) (fun y _ hy hne => ?_) ?_
  · show (if v_X0_is b i (-9) (-9) = 0 then (0 : Int32) else if b (i + 7) 6 / (100 : Int32) = nI y then b (i + 7) 4 else 0) = 0
    rw [if_neg (is_all h hi), ew, if_neg (fun q => hne ((nI_eq (by omega) (by omega)).mp q).symm)]
  · show (if v_X0_is b i (-9) (-9) = 0 then (0 : Int32) else if b (i + 7) 6 / (100 : Int32) = nI (wr / 100) then b (i + 7) 4 else 0) = b (i + 7) 4
    rw [if_neg (is_all h hi), ew, if_pos rfl]
theorem eb_0 (h : KI b n d) {k : Nat} (h1 : 1 ≤ k) (h2 : k < 13) : ∀ i, n ≤ i → i < 40 → b (i + 7) k = 0 := fun i g1 g2 => (h.2.2.2.2.2.2 i g1 g2).2.1 k h1 h2
theorem pd_all (h : KI b n d) : v_X1_paidOn b (-9 : Int32) = lS (fun i => b (i + 7) 8) n 0 := by
  rw [pO_l, lS_cut h.1.1 (fun i g1 g2 => if_pos (is_ge h g1 g2 _ _))]
  exact lS_c n 0 (fun i _ hi => if_neg (is_all h (by omega)))
/-- every bill waits, is paid or written off -/
theorem ct_all (h : KI b n d) : (v_X1_countBills b (-9 : Int32) (0 : Int32) + v_X1_countBills b (-9 : Int32) (1 : Int32)) + v_X1_countBills b (-9 : Int32) (2 : Int32) = nI n := by
  rw [cB_l, cB_l, cB_l, ← lS_add, ← lS_add, lS_cut h.1.1 (fun i g1 g2 => by
    show ((if v_X0_is b i (-9 : Int32) (0 : Int32) = 0 then (0 : Int32) else 1) + (if v_X0_is b i (-9 : Int32) (1 : Int32) = 0 then 0 else 1)) + (if v_X0_is b i (-9 : Int32) (2 : Int32) = 0 then 0 else 1) = 0
    rw [if_pos (is_ge h g1 g2 _ _), if_pos (is_ge h g1 g2 _ _), if_pos (is_ge h g1 g2 _ _)]; decide), ← lS_1 n 0]
  refine lS_c n 0 (fun i _ hi => ?_)
  have hi : i < n := by omega
  obtain ⟨st, cu, g0, g1, h0, h1⟩ := st_e h hi
  have a0 := is_a h hi (q := 0) (by omega)
  have a1 := is_a h hi (q := 1) (by omega)
  have a2 := is_a h hi (q := 2) (by omega)
  rw [show nI 0 = (0 : Int32) from rfl, h0] at a0
  rw [show nI 1 = (1 : Int32) from rfl, h0] at a1
  rw [show nI 2 = (2 : Int32) from rfl, h0] at a2
  show ((if v_X0_is b i (-9 : Int32) (0 : Int32) = 0 then (0 : Int32) else 1) + (if v_X0_is b i (-9 : Int32) (1 : Int32) = 0 then 0 else 1)) + (if v_X0_is b i (-9 : Int32) (2 : Int32) = 0 then 0 else 1) = 1
  rcases (show st = 0 ∨ st = 1 ∨ st = 2 by omega) with rfl | rfl | rfl
  · rw [if_neg (fun q => a0.mp q rfl), if_pos (a1.mpr (by decide)), if_pos (a2.mpr (by decide))]; decide
  · rw [if_pos (a0.mpr (by decide)), if_neg (fun q => a1.mp q rfl), if_pos (a2.mpr (by decide))]; decide
  · rw [if_pos (a0.mpr (by decide)), if_pos (a1.mpr (by decide)), if_neg (fun q => a2.mp q rfl)]; decide
end TO
theorem ct_e {z : CS} : v_X5_count z (2 : Int32) = v_X1_countBills (z.2 (z.1 0)) (-9 : Int32) (0 : Int32) ∧ v_X5_count z (3 : Int32) = v_X1_countBills (z.2 (z.1 0)) (-9 : Int32) (1 : Int32) ∧ v_X5_count z (4 : Int32) = v_X1_countBills (z.2 (z.1 0)) (-9 : Int32) (2 : Int32) ∧ v_X5_count z (6 : Int32) = v_X1_owedOn (z.2 (z.1 0)) (-9 : Int32) (0 : Int32) ∧ v_X5_count z (8 : Int32) = v_X1_allCredit (z.2 (z.1 0)) ∧ v_X5_count z (9 : Int32) = ((v_X1_paidOn (z.2 (z.1 0)) (-9 : Int32)) + (v_X1_allCredit (z.2 (z.1 0)))) + (z.2 (z.1 0) 0 7) ∧ v_X5_count z (10 : Int32) = z.2 (z.1 0) 0 7 ∧ v_X5_count z (11 : Int32) = v_X1_allDiscounts (z.2 (z.1 0)) ∧ v_X5_count z (12 : Int32) = v_X1_allFees (z.2 (z.1 0)) ∧ v_X5_count z (13 : Int32) = v_X1_allReminders (z.2 (z.1 0)) ∧ v_X5_count z (20 : Int32) = z.2 7 1 1 := ⟨rfl, rfl, rfl, rfl, rfl, rfl, rfl, rfl, rfl, rfl, rfl⟩
theorem holds_1 {z : CS} {n d : Nat} (h : KI (z.2 (z.1 0)) n d) : v_L_holds z = 1 := by
  have hc := cN_of h
  have hn := h.1.1
  obtain ⟨q1, q2⟩ := qN_of h
  obtain ⟨c2, c3, c4, c6, c8, c9, c10, c11, c12, c13, c20⟩ := ct_e (z := z)
  have e0 : v_X5_billOf z (nI (cN z)) (0 : Int32) = (-1 : Int32) := by
    rw [hc]
    unfold v_X5_billOf
    rw [oel_n (billAt_0 h)]
  unfold v_L_holds
  rw [if_pos e0]
  unfold v_L_holds_t36_1
  rw [hc, hl_1 h n 0 0 0 0 0 0 (by omega), Int32.zero_add, Int32.zero_add, Int32.zero_add, Int32.zero_add, Int32.zero_add]
  unfold v_L_holds_t124
  rw [hl_2 h _ _ _ _ _ 8 0 0 rfl, Int32.zero_add]
  unfold v_L_holds_t279
  rw [hl_3 h _ _ _ _ _ (qN z + 1) 0 _ (by omega), q1, tx_all h, Int32.sub_self, ow_all h]
  unfold v_L_holds_t361
  rw [if_neg (show ¬ (1 : Int32) = 0 by decide), if_pos rfl, c6, if_pos rfl, c12, aF_l, lS_cut hn (eb_0 h (k := 10) (by decide) (by decide)), if_pos rfl, c11, aD_l, lS_cut hn (eb_0 h (k := 9) (by decide) (by decide)), if_pos rfl, c13, aR_l, lS_cut hn (eb_0 h (k := 11) (by decide) (by decide)), if_pos rfl]
  unfold v_L_holds_t421_1
  rw [c2, c3, c4, ct_all h, hc, if_pos rfl, c9, pd_all h, c8, c10, if_pos rfl]
