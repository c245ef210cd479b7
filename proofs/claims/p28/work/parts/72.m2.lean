/-! payments -/
theorem cust_cs (x : Int32) : v_X5_isCustomer x = 0 ∨ ∃ k : Nat, k < 8 ∧ x = nI k ∧ ¬ v_X5_isCustomer x = 0 ∧ x.toNatClampNeg = k := by
  unfold v_X5_isCustomer
  rcases pk_ix x (n := 8) (by decide) with h | h | ⟨k, hk, rfl⟩
  · left; rw [if_pos h]
  · left
    by_cases h0 : x < 0
    · rw [if_pos h0]
    · rw [if_neg h0, if_pos (show (8 : Int32) ≤ x from h)]
  · right
    rw [if_neg (nI_pos (by omega)), if_neg (show ¬ (8 : Int32) ≤ nI k from nI_ge (b := 8) hk (by decide))]
    exact ⟨k, hk, rfl, by decide, nI_clamp (by omega)⟩
theorem cust_1 {k : Nat} (hk : k < 8) : ¬ v_X5_isCustomer (nI k) = 0 := by
  unfold v_X5_isCustomer
  rw [if_neg (nI_pos (by omega)), if_neg (show ¬ (8 : Int32) ≤ nI k from nI_ge (b := 8) hk (by decide))]
  decide
theorem year_cs (x : Int32) : v_X5_isYear x = 0 ∨ ∃ k : Nat, k < 100 ∧ x = nI k ∧ ¬ v_X5_isYear x = 0 ∧ x.toNatClampNeg = k := by
  unfold v_X5_isYear
  rcases pk_ix x (n := 100) (by decide) with h | h | ⟨k, hk, rfl⟩
  · left; rw [if_pos h]
  · left
    by_cases h0 : x < 0
    · rw [if_pos h0]
    · rw [if_neg h0, if_pos (show (100 : Int32) ≤ x from h)]
  · right
    rw [if_neg (nI_pos (by omega)), if_neg (show ¬ (100 : Int32) ≤ nI k from nI_ge (b := 100) hk (by decide))]
    exact ⟨k, hk, rfl, by decide, nI_clamp (by omega)⟩
theorem amt_cs (x : Int32) : v_X5_isAmount x = 0 ∨ ∃ L : Nat, 1 ≤ L ∧ L ≤ 99999 ∧ x = nI L ∧ ¬ v_X5_isAmount x = 0 := by
  by_cases h : v_X5_isAmount x = 0
  · exact Or.inl h
  · right
    have h1 : ¬ x < (1 : Int32) := fun z => h (by unfold v_X5_isAmount; rw [if_pos z])
    have h2 : ¬ (99999 : Int32) < x := fun z => h (by unfold v_X5_isAmount; rw [if_neg h1, if_pos z])
    have h0 : ¬ x < 0 := fun z => h1 (Int32.lt_trans z (by decide))
    obtain ⟨j, hj, rfl⟩ := nI_of2 (M := 99999) (n := 99999) (by decide) h0 (Int32.not_lt.mp h2)
    refine ⟨j, ?_, hj, rfl, h⟩
    rcases Nat.eq_zero_or_pos j with e | e
    · exact absurd (by rw [e]; decide) h1
    · exact e
theorem amt_1 {L : Nat} (h1 : 1 ≤ L) (h2 : L ≤ 99999) : ¬ v_X5_isAmount (nI L) = 0 := by
  unfold v_X5_isAmount
  rw [if_neg (show ¬ nI L < (1 : Int32) from fun z => absurd ((nI_ltI (a := L) (b := 1) (by omega) (by decide)).mp z) (by omega)), if_neg (show ¬ (99999 : Int32) < nI L from fun z => absurd ((nI_ltI (a := 99999) (b := L) (by decide) (by omega)).mp z) (by omega))]
  decide
section PA
variable {b b' : Nat → Nat → Int32} {n d j : Nat}
/-- one row of a bill changed, and the tax that was paid -/
theorem KI_bill (h : KI b n d) (hj : j < n) (hb : ∀ i, i ≠ j + 7 → i ≠ 3 → b' i = b i) (hB : BI (b' (j + 7)) d) (h3 : ∀ y, y < 100 → ∃ v : Nat, v ≤ pS b' ∧ b' 3 y = nI v) : KI b' n d := by
  obtain ⟨⟨a1, a2, a3⟩, ⟨y, a4, a5, a6⟩, a7, a8, a9, a10, a11⟩ := h
  refine ⟨⟨a1, a2, ?_⟩, ⟨y, a4, ?_, fun k hk => ?_⟩, SE_c a7 (fun k _ => by rw [hb 6 (by omega) (by omega)]), fun c hc => ?_, h3, fun i hi => ?_, fun i g1 g2 => ?_⟩
  · rw [hb 0 (by omega) (by omega)]; exact a3
  · rw [hb 0 (by omega) (by omega)]; exact a5
  · rw [hb 4 (by omega) (by omega)]; exact a6 k hk
  · rw [hb 2 (by omega) (by omega)]; exact a8 c hc
  · by_cases e : i = j
    · subst e; exact hB
    · rw [hb (i + 7) (by omega) (by omega)]; exact a10 i hi
  · rw [hb (i + 7) (by omega) (by omega)]; exact a11 i g1 g2
theorem pW_o {A D : Int32} {y i : Nat} (hi : i ≠ j + 7) (h3 : i ≠ 3) : payW b j A D y i = b i := by
  unfold payW
  rw [up_oi h3, tm_o hi]
theorem pW_k {A D : Int32} {y k : Nat} (h0 : k ≠ 0) (h8 : k ≠ 8) (h9 : k ≠ 9) (h13 : k ≠ 13) : payW b j A D y (j + 7) k = b (j + 7) k := by
  unfold payW
  rw [up_ni (by omega), tm_k h0 h8 h9 h13]
theorem pW_8 {A D : Int32} {y : Nat} : payW b j A D y (j + 7) 8 = b (j + 7) 8 + A := by
  unfold payW
  rw [up_ni (by omega), tm_8]
theorem pW_9 {A D : Int32} {y : Nat} : payW b j A D y (j + 7) 9 = b (j + 7) 9 + D := by
  unfold payW
  rw [up_ni (by omega), tm_9]
theorem pW_13 {A D : Int32} {y : Nat} : payW b j A D y (j + 7) 13 = b 0 5 := by
  unfold payW
  rw [up_ni (by omega), tm_13]
theorem pW_0 {A D : Int32} {y : Nat} : payW b j A D y (j + 7) 0 = if 0 < ((b (j + 7) 5 + b (j + 7) 10) - (b (j + 7) 8 + A)) - (b (j + 7) 9 + D) then b (j + 7) 0 else (1 : Int32) := by
  unfold payW
  rw [up_ni (by omega), tm_0]
theorem pay_bill (h : KI b n d) (hj : j < n) {st cu ne tx ra wr du pd dc fe rm lt lp A D : Nat} (hN : BN (b (j + 7)) d st cu ne tx ra wr du pd dc fe rm lt lp) (hA : pd + dc + A + D ≤ ne + tx + fe) (hA1 : 1 ≤ A) (hst : st ≠ 1) :
    KI (payW b j (nI A) (nI D) (d / 100)) n d ∧ payW b j (nI A) (nI D) (d / 100) (j + 7) 0 = (if pd + dc + A + D = ne + tx + fe then (1 : Int32) else b (j + 7) 0) := by
  have hn : n ≤ 40 := h.1.1
  have hd9 : d ≤ 9999 := h.1.2.1
  have hday := h.1.2.2
  obtain ⟨⟨h0, h1, h2, h3, h4, h5, h6, h7, h8, h9, h10, h11, h12, h13⟩, ⟨g0, g1, g2, g3, g4, g5, g6, g7, g8, g9, g10, g11⟩, k1, k2, k3, k4⟩ := hN
  have eC : ((b (j + 7) 5 + b (j + 7) 10) - (b (j + 7) 8 + nI A)) - (b (j + 7) 9 + nI D) = nI (ne + tx + fe - (pd + A) - (dc + D)) := by
    rw [h5, h10, h8, h9, nI_add, nI_add, nI_add, pk_sub (by omega), pk_sub (by omega)]
  have eS : payW b j (nI A) (nI D) (d / 100) (j + 7) 0 = (if pd + dc + A + D = ne + tx + fe then (1 : Int32) else b (j + 7) 0) := by
    rw [pW_0, eC]
    by_cases c : pd + dc + A + D = ne + tx + fe
    · rw [if_pos c, show ne + tx + fe - (pd + A) - (dc + D) = 0 by omega, if_neg (by decide)]
    · rw [if_neg c, if_pos (nI_gt0 (by omega) (by omega))]
  have hp : pS (payW b j (nI A) (nI D) (d / 100)) = pS b + A := by
    have e := nS_up (f := fun i => (b (i + 7) 8).toNatClampNeg) (g := fun i => (payW b j (nI A) (nI D) (d / 100) (i + 7) 8).toNatClampNeg) (j := j) 40 0 (Nat.zero_le j) (by omega) (fun i _ _ hi => by
      show (payW b j (nI A) (nI D) (d / 100) (i + 7) 8).toNatClampNeg = (b (i + 7) 8).toNatClampNeg
      rw [pW_o (by omega) (by omega)])
    have e1 : (b (j + 7) 8).toNatClampNeg = pd := by rw [h8, nI_clamp (by omega)]
    have e2 : (payW b j (nI A) (nI D) (d / 100) (j + 7) 8).toNatClampNeg = pd + A := by rw [pW_8, h8, nI_add, nI_clamp (by omega)]
    simp only [e1, e2] at e
    show nS (fun i => (payW b j (nI A) (nI D) (d / 100) (i + 7) 8).toNatClampNeg) 40 0 = nS (fun i => (b (i + 7) 8).toNatClampNeg) 40 0 + A
    omega
  refine ⟨KI_bill h hj (fun i hi hi3 => pW_o hi hi3) ⟨if pd + dc + A + D = ne + tx + fe then 1 else st, cu, ne, tx, ra, wr, du, pd + A, dc + D, fe, rm, lt, d, ⟨?_, ?_, ?_, ?_, ?_, ?_, ?_, ?_, ?_, ?_, ?_, ?_, ?_, ?_⟩, ⟨?_, g1, g2, g3, g4, g5, g6, g7, g8, g9, Nat.le_refl d, g11⟩, by omega, ?_, ?_, k4⟩ (fun y hy => ?_), eS⟩
  · rw [eS]
    by_cases c : pd + dc + A + D = ne + tx + fe
    · rw [if_pos c, if_pos c]; rfl
    · rw [if_neg c, if_neg c]; exact h0
  · rw [pW_k (by decide) (by decide) (by decide) (by decide)]; exact h1
  · rw [pW_k (by decide) (by decide) (by decide) (by decide)]; exact h2
  · rw [pW_k (by decide) (by decide) (by decide) (by decide)]; exact h3
  · rw [pW_k (by decide) (by decide) (by decide) (by decide)]; exact h4
  · rw [pW_k (by decide) (by decide) (by decide) (by decide)]; exact h5
  · rw [pW_k (by decide) (by decide) (by decide) (by decide)]; exact h6
  · rw [pW_k (by decide) (by decide) (by decide) (by decide)]; exact h7
  · rw [pW_8, h8, nI_add]
  · rw [pW_9, h9, nI_add]
  · rw [pW_k (by decide) (by decide) (by decide) (by decide)]; exact h10
  · rw [pW_k (by decide) (by decide) (by decide) (by decide)]; exact h11
  · rw [pW_k (by decide) (by decide) (by decide) (by decide)]; exact h12
  · rw [pW_13, if_neg (by omega)]; exact hday
  · split <;> omega
  · by_cases c : pd + dc + A + D = ne + tx + fe
    · rw [if_pos c]; omega
    · rw [if_neg c]; omega
  · by_cases c : pd + dc + A + D = ne + tx + fe
    · rw [if_pos c]; intro z; omega
    · rw [if_neg c]; exact k3
  · obtain ⟨v, hv, ev⟩ := h.2.2.2.2.1 y hy
    by_cases e : y = d / 100
    · have hm2 : A * ra ≤ 20000 * 40 := Nat.mul_le_mul (by omega) g5
      have hle : A * ra / (100 + ra) ≤ A := Nat.div_le_of_le_mul (by rw [Nat.mul_comm A ra]; exact Nat.mul_le_mul (by omega) (Nat.le_refl A))
      refine ⟨v + A * ra / (100 + ra), by omega, ?_⟩
      unfold payW
      rw [← e, up_same, ev]
      unfold v_X0_taxIn
      rw [h3, i100, nI_add, if_neg (nI_nle (by omega) (by omega)), pk_mul, pk_div (by omega) (by omega) (by omega), nI_add]
    · refine ⟨v, by omega, ?_⟩
      unfold payW
      rw [up_nk e]
      exact (congrFun (tm_o (by omega)) y).trans ev
theorem pay_0 : v_X1_payOn b j (nI 0) = nI 0 ∧ w_X1_payOn b j (nI 0) = b := by
  unfold v_X1_payOn w_X1_payOn
  rw [if_neg (show ¬ (0 : Int32) < nI 0 by decide), if_neg (show ¬ (0 : Int32) < nI 0 by decide)]
  exact ⟨rfl, rfl⟩
theorem pay_step (h : KI b n d) (hj : j < n) (hs : ¬ b (j + 7) 0 = (1 : Int32)) {L : Nat} (hL2 : L ≤ 1000000) : v_X1_payOn b j (nI L) = nI (if L < oN b j - dN b j then L else oN b j - dN b j) ∧ KI (w_X1_payOn b j (nI L)) n d ∧ (∀ i, i ≠ j + 7 → i ≠ 3 → w_X1_payOn b j (nI L) i = b i) ∧ w_X1_payOn b j (nI L) (j + 7) 1 = b (j + 7) 1 ∧ (L < oN b j - dN b j → w_X1_payOn b j (nI L) (j + 7) 0 = b (j + 7) 0) ∧ (¬ L < oN b j - dN b j → w_X1_payOn b j (nI L) (j + 7) 0 = (1 : Int32)) := by
  obtain ⟨o1, o2, o3⟩ := ow_e h hj
  have hO : 0 < oN b j := Nat.pos_of_ne_zero (fun z => hs (o3.mpr z))
  obtain ⟨d1, d2⟩ := di_e h hj hO
  rcases Nat.eq_zero_or_pos L with rfl | hL
  · obtain ⟨p1, p2⟩ := pay_0 (b := b) (j := j)
    have hlt : 0 < oN b j - dN b j := by omega
    rw [p1, p2, if_pos hlt]
    exact ⟨rfl, h, fun _ _ _ => rfl, rfl, fun _ => rfl, fun z => absurd hlt z⟩
  obtain ⟨c1, c2⟩ := payC (d := d) (L := L) o1 d1 d2 (by omega) hL (by omega) h.1.2.2 h.1.2.1
  obtain ⟨st, cu, ne, tx, ra, wr, du, pd, dc, fe, rm, lt, lp, hN⟩ := h.2.2.2.2.2.1 j hj
  have eO : oN b j = ne + tx + fe - pd - dc := by
    have e : v_X0_owed b j = nI (ne + tx + fe - pd - dc) := BN_o hN
    have hb := hN.2
    unfold oN
    rw [e, nI_clamp (by omega)]
  have hst : st ≠ 1 := fun z => hs (by rw [hN.1.1, z]; rfl)
  have k1 := hN.2.2.1
  obtain ⟨q1, q2⟩ := pay_bill h hj (A := if L < oN b j - dN b j then L else oN b j - dN b j) (D := if L < oN b j - dN b j then 0 else dN b j) hN (by split <;> omega) (by split <;> omega) hst
  rw [c1, c2]
  refine ⟨rfl, q1, fun i g1 g2 => pW_o g1 g2, pW_k (by decide) (by decide) (by decide) (by decide), fun g => ?_, fun g => ?_⟩
  · rw [q2, if_neg (by rw [if_pos g, if_pos g]; omega)]
  · rw [q2, if_pos (by rw [if_neg g, if_neg g]; omega)]
end PA
