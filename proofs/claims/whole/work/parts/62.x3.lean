theorem nI_gt0 {n : Nat} (h : 0 < n) (hn : n < 2 ^ 31) : (0 : Int32) < nI n := (nI_ltI (a := 0) (by decide) hn).mpr h
section PS
variable {b : Nat → Nat → Int32} {u : Nat → Nat → Int32} {n d j : Nat}
set_option maxHeartbeats 4000000 in
theorem pay_bill (hm : SI (u 1)) (h : BR0 b (u 1) n d) (hj : j < n) {cu ne ra wr du st pd dc fe rm lt A D : Nat} (hN : BN (yR (u 1) j) d cu ne ra wr du st pd dc fe rm lt) (hA : pd + dc + A + D ≤ ne + (ne * ra + 50) / 100 + fe) (hst : st ≠ 1) : BR0 (payW b j (nI A) (nI D) (d / 100)) (tk u j (nI A) (nI D) 1) n d := by
  have hn : n ≤ 40 := h.1.1.2
  have hd : sN (u 1) 0 = d := (sN_of h.1.2.1.1 (by have := h.1.2.1.2.1; omega)).2
  have hd9 : d ≤ 9999 := h.1.2.1.2.1
  have hday : b 0 5 = u 1 0 := h.1.2.1.2.2
  have hd0 : u 1 0 = nI d := h.1.2.1.1
  have h3 := h.1.2.2.2.2.2.2.2.1
  obtain ⟨⟨x0, x1, x2, x3, x4, x5, x6, x7, x8, x9, x10, x11, x12, x13⟩, -⟩ := h.2.1 j hj
  have hS2 := (su_y (u := u) (j := j)).trans (BN_s hN)
  obtain ⟨⟨h0, h1, h2, hh3, h4, h5, h6, h7, h8, h9, h10⟩, ⟨g0, g1, g2, g3, g4, g5, g6, g7, g8, g9, g10⟩, k1, k2⟩ := hN
  have eM : ((v_X6_sumOf u j + u 1 (233 + 12 * j + 8)) - (u 1 (233 + 12 * j + 6) + nI A)) - (u 1 (233 + 12 * j + 7) + nI D) = nI (ne + (ne * ra + 50) / 100 + fe - (pd + A) - (dc + D)) := by
    have e6 : u 1 (233 + 12 * j + 6) = nI pd := h6
    have e7 : u 1 (233 + 12 * j + 7) = nI dc := h7
    have e8 : u 1 (233 + 12 * j + 8) = nI fe := h8
    rw [hS2, e6, e7, e8, nI_add, nI_add, nI_add, pk_sub (by omega), pk_sub (by omega)]
  have eC : ((b (j + 7) 5 + b (j + 7) 10) - (b (j + 7) 8 + nI A)) - (b (j + 7) 9 + nI D) = nI (ne + (ne * ra + 50) / 100 + fe - (pd + A) - (dc + D)) := by
    rw [x5, x10, x8, x9]
    exact eM
  have e5 : u 1 (233 + 12 * j + 5) = nI st := h5
  have e2 : u 1 (233 + 12 * j + 2) = nI ra := h2
  have eS : (payW b j (nI A) (nI D) (d / 100)) (j + 7) 0 = nI (if ne + (ne * ra + 50) / 100 + fe - (pd + A) - (dc + D) = 0 then 1 else st) := by
    unfold payW
    rw [up_ni (by omega), tm_0, eC]
    by_cases c : ne + (ne * ra + 50) / 100 + fe - (pd + A) - (dc + D) = 0
    · rw [c, if_pos rfl, if_neg (by decide)]; rfl
    · rw [if_neg c, if_pos (nI_gt0 (by omega) (by omega)), x0]; exact h5
  have eT : tk u j (nI A) (nI D) 1 (233 + 12 * j + 5) = nI (if ne + (ne * ra + 50) / 100 + fe - (pd + A) - (dc + D) = 0 then 1 else st) := by
    rw [tk_5 hm, eM]
    by_cases c : ne + (ne * ra + 50) / 100 + fe - (pd + A) - (dc + D) = 0
    · rw [c, if_pos rfl, if_pos nI_0]; rfl
    · rw [if_neg c, if_neg (nI_ne0 (by omega) (by omega))]; exact h5
  have eK : ∀ k, k < 12 → k ≠ 5 → k ≠ 6 → k ≠ 7 → k ≠ 11 → yR (tk u j (nI A) (nI D) 1) j k = yR (u 1) j k := fun k hk h5 h6 h7 h11 => tk_k hm (by omega) (by omega) (by omega) (by omega) (by omega)
  have eX : ∀ k, k ≠ 0 → k ≠ 8 → k ≠ 9 → k ≠ 13 → (payW b j (nI A) (nI D) (d / 100)) (j + 7) k = b (j + 7) k := fun k h0 h8 h9 h13 => by
    unfold payW
    rw [up_ni (by omega), tm_k h0 h8 h9 h13]
  refine BR0_bill h hj (fun i hi hi3 => ?_) (fun k hk hk2 hk3 => tk_k hm (hk3 5 (by decide)) (hk3 6 (by decide)) (hk3 7 (by decide)) (hk3 11 (by decide)) (by omega)) (fun y hy => ?_) ⟨⟨?_, ?_, ?_, ?_, ?_, ?_, ?_, ?_, ?_, ?_, ?_, ?_, ?_, ?_⟩, cu, ne, ra, wr, du, (if ne + (ne * ra + 50) / 100 + fe - (pd + A) - (dc + D) = 0 then 1 else st), pd + A, dc + D, fe, rm, lt, ⟨?_, ?_, ?_, ?_, ?_, eT, ?_, ?_, ?_, ?_, ?_⟩, ⟨g0, g1, g2, g3, g4, g5, ?_, g7, g8, g9, g10⟩, ?_, ?_⟩
  · unfold payW
    rw [up_oi hi3, tm_o hi]
  · by_cases e : y = d / 100
    · subst e
      have e25 : 25 + d / 100 = 25 + sN (u 1) 0 / 100 := by rw [hd]
      rw [e25, tk_y hm, ← e25]
      unfold payW
      rw [up_same, h3 _ hy]
      congr 1
      unfold v_X0_taxIn
      have x3' : b (j + 7) 3 = u 1 (233 + 12 * j + 2) := x3
      rw [x3', e2, i100, nI_add, if_neg (nI_nle (by omega) (by omega))]
    · unfold payW
      rw [up_nk e, tk_k hm (by omega) (by omega) (by omega) (by omega) (by rw [hd]; omega), ← h3 y hy]
      exact congrFun (tm_o (by omega)) y
  · exact eS.trans eT.symm
  · rw [eX 1 (by decide) (by decide) (by decide) (by decide), eK 0 (by decide) (by decide) (by decide) (by decide) (by decide)]; exact x1
  · rw [eX 2 (by decide) (by decide) (by decide) (by decide), eK 1 (by decide) (by decide) (by decide) (by decide) (by decide)]; exact x2
  · rw [eX 3 (by decide) (by decide) (by decide) (by decide), eK 2 (by decide) (by decide) (by decide) (by decide) (by decide)]; exact x3
  · rw [eX 4 (by decide) (by decide) (by decide) (by decide), eK 1 (by decide) (by decide) (by decide) (by decide) (by decide), eK 2 (by decide) (by decide) (by decide) (by decide) (by decide)]; exact x4
  · rw [eX 5 (by decide) (by decide) (by decide) (by decide), eK 1 (by decide) (by decide) (by decide) (by decide) (by decide), eK 2 (by decide) (by decide) (by decide) (by decide) (by decide)]; exact x5
  · rw [eX 6 (by decide) (by decide) (by decide) (by decide), eK 3 (by decide) (by decide) (by decide) (by decide) (by decide)]; exact x6
  · rw [eX 7 (by decide) (by decide) (by decide) (by decide), eK 4 (by decide) (by decide) (by decide) (by decide) (by decide)]; exact x7
  · unfold payW
    rw [up_ni (by omega), tm_8, x8]; exact (tk_6 hm).symm
  · unfold payW
    rw [up_ni (by omega), tm_9, x9]; exact (tk_7 hm).symm
  · rw [eX 10 (by decide) (by decide) (by decide) (by decide), eK 8 (by decide) (by decide) (by decide) (by decide) (by decide)]; exact x10
  · rw [eX 11 (by decide) (by decide) (by decide) (by decide), eK 9 (by decide) (by decide) (by decide) (by decide) (by decide)]; exact x11
  · rw [eX 12 (by decide) (by decide) (by decide) (by decide), eK 10 (by decide) (by decide) (by decide) (by decide) (by decide)]; exact x12
  · unfold payW
    rw [up_ni (by omega), tm_13, hday]; exact (tk_11 hm).symm
  · rw [eK 0 (by decide) (by decide) (by decide) (by decide) (by decide)]; exact h0
  · rw [eK 1 (by decide) (by decide) (by decide) (by decide) (by decide)]; exact h1
  · rw [eK 2 (by decide) (by decide) (by decide) (by decide) (by decide)]; exact h2
  · rw [eK 3 (by decide) (by decide) (by decide) (by decide) (by decide)]; exact hh3
  · rw [eK 4 (by decide) (by decide) (by decide) (by decide) (by decide)]; exact h4
  · exact (tk_6 hm).trans (by rw [show u 1 (233 + 12 * j + 6) = nI pd from h6, nI_add])
  · exact (tk_7 hm).trans (by rw [show u 1 (233 + 12 * j + 7) = nI dc from h7, nI_add])
  · rw [eK 8 (by decide) (by decide) (by decide) (by decide) (by decide)]; exact h8
  · rw [eK 9 (by decide) (by decide) (by decide) (by decide) (by decide)]; exact h9
  · rw [eK 10 (by decide) (by decide) (by decide) (by decide) (by decide)]; exact h10
  · split <;> omega
  · omega
  · by_cases c : ne + (ne * ra + 50) / 100 + fe - (pd + A) - (dc + D) = 0
    · rw [if_pos c]; omega
    · rw [if_neg c]; omega
theorem tax_up (hm : SI (u 1)) {A ra y v : Nat} {D : Int32} (h2 : u 1 (233 + 12 * j + 2) = nI ra) (hr : ra ≤ 40) (hA : A ≤ 1000000) (hy : y < 100) (hv : u 1 (25 + y) = nI v) : ∃ v' : Nat, v' ≤ v + A ∧ tk u j (nI A) D 1 (25 + y) = nI v' := by
  have hd := SI_day2 hm
  by_cases e : 25 + y = 25 + sN (u 1) 0 / 100
  · have hm2 : A * ra ≤ 1000000 * 40 := Nat.mul_le_mul hA hr
    refine ⟨v + A * ra / (100 + ra), ?_, ?_⟩
    · have : A * ra / (100 + ra) ≤ A := Nat.div_le_of_le_mul (by rw [Nat.mul_comm A ra]; exact Nat.mul_le_mul (by omega) (Nat.le_refl A))
      omega
    · rw [e, tk_y hm, ← e, hv, h2, pk_mul, i100, nI_add, pk_div (by omega) (by omega) (by omega), nI_add]
  · exact ⟨v, by omega, (tk_k hm (by omega) (by omega) (by omega) (by omega) e).trans hv⟩
theorem pay_step (hm : SI (u 1)) (h : BR0 b (u 1) n d) (hj : j < n) (hst : ¬ u 1 (233 + 12 * j + 5) = (1 : Int32)) {L : Nat} (hL : 1 ≤ L) (hL2 : L ≤ 1000000) : ∃ A : Nat, A ≤ L ∧ v_X1_payOn b j (nI L) = nI A ∧ v_X6_takesOf u j (nI L) = nI A ∧ BR0 (w_X1_payOn b j (nI L)) (w_X6_takesOf u j (nI L) 1) n d ∧ (∀ i, i ≠ j + 7 → i ≠ 3 → w_X1_payOn b j (nI L) i = b i) ∧ w_X1_payOn b j (nI L) (j + 7) 1 = b (j + 7) 1 ∧ w_X1_payOn b j (nI L) (j + 7) 8 = b (j + 7) 8 + nI A ∧ (∀ k, k < 713 → (k < 25 ∨ 125 ≤ k) → (∀ t, t < 12 → k ≠ 233 + 12 * j + t) → w_X6_takesOf u j (nI L) 1 k = u 1 k) ∧ w_X6_takesOf u j (nI L) 1 (233 + 12 * j + 0) = u 1 (233 + 12 * j + 0) ∧ ∀ y v : Nat, y < 100 → u 1 (25 + y) = nI v → ∃ v' : Nat, v' ≤ v + A ∧ w_X6_takesOf u j (nI L) 1 (25 + y) = nI v' := by
  obtain ⟨-, cu, ne, ra, wr, du, st, pd, dc, fe, rm, lt, hN⟩ := h.2.1 j hj
  have hn : n ≤ 40 := h.1.1.2
  have hd : sN (u 1) 0 = d := (sN_of h.1.2.1.1 (by have := h.1.2.1.2.1; omega)).2
  have hd9 : d ≤ 9999 := h.1.2.1.2.1
  have hst1 : st ≠ 1 := fun z => hst (by rw [show u 1 (233 + 12 * j + 5) = nI st from hN.1.2.2.2.2.2.1, z]; rfl)
  have hb := hN.2
  have hO : 0 < ne + (ne * ra + 50) / 100 + fe - pd - dc := by omega
  obtain ⟨D, hD, eD⟩ := BR_discN h hN hO
  have eO := BR_owedN h hj hN
  obtain ⟨c1, c2⟩ := payC (L := L) ((BR_owed h hj).trans eO) ((BR_disc h hj).trans eD) hD (by omega) hL (by omega) (h.1.2.1.2.2.trans h.1.2.1.1) hd9
  obtain ⟨m1, m2⟩ := payM (L := L) eO eD hD (by omega) hL (by omega)
  refine ⟨_, ?_, c1, m1, ?_⟩
  · split <;> omega
  rw [c2, m2]
  refine ⟨pay_bill hm h hj hN ?_ hst1, fun i hi hi3 => ?_, ?_, ?_, fun k hk hk2 hk3 => tk_k hm (hk3 5 (by decide)) (hk3 6 (by decide)) (hk3 7 (by decide)) (hk3 11 (by decide)) (by omega), tk_k hm (by omega) (by omega) (by omega) (by omega) (by omega), fun y v hy hv => tax_up hm hN.1.2.2.1 hb.1.2.2.2.1 ?_ hy hv⟩
  · split <;> omega
  · unfold payW
    rw [up_oi hi3, tm_o hi]
  · unfold payW
    rw [up_ni (by omega), tm_k (by decide) (by decide) (by decide) (by decide)]
  · unfold payW
    rw [up_ni (by omega), tm_8]
  · split <;> omega
end PS
