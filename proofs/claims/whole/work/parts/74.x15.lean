section MN
variable {z : CS} {u : Nat → Nat → Int32}
theorem M_remind (h : RLz z u) : v_X5_remind z = v_X6_remind u ∧ RLz (w_X5_remind z) (w_X6_remind u) := by
  have hJ := h.2.1
  have eV : v_X5_remind z = v_X1_sendReminders (z.2 (z.1 0)) := by
    unfold v_X5_remind
    rw [eA_v, sA_1 hJ, sA_0 hJ]
  have eW : w_X5_remind z = w_X5_endAct (zB (w_X5_startAct z) (z.1 0) (w_X1_sendReminders (z.2 (z.1 0)))) (v_X1_sendReminders (z.2 (z.1 0))) := by
    unfold w_X5_remind
    rw [sA_1 hJ, sA_0 hJ]
  rw [eV, eW]
  obtain ⟨hm, n, d, hB, hS⟩ := h.2.2.1
  have hn : n ≤ 40 := hB.1.1.2
  have l1 : w_X6_looks u 1 = u 1 := looks_o (by decide)
  have hm' : SI (w_X6_looks u 1) := by rw [l1]; exact hm
  obtain ⟨b', u', t', f1, f2, f3, f4, f5, f6, f7, f8, f9, f10⟩ := rem_lp (d := d) hn n 0 (z.2 (z.1 0)) (w_X6_looks u) 0 (by omega) hm' (by rw [l1]; exact hB)
  have e1 : v_X1_sendReminders (z.2 (z.1 0)) = if nI t' ≤ 0 then (-5 : Int32) else nI t' := f7
  have e2 : w_X1_sendReminders (z.2 (z.1 0)) = b' := f8
  have enb : sN (w_X6_looks u 1) 6 = n := by rw [l1]; exact BR_nb hB
  have e3 : v_X6_reminds (w_X6_looks u) = nI t' := by
    unfold v_X6_reminds
    rw [enb]; exact f9
  have e4 : w_X6_reminds (w_X6_looks u) = u' := by
    unfold w_X6_reminds
    rw [enb]; exact f10
  have hR := (reminds_PR hm').2.1
  rw [e4] at hR
  have eV6 : v_X6_remind u = if nI t' = 0 then (-5 : Int32) else nI t' := by
    unfold v_X6_remind
    rw [e3, ite_self]
  have eW6 : w_X6_remind u = if nI t' ≤ 0 then u' else w_X6_records u' := by
    unfold w_X6_remind
    rw [e3, e4, ite_self, ite_self]
  rw [e1, e2, eV6, eW6]
  rcases Nat.eq_zero_or_pos t' with rfl | ht
  · rw [if_pos (by decide), if_pos nI_0, if_pos (by decide), f6 rfl]
    exact ⟨rfl, act_no h (by decide) ⟨fun q _ => congrFun l1 q, looks_o (by decide), looks_o (by decide), looks_o (by decide), fun k _ => congrFun (looks_o (by decide)) k⟩⟩
  · rw [if_neg (nI_nle ht (by omega)), if_neg (nI_ne0 ht (by omega)), if_neg (nI_nle ht (by omega))]
    obtain ⟨k, hk, h6⟩ := RL_KI h
    refine ⟨rfl, act_ok h (nn (by omega)) ?_ (rec_KH hk h6 ?_ ?_ fun q hq => ?_) ⟨?_, ?_, fun q hq => ?_⟩⟩
    · rw [records_o (by decide) (by decide)]
      exact ⟨f3, n, d, f4, f5 (by rw [l1]; exact hS)⟩
    · rw [hR 0 (by decide), looks_o (by decide)]
    · rw [hR 5 (by decide), looks_o (by decide)]
    · rw [hR 3 (by decide)]; exact looks_3 hq
    · rw [records_o (by decide) (by decide), hR 4 (by decide), looks_o (by decide)]
    · rw [records_o (by decide) (by decide), hR 6 (by decide), looks_o (by decide)]
    · rw [rec_0 (by omega), hR 0 (by decide), looks_o (by decide)]
theorem M_writeOff (h : RLz z u) (p1 : Int32) : v_X5_writeOff z p1 = v_X6_writeOff u p1 ∧ RLz (w_X5_writeOff z p1) (w_X6_writeOff u p1) := by
  have hJ := h.2.1
  have eV : v_X5_writeOff z p1 = v_X1_giveUp (z.2 (z.1 0)) p1 := by
    unfold v_X5_writeOff
    rw [eA_v, sA_1 hJ, sA_0 hJ]
  have eW : w_X5_writeOff z p1 = w_X5_endAct (zB (w_X5_startAct z) (z.1 0) (w_X1_giveUp (z.2 (z.1 0)) p1)) (v_X1_giveUp (z.2 (z.1 0)) p1) := by
    unfold w_X5_writeOff
    rw [sA_1 hJ, sA_0 hJ]
  rw [eV, eW]
  obtain ⟨hm, n, d, hB, hS⟩ := h.2.2.1
  unfold v_X6_writeOff w_X6_writeOff v_X1_giveUp w_X1_giveUp
  rcases billAt_cs hB p1 with ⟨c1, c2⟩ | ⟨j, hj, rfl, c1, c2, c3⟩
  · rw [if_pos c2, if_pos c2, oel_n c1, oel_n c1]
    exact ⟨rfl, act_no h (by decide) uE.rf⟩
  · rw [if_neg c2, if_neg c2, c3, oel_s c1, oel_s c1, off_eq hB hj]
    by_cases g : v_X6_canBeOff u j = 0
    · rw [if_pos g, if_pos g, if_pos g, if_pos g]
      exact ⟨rfl, act_no h (by decide) uE.rf⟩
    · rw [if_neg g, if_neg g, if_neg g, if_neg g]
      have hst : u 1 (233 + 12 * j + 5) = 0 := by
        rcases Classical.em (u 1 (233 + 12 * j + 5) = (0 : Int32)) with q | q
        · exact q
        · exact absurd (by unfold v_X6_canBeOff v_X6_is; rw [if_neg q, if_pos rfl]) g
      have k1 : w_X6_know u 1 = u 1 := know_o (by decide) (by decide) (by decide)
      obtain ⟨f1, f2, f3⟩ := off_step (u := w_X6_know u) (b := z.2 (z.1 0)) (n := n) (d := d) (j := j) (by rw [k1]; exact hm) (by rw [k1]; exact hB) (by rw [k1]; exact hS) hj (by rw [k1]; exact hst)
      have eo := BR_owed f2 hj
      obtain ⟨-, cu, ne, ra, wr, du, st, pd, dc, fe, rm, lt, hN⟩ := f2.2.1 j hj
      have eo2 := BR_owedN f2 hj hN
      have hb := hN.2
      refine ⟨eo, act_know h uE.rf ?_ (fun i hi => up_oi hi) ⟨f1, n, d, f2, f3⟩⟩
      rw [eo, eo2]
      exact nn (by omega)
theorem lS_nn {f : Nat → Int32} {M : Nat} : ∀ (m k : Nat), m * M < 2 ^ 31 → (∀ i, k ≤ i → i < k + m → ∃ v : Nat, v ≤ M ∧ f i = nI v) → ∃ v : Nat, v ≤ m * M ∧ lS f m k = nI v := by
  intro m
  induction m with
  | zero => intro k _ _; exact ⟨0, by omega, rfl⟩
  | succ m ih =>
    intro k hM h
    have e : (m + 1) * M = m * M + M := Nat.succ_mul m M
    obtain ⟨v, hv, ev⟩ := h k (Nat.le_refl k) (by omega)
    obtain ⟨w, hw, ew⟩ := ih (k + 1) (by omega) (fun i h1 h2 => h i (by omega) (by omega))
    refine ⟨v + w, by omega, ?_⟩
    show f k + lS f m (k + 1) = _
    rw [ev, ew, nI_add]
theorem due_nn {b : Nat → Nat → Int32} {n d y : Nat} (hB : BR0 b (u 1) n d) : ∃ v : Nat, v ≤ 160000 ∧ v_X6_dueFor u y 0 = nI v := by
  have hn : n ≤ 40 := hB.1.1.2
  unfold v_X6_dueFor
  rw [dF_l, if_pos rfl, BR_nb hB, Int32.zero_add]
  have hM : n * 4000 ≤ 40 * 4000 := Nat.mul_le_mul hn (Nat.le_refl _)
  obtain ⟨v, hv, ev⟩ := lS_nn (f := fun i => if (u 1 (233 + 12 * i + 3)) / (100 : Int32) = nI y then v_X6_taxOf u i else 0) (M := 4000) n 0 (by omega) (fun i _ hi => by
    show ∃ v : Nat, v ≤ 4000 ∧ (if (u 1 (233 + 12 * i + 3)) / (100 : Int32) = nI y then v_X6_taxOf u i else 0) = nI v
    split
    · obtain ⟨-, cu, ne, ra, wr, du, st, pd, dc, fe, rm, lt, hN⟩ := hB.2.1 i (by omega)
      obtain ⟨⟨h0, h1, h2, -⟩, ⟨g0, g1, g2, g3, g4, g5, g6, g7, g8, g9, g10⟩, -⟩ := hN
      refine ⟨(ne * ra + 50) / 100, by omega, ?_⟩
      unfold v_X6_taxOf
      rw [show u 1 (233 + 12 * i + 1) = nI ne from h1, show u 1 (233 + 12 * i + 2) = nI ra from h2, pk_mul, i50, nI_add, i100, pk_div (by omega) (by decide) (by decide)]
    · exact ⟨0, by omega, rfl⟩)
  exact ⟨v, by omega, ev⟩
theorem nS_le {f : Nat → Nat} {M : Nat} : ∀ (m k : Nat), (∀ i, k ≤ i → i < k + m → f i ≤ M) → nS f m k ≤ m * M := by
  intro m
  induction m with
  | zero => intro k _; exact Nat.zero_le _
  | succ m ih =>
    intro k h
    have e : (m + 1) * M = m * M + M := Nat.succ_mul m M
    have h1 := h k (Nat.le_refl k) (by omega)
    have h2 := ih (k + 1) (fun i g1 g2 => h i (by omega) (by omega))
    show f k + nS f m (k + 1) ≤ _
    omega
theorem ps_le {b : Nat → Nat → Int32} {n d : Nat} (hB : BR0 b (u 1) n d) : psN b ≤ 40 * 15000 := by
  refine nS_le 40 0 (fun i _ hi => ?_)
  by_cases g : i < n
  · obtain ⟨x, cu, ne, ra, wr, du, st, pd, dc, fe, rm, lt, hN⟩ := hB.2.1 i g
    have x8 : b (i + 7) 8 = nI pd := x.2.2.2.2.2.2.2.2.1.trans hN.1.2.2.2.2.2.2.1
    have hb := hN.2
    rw [x8, nI_clamp (by omega)]
    omega
  · rw [(hB.2.2 i (by omega) (by omega)).2.1 8 (by decide) (by decide)]
    exact Nat.zero_le _
theorem due_ok {b : Nat → Nat → Int32} {n d y : Nat} {p : Int32} (hB : BR0 b (u 1) n d) (hS : SM b (u 1)) (hy : y < 100) (hp : p = 0 ∨ p = (1 : Int32)) : ¬ v_X6_dueFor u y p < 0 := by
  rcases hp with rfl | rfl
  · obtain ⟨v, hv, ev⟩ := due_nn (y := y) hB
    rw [ev]; exact nn (by omega)
  · obtain ⟨v, hv, ev⟩ := hS.2.2 y hy
    have := ps_le hB
    unfold v_X6_dueFor
    rw [dF_l, if_neg (by decide), ev]
    exact nn (by omega)
theorem M_closeYear (h : RLz z u) (p1 : Int32) : v_X5_closeYear z p1 = v_X6_closeYear u p1 ∧ RLz (w_X5_closeYear z p1) (w_X6_closeYear u p1) := by
  have hJ := h.2.1
  have eV : v_X5_closeYear z p1 = v_X1_endYear (z.2 (z.1 0)) p1 := by
    unfold v_X5_closeYear
    rw [eA_v, sA_1 hJ, sA_0 hJ]
  have eW : w_X5_closeYear z p1 = w_X5_endAct (zB (w_X5_startAct z) (z.1 0) (w_X1_endYear (z.2 (z.1 0)) p1)) (v_X1_endYear (z.2 (z.1 0)) p1) := by
    unfold w_X5_closeYear
    rw [sA_1 hJ, sA_0 hJ]
  rw [eV, eW]
  obtain ⟨hm, n, d, hB, hS⟩ := h.2.2.1
  obtain ⟨⟨a1, a1'⟩, ⟨a2, a3, a4⟩, ⟨a5, c5, a5c, a5'⟩, a6, a7, ⟨e, p, w, f, t, hE⟩, a9, a10, a11⟩ := hB.1
  unfold v_X6_closeYear w_X6_closeYear v_X1_endYear w_X1_endYear
  rcases year_cs p1 with ⟨c1, c2⟩ | ⟨y, hy, rfl, c1, c2, c3⟩
  · rw [if_pos c1, if_pos c1, if_pos c2, if_pos c2]
    exact ⟨rfl, act_no h (by decide) uE.rf⟩
  · rw [if_neg c1, if_neg c1, if_neg c2, if_neg c2, c3, a4, a5, Int32.mul_comm (nI y + 1) 100]
    by_cases g1 : u 1 0 < (100 : Int32) * (nI y + (1 : Int32))
    · rw [if_pos g1, if_pos g1, if_pos g1, if_pos g1]
      exact ⟨rfl, act_no h (by decide) uE.rf⟩
    · rw [if_neg g1, if_neg g1, if_neg g1, if_neg g1]
      by_cases g2 : nI y ≤ u 1 8
      · rw [if_pos g2, if_pos g2, if_pos g2, if_pos g2]
        by_cases g3 : u 1 8 ≤ nI y
        · rw [if_pos g3, if_pos g3, if_pos g3, if_pos g3]
          have e8 : u 1 8 = nI y := Int32.le_antisymm g3 g2
          have k1 : w_X6_know u 1 = u 1 := know_o (by decide) (by decide) (by decide)
          have hw : v_X3_taxWay (z.2 (z.1 0)) = u 1 5 := a7 4 (by decide)
          have ht01 : u 1 5 = 0 ∨ u 1 5 = (1 : Int32) := by
            rcases (show t = 0 ∨ t = 1 by have := hE.2; omega) with rfl | rfl
            · exact Or.inl hE.1.2.2.2.2
            · exact Or.inr hE.1.2.2.2.2
          have hv : v_X1_taxOf (z.2 (z.1 0)) (nI y) (v_X3_taxWay (z.2 (z.1 0))) = v_X6_dueFor (w_X6_know u) y (w_X6_know u 1 5) := by
            rw [k1, hw]
            exact tO_eq (u := w_X6_know u) (by rw [k1]; exact hB) hy ht01
          have hvu : v_X6_dueFor (w_X6_know u) y (w_X6_know u 1 5) = v_X6_dueFor u y (u 1 5) := by
            rw [← hv, hw]
            exact tO_eq hB hy ht01
          rw [hv]
          obtain ⟨f1, f2, f3⟩ := year_step (u := w_X6_know u) (b := z.2 (z.1 0)) (n := n) (d := d) (y := y) (v := v_X6_dueFor (w_X6_know u) y (w_X6_know u 1 5)) (by rw [k1]; exact hm) (by rw [k1]; exact hB) (by rw [k1]; exact hS) hy (by rw [k1]; exact e8)
          rw [a5] at f2 f3
          refine ⟨rfl, act_know h uE.rf (by rw [hvu]; exact due_ok hB hS hy ht01) (fun i hi => by rw [up_oi hi, up_oi hi]) ⟨f1, n, d, f2, f3⟩⟩
        · rw [if_neg g3, if_neg g3, if_neg g3, if_neg g3]
          exact ⟨rfl, act_no h (by decide) uE.rf⟩
      · rw [if_neg g2, if_neg g2, if_neg g2, if_neg g2]
        exact ⟨rfl, act_no h (by decide) uE.rf⟩
end MN
