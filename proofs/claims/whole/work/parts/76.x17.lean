section MO
variable {z : CS} {u : Nat → Nat → Int32}
theorem set_N {b : Nat → Nat → Int32} {n d k : Nat} (hB : BR0 b (u 1) n d) (hk : k < 5) : ∃ v : Nat, v ≤ 99 ∧ u 1 (1 + k) = nI v := by
  obtain ⟨e, p, w, f, t, ⟨q1, q2, q3, q4, q5⟩, r1, r2, r3, r4, r5, r6⟩ := hB.1.2.2.2.2.2.1
  rcases (show k = 0 ∨ k = 1 ∨ k = 2 ∨ k = 3 ∨ k = 4 by omega) with rfl | rfl | rfl | rfl | rfl
  · exact ⟨e, r1, q1⟩
  · exact ⟨p, by omega, q2⟩
  · exact ⟨w, r4, q3⟩
  · exact ⟨f, r5, q4⟩
  · exact ⟨t, by omega, q5⟩
/-- the reference's own test of a setting -/
theorem set6 {k : Nat} (hk : k < 5) (p2 : Int32) : v_X6_set u (nI k) p2 = (if p2 < leastK k then (-2 : Int32) else if p2 ≤ mostK k then (if u 1 (1 + k) = p2 then (-5 : Int32) else u 1 (1 + k)) else (-2 : Int32)) ∧ w_X6_set u (nI k) p2 = (if p2 < leastK k then u else if p2 ≤ mostK k then (if u 1 (1 + k) = p2 then u else up (w_X6_know u) 1 (1 + k) p2) else u) := by
  have hc : (nI k).toNatClampNeg = k := nI_clamp (by omega)
  have h1 : ¬ v_X6_in (nI k) (0 : Int32) (4 : Int32) = 0 := by
    unfold v_X6_in
    rw [if_neg (nn (by omega)), if_neg (show ¬ (4 : Int32) < nI k from nI_nlt (a := 4) (by omega) (by decide))]
    decide
  have hm : v_X6_most (nI k) = mostK k := by
    rcases (show k = 0 ∨ k = 1 ∨ k = 2 ∨ k = 3 ∨ k = 4 by omega) with rfl | rfl | rfl | rfl | rfl <;> rfl
  have key : ∀ lo : Int32, (v_X6_in p2 lo (mostK k) = 0 ↔ (p2 < lo ∨ ¬ p2 ≤ mostK k)) := fun lo => by
    unfold v_X6_in
    by_cases g1 : p2 < lo
    · rw [if_pos g1]; exact ⟨fun _ => Or.inl g1, fun _ => rfl⟩
    · rw [if_neg g1]
      by_cases g2 : mostK k < p2
      · rw [if_pos g2]; exact ⟨fun _ => Or.inr (Int32.not_le.mpr g2), fun _ => rfl⟩
      · rw [if_neg g2]; exact ⟨fun q => absurd q (by decide), fun q => q.elim (fun q => absurd q g1) (fun q => absurd (Int32.not_lt.mp g2) q)⟩
  have gen : ∀ {α : Type} (lo : Int32) (A B : α), (if v_X6_in p2 lo (mostK k) = 0 then A else B) = if p2 < lo then A else if p2 ≤ mostK k then B else A := fun lo A B => by
    by_cases g1 : p2 < lo
    · rw [if_pos g1, if_pos ((key lo).mpr (Or.inl g1))]
    · rw [if_neg g1]
      by_cases g2 : p2 ≤ mostK k
      · rw [if_pos g2, if_neg (fun q => ((key lo).mp q).elim g1 (fun q => q g2))]
      · rw [if_neg g2, if_pos ((key lo).mpr (Or.inr g2))]
  unfold v_X6_set w_X6_set
  rw [if_neg h1, if_neg h1, hc, hm]
  simp only [gen]
  by_cases e2 : k = 2
  · subst e2
    rw [if_pos (show nI 2 = (2 : Int32) from rfl), if_pos (show nI 2 = (2 : Int32) from rfl)]
    exact ⟨rfl, rfl⟩
  · have h2 : ¬ nI k = (2 : Int32) := fun q => e2 ((nI_eq (b := 2) (by omega) (by decide)).mp q)
    have h3 : leastK k = 0 := if_neg e2
    rw [if_neg h2, if_neg h2, h3]
    exact ⟨rfl, rfl⟩
theorem M_set (h : RLz z u) (p1 p2 : Int32) : v_X5_set z p1 p2 = v_X6_set u p1 p2 ∧ RLz (w_X5_set z p1 p2) (w_X6_set u p1 p2) := by
  have hJ := h.2.1
  have eV : v_X5_set z p1 p2 = v_X3_change (z.2 (z.1 0)) p1 p2 := by
    unfold v_X5_set
    rw [eA_v, sA_1 hJ, sA_0 hJ]
  have eW : w_X5_set z p1 p2 = w_X5_endAct (zB (w_X5_startAct z) (z.1 0) (w_X3_change (z.2 (z.1 0)) p1 p2)) (v_X3_change (z.2 (z.1 0)) p1 p2) := by
    unfold w_X5_set
    rw [sA_1 hJ, sA_0 hJ]
  rw [eV, eW]
  obtain ⟨hm, n, d, hB, hS⟩ := h.2.2.1
  rcases pk_ix p1 (n := 5) (by decide) with g | g | ⟨k, hk, rfl⟩
  · have e2 : v_X6_in p1 (0 : Int32) (4 : Int32) = 0 := by unfold v_X6_in; rw [if_pos g]
    unfold v_X6_set w_X6_set v_X3_change
    rw [if_pos g, if_pos e2, if_pos e2]
    exact ⟨rfl, act_no h (by decide) uE.rf⟩
  · have g4 : (4 : Int32) < p1 := (le_succ (a := 5) (by decide)).mp g
    have g0 : ¬ p1 < 0 := fun q => absurd (Int32.lt_trans g4 q) (by decide)
    have g5 : ¬ p1 < (5 : Int32) := Int32.not_lt.mpr g
    have e2 : v_X6_in p1 (0 : Int32) (4 : Int32) = 0 := by unfold v_X6_in; rw [if_neg g0, if_pos g4]
    unfold v_X6_set w_X6_set v_X3_change
    rw [if_neg g0, if_neg g5, if_pos e2, if_pos e2]
    exact ⟨rfl, act_no h (by decide) uE.rf⟩
  · obtain ⟨v, hv, ev⟩ := set_N hB hk
    have hc : (nI k).toNatClampNeg = k := nI_clamp (by omega)
    have e1 : z.2 (z.1 0) 6 k = u 1 (1 + k) := hB.1.2.2.2.2.1 k hk
    have g0 : ¬ nI k < (0 : Int32) := nn (by omega)
    have g5 : nI k < (5 : Int32) := (nI_ltI (a := k) (b := 5) (by omega) (by decide)).mpr hk
    rw [(set6 hk p2).1, (set6 hk p2).2]
    unfold v_X3_change w_X3_change
    rw [if_neg g0, if_neg g0, if_pos g5, if_pos g5, hc, e1]
    by_cases g1 : p2 < leastK k
    · rw [if_pos g1, if_pos g1, if_pos g1, if_pos g1]
      exact ⟨rfl, act_no h (by decide) uE.rf⟩
    · rw [if_neg g1, if_neg g1, if_neg g1, if_neg g1]
      by_cases g2 : p2 ≤ mostK k
      · rw [if_pos g2, if_pos g2, if_pos g2, if_pos g2]
        by_cases g3 : p2 = u 1 (1 + k)
        · rw [if_pos g3, if_pos g3, if_pos g3.symm, if_pos g3.symm]
          exact ⟨rfl, act_no h (by decide) uE.rf⟩
        · have g3' : ¬ u 1 (1 + k) = p2 := fun q => g3 q.symm
          rw [if_neg g3, if_neg g3, if_neg g3', if_neg g3']
          have g0 : ¬ p2 < 0 := fun q => g1 (Int32.lt_of_lt_of_le q (by
            unfold leastK
            split <;> decide))
          have hmx : mostK k ≤ (99 : Int32) := by
            unfold mostK
            split
            · decide
            · split <;> decide
          obtain ⟨q, hq, rfl⟩ := nI_of2 (M := 99) (n := 99) (by decide) g0 (Int32.le_trans g2 hmx)
          have k1 : w_X6_know u 1 = u 1 := know_o (by decide) (by decide) (by decide)
          obtain ⟨f1, f2, f3⟩ := set_step (u := w_X6_know u) (b := z.2 (z.1 0)) (n := n) (d := d) (k := k) (v := q) (by rw [k1]; exact hm) (by rw [k1]; exact hB) (by rw [k1]; exact hS) hk hq
            (fun e => by subst e; exact (nI_leI (b := 20) (by omega) (by decide)).mp g2)
            (fun e => by subst e; exact Nat.not_lt.mp (fun y => g1 (nI_lt (b := 1) y (by decide))))
            (fun e => by subst e; exact (nI_leI (b := 1) (by omega) (by decide)).mp g2)
          exact ⟨rfl, act_know h uE.rf (by rw [ev]; exact nn (by omega)) (fun i hi => up_oi hi) ⟨f1, n, d, f2, f3⟩⟩
      · rw [if_neg g2, if_neg g2, if_neg g2, if_neg g2]
        exact ⟨rfl, act_no h (by decide) uE.rf⟩
theorem un_lp : ∀ (m k : Nat) (u : Nat → Nat → Int32), k + m = 713 → v_X6_undo_loop m k u = u 0 6 ∧ w_X6_undo_loop m k u = fun i q => if i = 1 ∧ k ≤ q ∧ q < 713 then u 5 (713 * (sN (u 0) 6) + q) else u i q := by
  intro m
  induction m with
  | zero =>
    intro k u hk
    refine ⟨rfl, ?_⟩
    funext i q
    show u i q = _
    rw [if_neg (by omega)]
  | succ m ih =>
    intro k u hk
    obtain ⟨h1, h2⟩ := ih (k + 1) (up u 1 k (u 5 (713 * (sN (u 0) 6) + k))) (by omega)
    have e0 : up u 1 k (u 5 (713 * (sN (u 0) 6) + k)) 0 = u 0 := up_oi (by decide)
    have e5 : up u 1 k (u 5 (713 * (sN (u 0) 6) + k)) 5 = u 5 := up_oi (by decide)
    refine ⟨h1.trans (congrFun e0 6), h2.trans ?_⟩
    funext i q
    rw [e0, e5]
    by_cases g : i = 1 ∧ k + 1 ≤ q ∧ q < 713
    · rw [if_pos g, if_pos (by omega)]
    · rw [if_neg g]
      by_cases g2 : i = 1 ∧ q = k
      · obtain ⟨rfl, rfl⟩ := g2
        rw [if_pos (by omega), up_same]
      · rw [if_neg (by omega)]
        exact if_neg g2
theorem M_undo (h : RLz z u) : v_X5_undo z = v_X6_undo u ∧ RLz (w_X5_undo z) (w_X6_undo u) := by
  obtain ⟨hI, hJ, hN, ⟨k, hk, h4, h5, h6⟩, h7, ⟨n, hn, h8, h9, h10⟩, h11⟩ := id h
  unfold v_X5_undo w_X5_undo v_X6_undo w_X6_undo
  rw [h4, h5]
  rcases Nat.eq_zero_or_pos k with rfl | hk1
  · rw [if_pos nI_0, if_pos nI_0, if_pos nI_0, if_pos nI_0]
    exact ⟨rfl, h⟩
  · have hne : ¬ nI k = 0 := nI_ne0 hk1 (by omega)
    have hle : ¬ nI k ≤ 0 := nI_nle hk1 (by omega)
    have h44 : nI k ≤ (4 : Int32) := nI_le (b := 4) hk (by decide)
    have es : nI k - (1 : Int32) = nI (k - 1) := by rw [i1, pk_sub hk1]
    rw [if_neg hne, if_neg hne, if_neg hne, if_neg hne]
    obtain ⟨L1, L2⟩ := un_lp 713 0 (up u 0 6 (nI k - (1 : Int32))) rfl
    have eW : w_X2_takeLatest z (z.1 0) = zR (w7 z 1 1 (nI (k - 1))) (2 + (k - 1)) (z.1 0) := by
      unfold w_X2_takeLatest
      rw [h4, if_neg hle, if_pos h44, es, nI_clamp (by omega)]
    have eV : v_X2_takeLatest z (z.1 0) = z.1 (2 + (k - 1)) := by
      unfold v_X2_takeLatest
      rw [h4, if_neg hle, if_pos h44, es, nI_clamp (by omega)]
      rfl
    rw [eW, eV, L1, L2, es]
    have sU : sN (up u 0 6 (nI (k - 1)) 0) 6 = k - 1 := (sN_of (s := up u 0 6 (nI (k - 1)) 0) (k := 6) up_same (by omega)).2
    have eU5 : up u 0 6 (nI (k - 1)) 5 = u 5 := up_oi (by decide)
    rw [sU, eU5]
    have hR : (zR (zR (w7 z 1 1 (nI (k - 1))) (2 + (k - 1)) (z.1 0)) 0 (z.1 (2 + (k - 1)))).1 = upR (upR z.1 (2 + (k - 1)) (z.1 0)) 0 (z.1 (2 + (k - 1))) := rfl
    have hP : ∀ q, q ≠ 7 → (zR (zR (w7 z 1 1 (nI (k - 1))) (2 + (k - 1)) (z.1 0)) 0 (z.1 (2 + (k - 1)))).2 q = z.2 q := fun q hq => upP_ne hq
    have hP7 : ∀ t c, ¬ (t = 1 ∧ c = 1) → (zR (zR (w7 z 1 1 (nI (k - 1))) (2 + (k - 1)) (z.1 0)) 0 (z.1 (2 + (k - 1)))).2 7 t c = z.2 7 t c := fun t c hq => (show (w7 z 1 1 (nI (k - 1))).2 7 t c = z.2 7 t c from w7_ne hq)
    have hP11 : (zR (zR (w7 z 1 1 (nI (k - 1))) (2 + (k - 1)) (z.1 0)) 0 (z.1 (2 + (k - 1)))).2 7 1 1 = nI (k - 1) := (show (w7 z 1 1 (nI (k - 1))).2 7 1 1 = nI (k - 1) from w7_same)
    have hlt : ∀ i, i < 6 → z.1 i ≠ 7 := fun i hi => by have := hI i hi; omega
    have hu : ∀ i q, i ≠ 1 → (fun i q => if i = 1 ∧ 0 ≤ q ∧ q < 713 then u 5 (713 * (k - 1) + q) else up u 0 6 (nI (k - 1)) i q) i q = up u 0 6 (nI (k - 1)) i q := fun i q hi => if_neg (fun w => hi w.1)
    refine ⟨?_, ?_, ?_, ?_, ⟨k - 1, by omega, hP11, ?_, fun i hi => ?_⟩, ?_, ⟨n, hn, ?_, ?_, fun q hq => ?_⟩, ?_⟩
    · refine hP11.trans ?_
      exact up_same.symm
    · rw [hR]; exact RI_perm (sw2 (2 + (k - 1)) 0) (sw2_lt (by omega) (by decide)) sw2_R hI
    · rw [hR]; exact RJ_perm (sw2 (2 + (k - 1)) 0) (sw2_lt (by omega) (by decide)) sw2_inj sw2_R hJ
    · rw [hR, upR_same, hP _ (hlt _ (by omega))]
      exact BR_s (h6 (k - 1) (by omega)) (fun q hq => if_pos ⟨rfl, Nat.zero_le q, hq⟩)
    · rw [hu 0 6 (by decide), up_same]
    · rw [hR, sw2_R (2 + i) (by omega), show sw2 (2 + (k - 1)) 0 (2 + i) = 2 + i by unfold sw2; rw [if_neg (by omega), if_neg (by omega)], hP _ (hlt _ (by omega))]
      refine BR_s (h6 i (by omega)) (fun q hq => ?_)
      rw [hu 5 _ (by decide), eU5]
    · unfold SNP
      rw [hP7 0 3 (by decide), hP 2 (by decide), hu 0 4 (by decide), up_nk (by decide)]
      have e4 : (fun i q => if i = 1 ∧ 0 ≤ q ∧ q < 713 then u 5 (713 * (k - 1) + q) else up u 0 6 (nI (k - 1)) i q) 4 = u 4 := by
        funext q
        rw [hu 4 q (by decide)]
        exact congrFun (up_oi (by decide)) q
      exact e4 ▸ h7
    · rw [hP 8 (by decide)]; exact h8
    · rw [hu 0 8 (by decide), up_nk (by decide)]; exact h9
    · rw [hP 8 (by decide), hu 6 q (by decide), h10 q hq]
      exact (congrFun (up_oi (by decide)) q).symm
    · unfold STP
      rw [hP7 0 6 (by decide), hP7 0 7 (by decide), hP7 0 8 (by decide), hu 0 9 (by decide), hu 0 10 (by decide), up_nk (by decide), up_nk (by decide)]
      exact h11
end MO
