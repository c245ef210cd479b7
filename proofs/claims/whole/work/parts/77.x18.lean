section MP
variable {z : CS} {u : Nat → Nat → Int32}
theorem ke_lp : ∀ (m k : Nat) (u : Nat → Nat → Int32), k + m = 713 → v_X6_keep_loop m k u = u 1 0 ∧ w_X6_keep_loop m k u = fun i q => if i = 4 ∧ k ≤ q ∧ q < 713 then u 1 q else up u 0 4 (1 : Int32) i q := by
  intro m
  induction m with
  | zero =>
    intro k u hk
    refine ⟨rfl, ?_⟩
    funext i q
    show up u 0 4 (1 : Int32) i q = _
    rw [if_neg (by omega)]
  | succ m ih =>
    intro k u hk
    obtain ⟨h1, h2⟩ := ih (k + 1) (up u 4 k (u 1 k)) (by omega)
    have e1 : up u 4 k (u 1 k) 1 = u 1 := up_oi (by decide)
    refine ⟨h1.trans (congrFun e1 0), h2.trans ?_⟩
    funext i q
    rw [e1]
    by_cases g : i = 4 ∧ k + 1 ≤ q ∧ q < 713
    · rw [if_pos g, if_pos (by omega)]
    · rw [if_neg g]
      by_cases g2 : i = 4 ∧ q = k
      · obtain ⟨rfl, rfl⟩ := g2
        rw [if_pos (by omega), up_ni (by decide), up_same]
      · rw [if_neg (by omega)]
        by_cases g3 : i = 0 ∧ q = 4
        · obtain ⟨rfl, rfl⟩ := g3
          rw [up_same, up_same]
        · rw [show up (up u 4 k (u 1 k)) 0 4 (1 : Int32) i q = up u 4 k (u 1 k) i q from if_neg g3, show up u 0 4 (1 : Int32) i q = u i q from if_neg g3]
          exact if_neg g2
theorem M_keep (h : RLz z u) : v_X5_keep z = v_X6_keep u ∧ RLz (w_X5_keep z) (w_X6_keep u) := by
  obtain ⟨hI, hJ, hN, ⟨k, hk, h4, h5, h6⟩, h7, ⟨n, hn, h8, h9, h10⟩, h11⟩ := id h
  have hne : z.1 0 ≠ 2 := hJ.2 0 (by decide)
  have hlt : ∀ i, i < 6 → z.1 i ≠ 7 := fun i hi => by have := hI i hi; omega
  obtain ⟨c1, c2, c3⟩ := cp_ok (z := z) hne
  obtain ⟨L1, L2⟩ := ke_lp 713 0 u rfl
  unfold v_X5_keep w_X5_keep v_X6_keep w_X6_keep
  rw [L1, L2]
  have key : ∀ x : CS, x.1 = z.1 → (∀ q, q ≠ 2 → x.2 q = z.2 q) → cpE (x.2 2) (z.2 (z.1 0)) → (w7 x 0 3 (1 : Int32)).2 ((w7 x 0 3 (1 : Int32)).1 0) 0 5 = u 1 0 ∧ RLz (w7 x 0 3 (1 : Int32)) (fun i q => if i = 4 ∧ 0 ≤ q ∧ q < 713 then u 1 q else up u 0 4 (1 : Int32) i q) := by
    intro x x1 x2 x3
    have y1 : (w7 x 0 3 (1 : Int32)).1 = z.1 := x1
    have y2 : ∀ q, q ≠ 7 → (w7 x 0 3 (1 : Int32)).2 q = x.2 q := fun q hq => upP_ne hq
    have y7 : ∀ t c, ¬ (t = 0 ∧ c = 3) → (w7 x 0 3 (1 : Int32)).2 7 t c = z.2 7 t c := fun t c hq => (w7_ne hq).trans (congrFun (congrFun (x2 7 (by decide)) t) c)
    have hu : ∀ i, i ≠ 4 → i ≠ 0 → (fun i q => if i = 4 ∧ 0 ≤ q ∧ q < 713 then u 1 q else up u 0 4 (1 : Int32) i q) i = u i := fun i h4 h0 => by
      funext q
      exact (if_neg (fun w => h4 w.1)).trans (up_ni h0)
    have hu0 : ∀ q, q ≠ 4 → (fun i q => if i = 4 ∧ 0 ≤ q ∧ q < 713 then u 1 q else up u 0 4 (1 : Int32) i q) 0 q = u 0 q := fun q hq => (if_neg (fun w => absurd w.1 (by decide))).trans (up_nk hq)
    refine ⟨?_, ?_, ?_, ?_, ⟨k, hk, ?_, ?_, fun i hi => ?_⟩, Or.inr ⟨?_, ?_, ?_⟩, ⟨n, hn, ?_, ?_, fun q hq => ?_⟩, ?_⟩
    · obtain ⟨hm, n', d, hB, -⟩ := hN
      rw [y1, y2 _ (hlt 0 (by decide)), x2 _ hne]; exact hB.1.2.1.2.2
    · rw [y1]; exact hI
    · rw [y1]; exact hJ
    · rw [y1, y2 _ (hlt 0 (by decide)), x2 _ hne, hu 1 (by decide) (by decide)]; exact hN
    · rw [y7 1 1 (by decide)]; exact h4
    · rw [hu0 6 (by decide)]; exact h5
    · rw [y1, y2 _ (hlt _ (by omega)), x2 _ (hJ.2 _ (by omega)), hu 5 (by decide) (by decide)]; exact h6 i hi
    · exact w7_same
    · exact (if_neg (fun w => absurd w.1 (by decide))).trans up_same
    · rw [y2 2 (by decide)]
      exact BR_s (BR_cp hN x3) (fun q hq => if_pos ⟨rfl, Nat.zero_le q, hq⟩)
    · rw [y2 8 (by decide), x2 8 (by decide)]; exact h8
    · rw [hu0 8 (by decide)]; exact h9
    · rw [y2 8 (by decide), x2 8 (by decide), hu 6 (by decide) (by decide)]; exact h10 q hq
    · unfold STP
      rw [y7 0 6 (by decide), y7 0 7 (by decide), y7 0 8 (by decide), hu0 9 (by decide), hu0 10 (by decide)]; exact h11
  exact key _ c1 c2 c3
theorem re_lp : ∀ (m k : Nat) (u : Nat → Nat → Int32), k + m = 713 → v_X6_restore_loop m k u = (if k = 0 then u 4 0 else u 1 0) ∧ w_X6_restore_loop m k u = fun i q => if i = 1 ∧ k ≤ q ∧ q < 713 then u 4 q else u i q := by
  intro m
  induction m with
  | zero =>
    intro k u hk
    refine ⟨by rw [if_neg (by omega)]; rfl, ?_⟩
    funext i q
    show u i q = _
    rw [if_neg (by omega)]
  | succ m ih =>
    intro k u hk
    obtain ⟨h1, h2⟩ := ih (k + 1) (up u 1 k (u 4 k)) (by omega)
    have e4 : up u 1 k (u 4 k) 4 = u 4 := up_oi (by decide)
    refine ⟨h1.trans ?_, h2.trans ?_⟩
    · rw [if_neg (by omega)]
      by_cases g : k = 0
      · subst g; rw [if_pos rfl, up_same]
      · rw [if_neg g, up_nk (by omega)]
    · funext i q
      rw [e4]
      by_cases g : i = 1 ∧ k + 1 ≤ q ∧ q < 713
      · rw [if_pos g, if_pos (by omega)]
      · rw [if_neg g]
        by_cases g2 : i = 1 ∧ q = k
        · obtain ⟨rfl, rfl⟩ := g2
          rw [if_pos (by omega), up_same]
        · rw [if_neg (by omega)]
          exact if_neg g2
theorem zB_self {x y : CS} {r : Nat} (h1 : x.1 = y.1) (h2 : ∀ q, q ≠ r → x.2 q = y.2 q) : x = zB y r (x.2 r) := by
  have e : x.2 = upP y.2 r (x.2 r) := by
    funext q
    by_cases g : q = r
    · subst g; exact upP_same.symm
    · rw [upP_ne g]; exact h2 q g
  exact Prod.ext h1 e
theorem M_restore (h : RLz z u) : v_X5_restore z = v_X6_restore u ∧ RLz (w_X5_restore z) (w_X6_restore u) := by
  obtain ⟨hI, hJ, hN, hH, h7, hT, h11⟩ := id h
  unfold v_X5_restore w_X5_restore v_X6_restore w_X6_restore
  rcases h7 with ⟨g1, g2⟩ | ⟨g1, g2, g3⟩
  · rw [if_pos g1, if_pos g1, if_pos g2, if_pos g2]
    exact ⟨rfl, h⟩
  · have n1 : ¬ z.2 7 0 3 = 0 := by rw [g1]; decide
    have n2 : ¬ u 0 4 = 0 := by rw [g2]; decide
    rw [if_neg n1, if_neg n1, if_neg n2, if_neg n2]
    have hne : z.1 0 ≠ z.1 1 := RJ_ne hJ (by decide) (by decide) (by decide)
    obtain ⟨s1, s2, s3⟩ := cp_ok (z := z) hne
    obtain ⟨L1, L2⟩ := re_lp 713 0 (w_X6_know u) rfl
    rw [L1, L2, if_pos rfl]
    have k4 : w_X6_know u 4 = u 4 := know_o (by decide) (by decide) (by decide)
    have key : ∀ y : CS, y = w_X5_startAct z → y.1 = z.1 → (∀ q, q ≠ z.1 1 → y.2 q = z.2 q) → v_X5_endAct (w_X1_copyFrom y (y.1 0) 2) ((w_X1_copyFrom y (y.1 0) 2).2 ((w_X1_copyFrom y (y.1 0) 2).1 0) 0 5) = w_X6_know u 4 0 ∧ RLz (w_X5_endAct (w_X1_copyFrom y (y.1 0) 2) ((w_X1_copyFrom y (y.1 0) 2).2 ((w_X1_copyFrom y (y.1 0) 2).1 0) 0 5)) (fun i q => if i = 1 ∧ 0 ≤ q ∧ q < 713 then w_X6_know u 4 q else w_X6_know u i q) := by
      intro y ey y1 y2
      rw [y1]
      obtain ⟨c1, c2, c3⟩ := cp_ok (z := y) (r := z.1 0) (r1 := 2) (Ne.symm (hJ.2 0 (by decide)))
      have fin : ∀ x : CS, x.1 = y.1 → (∀ q, q ≠ z.1 0 → x.2 q = y.2 q) → cpE (x.2 (z.1 0)) (y.2 2) → v_X5_endAct x (x.2 (x.1 0) 0 5) = w_X6_know u 4 0 ∧ RLz (w_X5_endAct x (x.2 (x.1 0) 0 5)) (fun i q => if i = 1 ∧ 0 ≤ q ∧ q < 713 then w_X6_know u 4 q else w_X6_know u i q) := by
        intro x x1 x2 x3
        have hB2 : BR (x.2 (z.1 0)) (u 4) := BR_cp g3 (by rw [y2 2 (Ne.symm (hJ.2 1 (by decide)))] at x3; exact x3)
        have e0 : x.1 0 = z.1 0 := by rw [x1, y1]
        have ed : x.2 (x.1 0) 0 5 = u 4 0 := by
          obtain ⟨hm, n', d, hB, -⟩ := hB2
          rw [e0]; exact hB.1.2.1.2.2
        rw [eA_v, ed, k4]
        refine ⟨rfl, ?_⟩
        rw [zB_self x1 x2, ey]
        refine act_know h uE.rf ?_ (fun i hi => ?_) ?_
        · obtain ⟨hm, n', d, hB, -⟩ := hB2
          rw [hB.1.2.1.1]
          exact nn (by have := hB.1.2.1.2.1; omega)
        · funext q
          exact if_neg (fun w => hi w.1)
        · exact BR_s hB2 (fun q hq => if_pos ⟨rfl, Nat.zero_le q, hq⟩)
      exact fin _ c1 c2 c3
    exact key _ rfl s1 s2
theorem RL_text {z' : CS} {u' : Nat → Nat → Int32} (h : RLz z u) (e1 : z'.1 = z.1) (e2 : ∀ q, q ≠ 8 → z'.2 q = z.2 q) (f1 : ∀ i, i ≠ 0 → i ≠ 6 → u' i = u i) (f0 : ∀ q, q ≠ 8 → u' 0 q = u 0 q) (hT : TXT (z'.2 8) u') : RLz z' u' := by
  obtain ⟨hI, hJ, hN, ⟨k, hk, h4, h5, h6⟩, h7, -, h11⟩ := h
  have hlt : ∀ i, i < 6 → z.1 i ≠ 8 := fun i hi => by have := hI i hi; omega
  refine ⟨?_, ?_, ?_, ⟨k, hk, ?_, ?_, fun i hi => ?_⟩, ?_, hT, ?_⟩
  · rw [e1]; exact hI
  · rw [e1]; exact hJ
  · rw [e1, e2 _ (hlt 0 (by decide)), f1 1 (by decide) (by decide)]; exact hN
  · rw [e2 7 (by decide)]; exact h4
  · rw [f0 6 (by decide)]; exact h5
  · rw [e1, e2 _ (hlt _ (by omega)), f1 5 (by decide) (by decide)]; exact h6 i hi
  · unfold SNP
    rw [e2 7 (by decide), e2 2 (by decide), f0 4 (by decide), f1 4 (by decide) (by decide)]; exact h7
  · unfold STP
    rw [e2 7 (by decide), f0 9 (by decide), f0 10 (by decide)]; exact h11
theorem M_type (h : RLz z u) (p1 : Int32) : v_X5_type z p1 = v_X6_type u p1 ∧ RLz (w_X5_type z p1) (w_X6_type u p1) := by
  obtain ⟨n, hn, h8, h9, h10⟩ := h.2.2.2.2.2.1
  unfold v_X5_type w_X5_type v_X6_type w_X6_type
  rw [ite_self]
  unfold v_X4_add w_X4_add
  rw [h8, h9, if_neg (nn (by omega)), if_neg (nn (by omega)), nI_clamp (by omega), nI_1]
  have sU : sN (u 0) 8 = n := (sN_of h9 (by omega)).2
  rw [sU]
  by_cases g : n = 60
  · subst g
    rw [if_neg (show ¬ nI 60 < (60 : Int32) by decide), if_neg (show ¬ nI 60 < (60 : Int32) by decide), if_pos (show (0 : Int32) = 0 from rfl), if_pos (show nI 60 = (60 : Int32) from rfl), if_pos (show nI 60 = (60 : Int32) from rfl)]
    refine ⟨rfl, RL_text h rfl (fun q hq => upP_ne hq) (fun _ _ _ => rfl) (fun _ _ => rfl) ?_⟩
    rw [wz_same]
    exact ⟨60, hn, h8, h9, h10⟩
  · have g1 : nI n < (60 : Int32) := nI_lt (b := 60) (by omega) (by decide)
    have g2 : ¬ nI n = (60 : Int32) := fun e => g ((nI_eq (b := 60) (by omega) (by decide)).mp e)
    rw [if_pos g1, if_pos g1, if_neg (by decide), if_neg g2, if_neg g2, wz_same]
    refine ⟨up_same, RL_text h rfl (fun q hq => upP_ne hq) (fun i h0 h6 => ?_) (fun q hq => ?_) ?_⟩
    · rw [up_oi h0, up_oi h6]
    · rw [up_nk hq, up_ni (by decide)]
    · rw [wz_same]
      refine ⟨n + 1, by omega, up_same, up_same, fun q hq => ?_⟩
      rw [up_ni (M := up (z.2 8) 1 n p1) (by decide), up_ni (M := up u 6 n p1) (by decide)]
      by_cases e : q = n
      · subst e; rw [up_same, up_same]
      · rw [up_nk e, up_nk e]; exact h10 q (by omega)
theorem M_clearText (h : RLz z u) : v_X5_clearText z = v_X6_clearText u ∧ RLz (w_X5_clearText z) (w_X6_clearText u) := by
  obtain ⟨n, hn, h8, h9, h10⟩ := h.2.2.2.2.2.1
  refine ⟨h8.trans h9.symm, RL_text h rfl (fun q hq => upP_ne hq) (fun i h0 _ => up_oi h0) (fun q hq => up_nk hq) ?_⟩
  have e : (w_X5_clearText z).2 8 = up (z.2 8) 0 1 (0 : Int32) := wz_same
  rw [e]
  exact ⟨0, by omega, up_same, up_same, fun q hq => absurd hq (by omega)⟩
theorem RL_spare {z' : CS} (h : RLz z u) (e1 : z'.1 = z.1) (e2 : ∀ q, q ≠ z.1 1 → z'.2 q = z.2 q) : RLz z' u := by
  obtain ⟨hI, hJ, hN, ⟨k, hk, h4, h5, h6⟩, h7, hT, h11⟩ := h
  have hlt := hI 1 (by decide)
  refine ⟨?_, ?_, ?_, ⟨k, hk, ?_, h5, fun i hi => ?_⟩, ?_, ?_, ?_⟩
  · rw [e1]; exact hI
  · rw [e1]; exact hJ
  · rw [e1, e2 _ (RJ_ne hJ (by decide) (by decide) (by decide))]; exact hN
  · rw [e2 7 (by omega)]; exact h4
  · rw [e1, e2 _ (RJ_ne hJ (by omega) (by decide) (by omega))]; exact h6 i hi
  · unfold SNP
    rw [e2 7 (by omega), e2 2 (Ne.symm (hJ.2 1 (by decide)))]; exact h7
  · rw [e2 8 (by omega)]; exact hT
  · unfold STP
    rw [e2 7 (by omega)]; exact h11
end MP
