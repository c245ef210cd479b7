section MPf
variable {z : CS} {u : Nat → Nat → Int32}
theorem RL_8 (h : RLz z u) {T : Nat → Nat → Int32} (hT : TXT T u) : RLz (zB z 8 T) u := RL_text h rfl (fun q hq => wz_ne hq) (fun _ _ _ => rfl) (fun _ _ => rfl) (by rw [wz_same]; exact hT)
theorem RL_7 (h : RLz z u) {P : Nat → Nat → Int32} {u' : Nat → Nat → Int32} (h11 : P 1 1 = z.2 7 1 1) (h03 : P 0 3 = z.2 7 0 3) (f1 : ∀ i, i ≠ 0 → u' i = u i) (f0 : ∀ q, q ≠ 9 → q ≠ 10 → u' 0 q = u 0 q) (hS : P 0 6 = (1 : Int32) ∧ u' 0 9 = P 0 7 ∧ u' 0 10 = P 0 8) : RLz (zB z 7 P) u' := by
  obtain ⟨hI, hJ, hN, ⟨k, hk, h4, h5, h6⟩, h7, ⟨n, hn, h8, h9, h10⟩, -⟩ := h
  have hlt : ∀ i, i < 6 → z.1 i ≠ 7 := fun i hi => by have := hI i hi; omega
  have e1 : (zB z 7 P).1 = z.1 := rfl
  refine ⟨hI, hJ, ?_, ⟨k, hk, ?_, ?_, fun i hi => ?_⟩, ?_, ⟨n, hn, ?_, ?_, fun q hq => ?_⟩, ?_⟩
  · rw [e1, wz_ne (hlt 0 (by decide)), f1 1 (by decide)]; exact hN
  · rw [wz_same, h11]; exact h4
  · rw [f0 6 (by decide) (by decide)]; exact h5
  · rw [e1, wz_ne (hlt _ (by omega)), f1 5 (by decide)]; exact h6 i hi
  · unfold SNP
    rw [wz_same, h03, wz_ne (by decide), f0 4 (by decide) (by decide), f1 4 (by decide)]; exact h7
  · rw [wz_ne (by decide)]; exact h8
  · rw [f0 8 (by decide) (by decide)]; exact h9
  · rw [wz_ne (by decide), f1 6 (by decide)]; exact h10 q hq
  · right
    rw [wz_same]; exact hS
theorem pf_lp : ∀ (m k : Nat) (u : Nat → Nat → Int32), k + m = 713 → v_X6_perform_loop m k u = (-4 : Int32) ∧ (∀ i, i ≠ 1 → w_X6_perform_loop m k u i = u i) ∧ ∀ q, q < 713 → w_X6_perform_loop m k u 1 q = if k ≤ q then u 3 q else u 1 q := by
  intro m
  induction m with
  | zero =>
    intro k u hk
    exact ⟨rfl, fun _ _ => rfl, fun q hq => (if_neg (by omega)).symm⟩
  | succ m ih =>
    intro k u hk
    obtain ⟨h1, h2, h3⟩ := ih (k + 1) (up u 1 k (u 3 k)) (by omega)
    refine ⟨h1, fun i hi => (h2 i hi).trans (up_oi hi), fun q hq => (h3 q hq).trans ?_⟩
    rw [up_oi (show (3 : Nat) ≠ 1 by decide)]
    by_cases g : k + 1 ≤ q
    · rw [if_pos g, if_pos (by omega)]
    · rw [if_neg g]
      by_cases g2 : q = k
      · subst g2; rw [if_pos (Nat.le_refl q), up_same]
      · rw [if_neg (by omega), up_nk g2]
theorem pf_fin (h : RLz z u) {n : Nat} {U0 : Nat → Nat → Int32} (u1 : ∀ i, i ≠ 0 → i ≠ 7 → U0 i = u i) (u0 : ∀ k, k ≠ 11 → k ≠ 12 → k ≠ 14 → U0 0 k = u 0 k) {V : Nat → Nat → Int32} (hG : (∀ k, k ≠ 11 → k ≠ 12 → k ≠ 14 → V 0 k = U0 0 k) ∧ (∀ i, i ≠ 0 → i ≠ 1 → i ≠ 2 → i ≠ 3 → i ≠ 7 → V i = U0 i) ∧ ∀ q, q < 713 → V 3 q = u 1 q)
    (Y : CS) (y1 : Y.1 = z.1) (yo : ∀ q, q ≠ z.1 0 → q ≠ z.1 1 → q ≠ 7 → q ≠ 8 → Y.2 q = z.2 q) (yc : cpE (Y.2 (z.1 1)) (z.2 (z.1 0))) {X A : Int32} {K : Nat} (hK : K ≤ 1000) (hX : X = nI K) (hTX : TXn (Y.2 8) V n)
    (hE : (A = nI K ∧ V 0 14 = 0 ∧ BR (Y.2 (z.1 0)) (V 1) ∧ Y.2 7 = z.2 7) ∨ (A = (-4 : Int32) ∧ V 0 14 < 0 ∧ Y.2 7 = up (up (up (z.2 7) 0 6 (1 : Int32)) 0 7 (nI K)) 0 8 (V 0 14))) :
    A = (if 0 ≤ V 0 14 then X else v_X6_perform_loop 713 0 (up (up V 0 9 X) 0 10 (V 0 14))) ∧ RLz (w_X5_endAct Y A) (if 0 ≤ V 0 14 then w_X6_records V else w_X6_perform_loop 713 0 (up (up V 0 9 X) 0 10 (V 0 14))) := by
  obtain ⟨g0, g1, g3⟩ := hG
  have hT8 : TXT (Y.2 8) u := by
    obtain ⟨a1, a2, a3, a4⟩ := hTX
    refine ⟨n, a1, a2, ?_, fun q hq => ?_⟩
    · rw [← a3, g0 8 (by decide) (by decide) (by decide), u0 8 (by decide) (by decide) (by decide)]
    · rw [a4 q hq, g1 6 (by decide) (by decide) (by decide) (by decide) (by decide), u1 6 (by decide) (by decide)]
  have hI := h.1
  have hJ := h.2.1
  rcases hE with ⟨e1, e2, e3, e4⟩ | ⟨e1, e2, e3⟩
  · rw [e2, if_pos (by decide), if_pos (by decide), hX, e1]
    refine ⟨rfl, act_okY (z := zB z 8 (Y.2 8)) (RL_8 h hT8) (W := Y.2 (z.1 0)) ⟨y1, rfl, fun q q1 q2 => ?_, ?_⟩ (nn (by omega)) ?_ ?_ ⟨?_, ?_, fun k hk => ?_⟩⟩
    · by_cases c8 : q = 8
      · subst c8; exact wz_same.symm
      · rw [wz_ne c8]
        by_cases c7 : q = 7
        · subst c7; exact e4
        · exact yo q q1 q2 c7 c8
    · have h8 : z.1 0 ≠ 8 := by have := hI 0 (by decide); omega
      show cpE (Y.2 (z.1 1)) ((zB z 8 (Y.2 8)).2 (z.1 0))
      rw [wz_ne h8]; exact yc
    · rw [records_o (by decide) (by decide)]; exact e3
    · obtain ⟨k, hk, h6⟩ := RL_KI h
      exact rec_KH hk h6 ((g0 6 (by decide) (by decide) (by decide)).trans (u0 6 (by decide) (by decide) (by decide))) ((g1 5 (by decide) (by decide) (by decide) (by decide) (by decide)).trans (u1 5 (by decide) (by decide))) g3
    · rw [records_o (by decide) (by decide), g1 4 (by decide) (by decide) (by decide) (by decide) (by decide), u1 4 (by decide) (by decide)]
    · rw [records_o (by decide) (by decide), g1 6 (by decide) (by decide) (by decide) (by decide) (by decide), u1 6 (by decide) (by decide)]
    · rw [rec_0 (by omega), g0 k (by omega) (by omega) (by omega), u0 k (by omega) (by omega) (by omega)]
  · have hn : ¬ 0 ≤ V 0 14 := Int32.not_le.mpr e2
    obtain ⟨p1, p2, p3⟩ := pf_lp 713 0 (up (up V 0 9 X) 0 10 (V 0 14)) rfl
    rw [if_neg hn, if_neg hn, p1, e1]
    have hP3 : up (up V 0 9 X) 0 10 (V 0 14) 3 = V 3 := (up_oi (by decide)).trans (up_oi (by decide))
    have hPo : ∀ i, i ≠ 0 → i ≠ 1 → w_X6_perform_loop 713 0 (up (up V 0 9 X) 0 10 (V 0 14)) i = V i := fun i h0 h1 => (p2 i h1).trans ((up_oi h0).trans (up_oi h0))
    have hP0 : w_X6_perform_loop 713 0 (up (up V 0 9 X) 0 10 (V 0 14)) 0 = up (up V 0 9 X) 0 10 (V 0 14) 0 := p2 0 (by decide)
    have hB7 : RLz (zB (zB z 8 (Y.2 8)) 7 (Y.2 7)) (up (up u 0 9 X) 0 10 (V 0 14)) := by
      refine RL_7 (RL_8 h hT8) ?_ ?_ (fun i hi => (up_oi hi).trans (up_oi hi)) (fun q h9 h10 => (up_nk h10).trans (up_nk h9)) ⟨?_, ?_, ?_⟩
      · rw [e3, wz_ne (by decide), up_ni (by decide), up_ni (by decide), up_ni (by decide)]
      · rw [e3, wz_ne (by decide), up_nk (by decide), up_nk (by decide), up_nk (by decide)]
      · rw [e3, up_nk (by decide), up_nk (by decide), up_same]
      · rw [e3, up_nk (by decide), up_same, up_nk (by decide), up_same, hX]
      · rw [e3, up_same, up_same]
    refine ⟨rfl, act_noY (W := Y.2 (z.1 0)) hB7 ⟨y1, rfl, fun q q1 q2 => ?_, ?_⟩ (by decide) ⟨fun q hq => ?_, ?_, ?_, ?_, fun k hk => ?_⟩⟩
    · by_cases c7 : q = 7
      · subst c7; exact wz_same.symm
      · rw [wz_ne c7]
        by_cases c8 : q = 8
        · subst c8; exact wz_same.symm
        · rw [wz_ne c8]; exact yo q q1 q2 c7 c8
    · have h7 : z.1 0 ≠ 7 := by have := hI 0 (by decide); omega
      have h8 : z.1 0 ≠ 8 := by have := hI 0 (by decide); omega
      show cpE (Y.2 (z.1 1)) ((zB (zB z 8 (Y.2 8)) 7 (Y.2 7)).2 (z.1 0))
      rw [wz_ne h7, wz_ne h8]; exact yc
    · rw [p3 q hq, if_pos (Nat.zero_le q), hP3, g3 q hq]
      exact ((up_ni (by decide)).trans (up_ni (by decide))).symm
    · rw [hPo 5 (by decide) (by decide), g1 5 (by decide) (by decide) (by decide) (by decide) (by decide), u1 5 (by decide) (by decide)]
      exact ((up_oi (by decide)).trans (up_oi (by decide))).symm
    · rw [hPo 4 (by decide) (by decide), g1 4 (by decide) (by decide) (by decide) (by decide) (by decide), u1 4 (by decide) (by decide)]
      exact ((up_oi (by decide)).trans (up_oi (by decide))).symm
    · rw [hPo 6 (by decide) (by decide), g1 6 (by decide) (by decide) (by decide) (by decide) (by decide), u1 6 (by decide) (by decide)]
      exact ((up_oi (by decide)).trans (up_oi (by decide))).symm
    · rw [hP0]
      by_cases k9 : k = 9
      · subst k9; rw [up_nk (by decide), up_same, up_nk (by decide), up_same]
      · by_cases k10 : k = 10
        · subst k10; rw [up_same, up_same]
        · rw [up_nk k10, up_nk k9, up_nk k10, up_nk k9, g0 k (by omega) (by omega) (by omega), u0 k (by omega) (by omega) (by omega)]
theorem sA_all {z : CS} (hJ : RJ z.1) : (w_X5_startAct z).1 = z.1 ∧ (∀ q, q ≠ z.1 1 → (w_X5_startAct z).2 q = z.2 q) ∧ cpE ((w_X5_startAct z).2 (z.1 1)) (z.2 (z.1 0)) := cp_ok (RJ_ne hJ (by decide) (by decide) (by decide))
theorem M_perform (h : RLz z u) : v_X5_perform z = v_X6_perform u ∧ RLz (w_X5_perform z) (w_X6_perform u) := by
  have hI := h.1
  have hJ := h.2.1
  have hLI := RL_LI h
  have hm := RL_SI h
  obtain ⟨n, hn, h8, h9, h10⟩ := h.2.2.2.2.2.1
  have hT0 : TR (w_X4_goToStart (z.2 8)) (gst u) n 0 := by
    refine ⟨Nat.zero_le n, hn, (up_nk (by decide)).trans h8, ?_, up_same, ?_, fun q hq => ?_⟩
    · exact (up_nk (by decide)).trans ((up_nk (by decide)).trans ((up_nk (by decide)).trans h9))
    · exact (up_nk (by decide)).trans ((up_nk (by decide)).trans up_same)
    · exact (up_ni (by decide)).trans ((h10 q hq).trans (((up_ni (by decide)).trans ((up_ni (by decide)).trans (up_ni (by decide))))).symm)
  obtain ⟨p', hTR, hF⟩ := ff_lp 60 0 0 (w_X4_goToStart (z.2 8)) (gst u) (0 : Int32) hT0 gst_fl (by decide)
  have hTR : TR (w_X4_findFault (z.2 8)) (w_X6_goes u (0 : Int32)) n p' := hTR
  have hF : (v_X4_findFault (z.2 8) = (-1 : Int32) ∧ w_X6_goes u (0 : Int32) 0 12 = 0) ∨ (v_X4_findFault (z.2 8) = nI p' ∧ w_X6_goes u (0 : Int32) 0 12 = (1 : Int32)) := hF
  have u1 : ∀ i, i ≠ 0 → i ≠ 7 → w_X6_goes u (0 : Int32) i = u i := fun i a b => goes0_o hLI a b
  have u0 := (goes0_GK hLI).1
  have hT8 : TXT (w_X4_findFault (z.2 8)) u := by
    obtain ⟨a1, a2, a3, a4⟩ := TR_TX hTR
    refine ⟨n, a1, a2, ?_, fun q hq => ?_⟩
    · rw [← a3, u0 8 (by decide) (by decide) (by decide)]
    · rw [a4 q hq, u1 6 (by decide) (by decide)]
  have hz1 := RL_8 h hT8
  unfold v_X5_perform w_X5_perform v_X6_perform w_X6_perform
  rcases hF with ⟨f1, f2⟩ | ⟨f1, f2⟩
  · have hPV := second_PV hLI f2
    have hG1 := goes1_all (second_LI hLI) (second_SI hLI hm) hPV
    rw [if_pos f1, if_pos f1, if_pos f2, if_pos f2, eA_v]
    have hp6 : p' ≤ 60 := by have := hTR.1; have := hTR.2.1; omega
    have l0 : w_X6_looks (w_X6_goes u (0 : Int32)) 0 = w_X6_goes u (0 : Int32) 0 := looks_o (by decide)
    have l6 : w_X6_looks (w_X6_goes u (0 : Int32)) 6 = w_X6_goes u (0 : Int32) 6 := looks_o (by decide)
    have l1 : w_X6_looks (w_X6_goes u (0 : Int32)) 1 = u 1 := (looks_o (by decide)).trans (u1 1 (by decide) (by decide))
    have l3 : ∀ q, q < 713 → w_X6_looks (w_X6_goes u (0 : Int32)) 3 q = u 1 q := fun q hq => (looks_3 hq).trans (congrFun (u1 1 (by decide) (by decide)) q)
    have key : ∀ y : CS, y.1 = z.1 → y.2 (z.1 0) = z.2 (z.1 0) → (∀ q, q ≠ z.1 1 → q ≠ 8 → y.2 q = z.2 q) → y.2 8 = w_X4_findFault (z.2 8) → cpE (y.2 (z.1 1)) (z.2 (z.1 0)) →
        v_X5_doAllThings y = (if 0 ≤ (w_X6_goes (w_X6_looks (w_X6_goes u (0 : Int32))) (1 : Int32)) 0 14 then (v_X6_goes (w_X6_looks (w_X6_goes u (0 : Int32))) (1 : Int32)) else v_X6_perform_loop 713 0 (up (up (w_X6_goes (w_X6_looks (w_X6_goes u (0 : Int32))) (1 : Int32)) 0 9 (v_X6_goes (w_X6_looks (w_X6_goes u (0 : Int32))) (1 : Int32))) 0 10 ((w_X6_goes (w_X6_looks (w_X6_goes u (0 : Int32))) (1 : Int32)) 0 14))) ∧ RLz (w_X5_endAct (w_X5_doAllThings y) (v_X5_doAllThings y)) (if 0 ≤ (w_X6_goes (w_X6_looks (w_X6_goes u (0 : Int32))) (1 : Int32)) 0 14 then (w_X6_records (w_X6_goes (w_X6_looks (w_X6_goes u (0 : Int32))) (1 : Int32))) else w_X6_perform_loop 713 0 (up (up (w_X6_goes (w_X6_looks (w_X6_goes u (0 : Int32))) (1 : Int32)) 0 9 (v_X6_goes (w_X6_looks (w_X6_goes u (0 : Int32))) (1 : Int32))) 0 10 ((w_X6_goes (w_X6_looks (w_X6_goes u (0 : Int32))) (1 : Int32)) 0 14))) := by
      intro y y1 y0 yo y8 yc
      have g1 : gst (w_X6_looks (w_X6_goes u (0 : Int32))) 1 = u 1 := ((up_oi (by decide)).trans ((up_oi (by decide)).trans (up_oi (by decide)))).trans l1
      have h8' := u0 8 (by decide) (by decide) (by decide)
      have t8 : TR ((zB y 8 (w_X4_goToStart (y.2 8))).2 8) (gst (w_X6_looks (w_X6_goes u (0 : Int32)))) n 0 := by
        rw [wz_same, y8]
        obtain ⟨a1, a2, a3, a4, a5, a6, a7⟩ := hTR
        refine ⟨Nat.zero_le n, hn, (up_nk (by decide)).trans a3, ?_, up_same, ?_, fun q hq => ?_⟩
        · exact (up_nk (by decide)).trans ((up_nk (by decide)).trans ((up_nk (by decide)).trans (by rw [l0]; exact a4)))
        · exact (up_nk (by decide)).trans ((up_nk (by decide)).trans up_same)
        · refine (up_ni (by decide)).trans ((a7 q hq).trans ?_)
          refine ((congrFun (((up_oi (by decide)).trans ((up_oi (by decide)).trans (up_oi (by decide)))) : gst (w_X6_looks (w_X6_goes u (0 : Int32))) 6 = _) q).trans ?_).symm
          rw [l6]
      have r0 : z.1 0 < 7 := hI 0 (by decide)
      have x1 : (zB y 8 (w_X4_goToStart (y.2 8))).1 = z.1 := y1
      have x0 : (zB y 8 (w_X4_goToStart (y.2 8))).2 (z.1 0) = z.2 (z.1 0) := (wz_ne (by omega)).trans y0
      have xo : ∀ q, q ≠ z.1 1 → q ≠ 8 → (zB y 8 (w_X4_goToStart (y.2 8))).2 q = z.2 q := fun q q1 q2 => (wz_ne q2).trans (yo q q1 q2)
      have r1 : z.1 1 < 7 := hI 1 (by decide)
      have xc : cpE ((zB y 8 (w_X4_goToStart (y.2 8))).2 (z.1 1)) (z.2 (z.1 0)) := by rw [wz_ne (by omega)]; exact yc
      have eV : v_X5_doAllThings y = v_X5_doAllThings_loop 60 0 (zB y 8 (w_X4_goToStart (y.2 8))) := rfl
      have eW : w_X5_doAllThings y = w_X5_doAllThings_loop 60 0 (zB y 8 (w_X4_goToStart (y.2 8))) := rfl
      rw [eV, eW]
      generalize zB y 8 (w_X4_goToStart (y.2 8)) = x at t8 x1 x0 xo xc
      obtain ⟨K, K1, K2, K3, K4, K5, K6⟩ := da_lp 60 0 0 x (gst (w_X6_looks (w_X6_goes u (0 : Int32)))) t8 gst_fl (by decide) hPV (by rw [x1, x0, g1]; exact h.2.2.1) (by rw [x1]; exact r0)
      rw [x1] at K3 K4 K6
      have x7 : x.2 7 = z.2 7 := xo 7 (by omega) (by decide)
      rw [x7] at K6
      refine pf_fin (n := n) h (U0 := w_X6_goes u (0 : Int32)) u1 u0 ⟨fun k a b c => ?_, fun i a b c d e => ?_, fun q hq => ?_⟩ _ K3 (fun q q1 q2 q3 q4 => (K4 q q1 q3 q4).trans (xo q q2 q4)) ?_ (K := K) (by omega) K2 K5 K6
      · exact (hG1.1.1 k a b c).trans (congrFun l0 k)
      · exact (hG1.1.2.1 i a b c e).trans (looks_o d)
      · exact (congrFun (hG1.1.2.1 3 (by decide) (by decide) (by decide) (by decide)) q).trans (l3 q hq)
      · rw [K4 (z.1 1) (Ne.symm (RJ_ne hJ (by decide) (by decide) (by decide))) (by omega) (by omega)]; exact xc
    have hne : z.1 0 ≠ z.1 1 := RJ_ne hJ (by decide) (by decide) (by decide)
    have r1 : z.1 1 < 7 := hI 1 (by decide)
    have r0 : z.1 0 < 7 := hI 0 (by decide)
    obtain ⟨c1, c2, c3⟩ := sA_all (z := zB z 8 (w_X4_findFault (z.2 8))) hJ
    have e1 : (zB z 8 (w_X4_findFault (z.2 8))).1 = z.1 := rfl
    rw [e1] at c1 c2 c3
    have e0 : (zB z 8 (w_X4_findFault (z.2 8))).2 (z.1 0) = z.2 (z.1 0) := wz_ne (by omega)
    have e8 : (zB z 8 (w_X4_findFault (z.2 8))).2 8 = w_X4_findFault (z.2 8) := wz_same
    have eo : ∀ q, q ≠ 8 → (zB z 8 (w_X4_findFault (z.2 8))).2 q = z.2 q := fun q hq => wz_ne hq
    rw [e0] at c3
    have d0 := c2 (z.1 0) hne
    rw [e0] at d0
    have d8 := c2 8 (by omega)
    rw [e8] at d8
    have dq : ∀ q, q ≠ z.1 1 → q ≠ 8 → (w_X5_startAct (zB z 8 (w_X4_findFault (z.2 8)))).2 q = z.2 q := fun q q1 q2 => by rw [c2 q q1, eo q q2]
    exact key (w_X5_startAct (zB z 8 (w_X4_findFault (z.2 8)))) c1 d0 dq d8 c3
  · have hn1 : ¬ v_X4_findFault (z.2 8) = (-1 : Int32) := by
      rw [f1]; exact nI_nm (by have := hTR.1; have := hTR.2.1; omega) (by decide)
    have hn2 : ¬ w_X6_goes u (0 : Int32) 0 12 = 0 := by rw [f2]; decide
    rw [if_neg hn1, if_neg hn1, if_neg hn2, if_neg hn2, f1, hTR.2.2.2.2.2.1]
    exact ⟨rfl, RLz_u hz1 ⟨fun q _ => congrFun (u1 1 (by decide) (by decide)) q, u1 5 (by decide) (by decide), u1 4 (by decide) (by decide), u1 6 (by decide) (by decide), fun k hk => u0 k (by omega) (by omega) (by omega)⟩⟩
end MPf
