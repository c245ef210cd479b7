/-! what would be is tried, and undone -/
theorem low_e (x : Int32) {n : Nat} (h0 : 0 < n) (hn : n < 2 ^ 31) : ∃ t : Nat, t < n ∧ v_L_low x (nI n) = nI t := by
  obtain ⟨j, hj, ej⟩ := pk_andE x (m := (2147483647 : Int32)) 31 (by decide)
  refine ⟨j % n, Nat.mod_lt _ h0, ?_⟩
  unfold v_L_low
  rw [ej, pk_rem hj h0 hn]
section TR
variable {z : CS} {k : Nat}
theorem up4_p (k : Nat) : ∃ q : Nat, up4 k = q + 1 ∧ up4 k - 1 = q := by
  unfold up4
  split
  · exact ⟨3, rfl, rfl⟩
  · exact ⟨k, rfl, rfl⟩
theorem UN {b : Nat → Nat → Int32} (h : NV z (up4 k)) (ht : cpE (z.2 (z.1 (2 + (up4 k - 1)))) b) : ¬ v_X5_undo z < 0 ∧ NV (w_X5_undo z) (up4 k - 1) ∧ cpE ((w_X5_undo z).2 ((w_X5_undo z).1 0)) b := by
  obtain ⟨q, e1, e2⟩ := up4_p k
  rw [e2] at ht ⊢
  rw [e1] at h
  have h4 := h.2.2.2.1
  obtain ⟨u1, u2, u3⟩ := NV_undo h
  rw [u1, u3]
  exact ⟨nI_pos (by omega), u2, ht⟩
theorem P_pay (h : NV z k) {p1 p2 : Int32} (ha : ¬ v_X1_takePayment (z.2 (z.1 0)) p1 p2 < 0) : v_X5_pay z p1 p2 = v_X1_takePayment (z.2 (z.1 0)) p1 p2 ∧ NV (w_X5_pay z p1 p2) (up4 k) ∧ (w_X5_pay z p1 p2).2 ((w_X5_pay z p1 p2).1 0) = w_X1_takePayment (z.2 (z.1 0)) p1 p2 ∧ cpE ((w_X5_pay z p1 p2).2 ((w_X5_pay z p1 p2).1 (2 + (up4 k - 1)))) (z.2 (z.1 0)) := by
  obtain ⟨n, d, hK⟩ := h.2.2.1
  obtain ⟨e1, e2⟩ := e_pay h.2.1 p1 p2
  rw [e2]
  exact ⟨e1, NV_ok h (mid h.1 h.2.1) ha ⟨n, d, K_pay hK p1 p2 ha⟩⟩
theorem cv_lp {b : Nat → Nat → Int32} : ∀ (m k c : Nat), ∃ c' : Nat, c' ≤ c + m ∧ v_X1_countOverdue_loop b m k (nI c) = nI c' := by
  intro m
  induction m with
  | zero => intro k c; exact ⟨c, Nat.le_refl _, rfl⟩
  | succ m ih =>
    intro k c
    rw [v_X1_countOverdue_loop.eq_2]
    by_cases h : v_X0_isOverdue b k (b 0 5) = 0
    · obtain ⟨c', h1, h2⟩ := ih (k + 1) c
      rw [if_pos h, Int32.add_zero]
      exact ⟨c', by omega, h2⟩
    · obtain ⟨c', h1, h2⟩ := ih (k + 1) (c + 1)
      rw [if_neg h, nI_1]
      exact ⟨c', by omega, h2⟩
theorem P_pass (h : NV z k) {n d q : Nat} (hK : KI (z.2 (z.1 0)) n d) (h1 : 1 ≤ q) (h2 : q ≤ 99) (h3 : d + q ≤ 9999) : ¬ v_X5_pass z (nI q) < 0 ∧ NV (w_X5_pass z (nI q)) (up4 k) ∧ (w_X5_pass z (nI q)).2 ((w_X5_pass z (nI q)).1 0) = up (z.2 (z.1 0)) 0 5 (nI (d + q)) ∧ KI (up (z.2 (z.1 0)) 0 5 (nI (d + q))) n (d + q) ∧ cpE ((w_X5_pass z (nI q)).2 ((w_X5_pass z (nI q)).1 (2 + (up4 k - 1)))) (z.2 (z.1 0)) := by
  obtain ⟨e1, e2⟩ := e_pass h.2.1 (nI q)
  have z1 : ¬ nI q < (1 : Int32) := fun z => absurd ((nI_ltI (b := 1) (by omega) (by decide)).mp z) (by omega)
  have z2 : nI q ≤ (99 : Int32) := (nI_leI (b := 99) (by omega) (by decide)).mpr h2
  have z3 : nI (d + q) ≤ (9999 : Int32) := (nI_leI (b := 9999) (by omega) (by decide)).mpr h3
  have eW : w_X1_goOn (z.2 (z.1 0)) (nI q) = up (z.2 (z.1 0)) 0 5 (nI (d + q)) := by
    unfold w_X1_goOn
    rw [if_neg z1, if_pos z2, hK.1.2.2, nI_add, if_pos z3]
  have eV : ¬ v_X1_goOn (z.2 (z.1 0)) (nI q) < 0 := by
    unfold v_X1_goOn
    rw [if_neg z1, if_pos z2, hK.1.2.2, nI_add, if_pos z3]
    obtain ⟨c, c1, c2⟩ := cv_lp (b := up (z.2 (z.1 0)) 0 5 (nI (d + q))) 40 0 0
    have c3 : v_X1_countOverdue (up (z.2 (z.1 0)) 0 5 (nI (d + q))) = nI c := c2
    rw [c3]
    exact nI_pos (by omega)
  obtain ⟨y, y1, y2, y3⟩ := hK.2.1
  have hW : KI (up (z.2 (z.1 0)) 0 5 (nI (d + q))) n (d + q) := KI_0 hK (fun i hi _ => up_oi hi) (Nat.le_add_right d q) h3 up_same ⟨y, by omega, (up_nk (by decide)).trans y2, fun k hk => by rw [up_oi (by decide)]; exact y3 k hk⟩
  obtain ⟨a1, a2, a3⟩ := NV_ok h (mid h.1 h.2.1 (W := w_X1_goOn (z.2 (z.1 0)) (nI q))) eV ⟨n, d + q, by rw [eW]; exact hW⟩
  rw [e1, e2]
  exact ⟨eV, a1, a2.trans eW, hW, a3⟩
theorem BN_c {x x' : Nat → Int32} {d d' st cu ne tx ra wr du pd dc fe rm lt lp : Nat} (h : BN x d st cu ne tx ra wr du pd dc fe rm lt lp) (he : ∀ k, k < 14 → x' k = x k) (hd : d ≤ d') : BN x' d' st cu ne tx ra wr du pd dc fe rm lt lp := by
  obtain ⟨⟨h0, h1, h2, h3, h4, h5, h6, h7, h8, h9, h10, h11, h12, h13⟩, ⟨g0, g1, g2, g3, g4, g5, g6, g7, g8, g9, g10, g11⟩, k1, k2, k3, k4⟩ := h
  exact ⟨⟨(he 0 (by decide)).trans h0, (he 1 (by decide)).trans h1, (he 2 (by decide)).trans h2, (he 3 (by decide)).trans h3, (he 4 (by decide)).trans h4, (he 5 (by decide)).trans h5, (he 6 (by decide)).trans h6, (he 7 (by decide)).trans h7, (he 8 (by decide)).trans h8, (he 9 (by decide)).trans h9, (he 10 (by decide)).trans h10, (he 11 (by decide)).trans h11, (he 12 (by decide)).trans h12, (he 13 (by decide)).trans h13⟩, ⟨g0, g1, g2, g3, g4, g5, by omega, g7, g8, by omega, by omega, g11⟩, k1, k2, k3, k4⟩
/-- the reason, some days later -/
theorem why_p {y : CS} {b : Nat → Nat → Int32} {n d d' j w st cu ne tx ra wr du pd dc fe rm lt lp : Nat} (hy : y.2 (y.1 0) = up b 0 5 (nI d')) (hK : KI (up b 0 5 (nI d')) n d') (hj : j < n) (hd : d ≤ d') (hw : b 6 2 = nI w) (hw2 : w ≤ 99) (hN : BN (b (j + 7)) d st cu ne tx ra wr du pd dc fe rm lt lp) : v_X5_reason y (nI j) = (if st = 1 then (1 : Int32) else if st = 2 then (2 : Int32) else if ¬ wr + du < d' then (3 : Int32) else if rm < 3 then (if rD w wr du rm lt ≤ d' then (0 : Int32) else (5 : Int32)) else (4 : Int32)) := by
  have hb : v_X1_billAt (y.2 (y.1 0)) (nI j) = some j := by rw [hy]; exact billAt_1 hK hj
  have hN' : BN (up b 0 5 (nI d') (j + 7)) d' st cu ne tx ra wr du pd dc fe rm lt lp := BN_c hN (fun k _ => congrFun (up_oi (by omega)) k) hd
  rw [rs_e hb, hy, show v_X3_reminderDays (up b 0 5 (nI d')) = nI w from (congrFun (up_oi (by decide)) 2).trans hw]
  exact why_e hK hw2 hN'
/-- the last days, up to the reminder -/
theorem t406 (h : NV z k) {n d j w m st cu ne tx ra wr du pd dc fe rm lt lp : Nat} (hK : KI (z.2 (z.1 0)) n d) (hj : j < n) (hw : z.2 (z.1 0) 6 2 = nI w) (hw1 : 1 ≤ w) (hw2 : w ≤ 99) (hN : BN (z.2 (z.1 0) (j + 7)) d st cu ne tx ra wr du pd dc fe rm lt lp) (hst : st = 0) (hrm : rm < 3) (hm : rD w wr du rm lt = m) (hdm : d < m) (hm9 : m ≤ 9999) (hm99 : m - d < 99) (x : Int32) : v_L_tries_t406_1 z x (nI j) (nI (m - d)) = 1 ∧ ∃ k', NV (w_L_tries_t406_1 z x (nI j) (nI (m - d))) k' := by
  obtain ⟨p1, p2, p3, p4, p5⟩ := P_pass h hK (q := m - d) (by omega) (by omega) (by omega)
  have ed : d + (m - d) = m := by omega
  rw [ed] at p3 p4
  have hr := why_p p3 p4 hj (by omega) hw hw2 hN
  have hov : wr + du < m := by
    have hk := hN.2.2.2.2.2
    unfold rD at hm
    split at hm
    · omega
    · have := hk (by omega)
      omega
  rw [if_neg (by omega), if_neg (by omega), if_neg (fun q => q hov), if_pos hrm, if_pos (by omega)] at hr
  obtain ⟨u1, u2, u3⟩ := UN p2 p5
  unfold v_L_tries_t406_1 w_L_tries_t406_1
  rw [if_neg p1, if_neg p1, if_pos hr, if_pos hr, if_neg u1, if_neg u1]
  exact ⟨rfl, _, u2⟩
theorem t337 (h : NV z k) {n d j : Nat} (hK : KI (z.2 (z.1 0)) n d) (hj : j < n) (x : Int32) : v_L_tries_t337_1 z x (nI j) (v_X5_nextReminder z (nI j)) = 1 ∧ ∃ k', NV (w_L_tries_t337_1 z x (nI j) (v_X5_nextReminder z (nI j))) k' := by
  have hd9 := hK.1.2.1
  obtain ⟨e, p, w, f, t, ⟨q1, q2, q3, q4, q5⟩, r1, r2, r3, r4, r5, r6⟩ := hK.2.2.1
  obtain ⟨st, cu, ne, tx, ra, wr, du, pd, dc, fe, rm, lt, lp, hN⟩ := hK.2.2.2.2.2.1 j hj
  have hx := nx_e hK hj q3 r4 hN
  have e0 : v_X5_count z (0 : Int32) = nI d := hK.1.2.2
  have no : ∀ y : Int32, (y = (-5 : Int32) ∨ y - nI d ≤ 0 ∨ (99 : Int32) ≤ y - nI d) → v_L_tries_t337_1 z x (nI j) y = 1 ∧ ∃ k', NV (w_L_tries_t337_1 z x (nI j) y) k' := fun y hy => by
    unfold v_L_tries_t337_1 w_L_tries_t337_1
    rw [e0]
    by_cases g1 : y = (-5 : Int32)
    · rw [if_pos g1, if_pos g1]; exact ⟨rfl, k, h⟩
    rw [if_neg g1, if_neg g1]
    by_cases g2 : y - nI d ≤ 0
    · rw [if_pos g2, if_pos g2]; exact ⟨rfl, k, h⟩
    rw [if_neg g2, if_neg g2]
    have g3 := (hy.resolve_left g1).resolve_left g2
    rw [if_pos g3, if_pos g3]; exact ⟨rfl, k, h⟩
  by_cases c1 : st = 0 ∧ rm < 3
  case neg => rw [if_neg c1] at hx; rw [hx]; exact no _ (Or.inl rfl)
  rw [if_pos c1] at hx
  by_cases c2 : max d (rD w wr du rm lt) ≤ 9999
  case neg => rw [if_neg c2] at hx; rw [hx]; exact no _ (Or.inl rfl)
  rw [if_pos c2] at hx
  have hmd : d ≤ max d (rD w wr du rm lt) := Nat.le_max_left _ _
  rw [hx]
  by_cases c3 : d < max d (rD w wr du rm lt)
  case neg =>
    refine no _ (Or.inr (Or.inl ?_))
    rw [pk_sub (by omega), show max d (rD w wr du rm lt) - d = 0 by omega]; decide
  have hm : rD w wr du rm lt = max d (rD w wr du rm lt) := by omega
  generalize hmm : max d (rD w wr du rm lt) = m at *
  by_cases c4 : m - d < 99
  case neg =>
    refine no _ (Or.inr (Or.inr ?_))
    rw [pk_sub (by omega)]
    exact nI_le (a := 99) (by omega) (by omega)
  have es : nI m - nI d = nI (m - d) := pk_sub (by omega)
  have n5 : ¬ nI m = (-5 : Int32) := nI_nm (by omega) (by decide)
  unfold v_L_tries_t337_1 w_L_tries_t337_1
  rw [e0, es, if_neg n5, if_neg n5, if_neg (nI_nle (by omega) (by omega)), if_neg (nI_nle (by omega) (by omega)), if_neg (show ¬ (99 : Int32) ≤ nI (m - d) from nI_ge (b := 99) c4 (by decide)), if_neg (show ¬ (99 : Int32) ≤ nI (m - d) from nI_ge (b := 99) c4 (by decide))]
  by_cases c5 : m - d = 1
  · rw [if_pos (show nI (m - d) = (1 : Int32) by rw [c5]; rfl), if_pos (show nI (m - d) = (1 : Int32) by rw [c5]; rfl)]
    exact t406 h hK hj q3 r3 r4 hN c1.1 c1.2 hm c3 c2 c4 x
  have c6 : ¬ nI (m - d) = (1 : Int32) := fun z => c5 ((nI_eq (b := 1) (by omega) (by decide)).mp z)
  have e1 : nI (m - d) - (1 : Int32) = nI (m - d - 1) := by rw [i1, pk_sub (by omega)]
  rw [if_neg c6, if_neg c6, e1]
  obtain ⟨p1, p2, p3, p4, p5⟩ := P_pass h hK (q := m - d - 1) (by omega) (by omega) (by omega)
  have ed : d + (m - d - 1) = m - 1 := by omega
  rw [ed] at p3 p4
  have hr := why_p p3 p4 hj (by omega) q3 r4 hN
  have hr0 : ¬ v_X5_reason (w_X5_pass z (nI (m - d - 1))) (nI j) = 0 := by
    rw [hr, if_neg (by omega), if_neg (by omega)]
    by_cases g : wr + du < m - 1
    · rw [if_neg (fun q => q g), if_pos c1.2, if_neg (by omega)]; decide
    · rw [if_pos g]; decide
  obtain ⟨u1, u2, u3⟩ := UN p2 p5
  rw [if_neg p1, if_neg p1, if_neg hr0, if_neg hr0, if_neg u1, if_neg u1]
  have hK' := KI_cp hK u3
  exact t406 u2 hK' hj ((u3.2.2.2.2.1 2 (by decide)).trans q3) r3 r4 (BN_c hN (fun k hk => u3.2.2.2.2.2 j (by have := hK.1.1; omega) k hk) (Nat.le_refl d)) c1.1 c1.2 hm c3 c2 c4 x
theorem t294 (h : NV z k) (x : Int32) : v_L_tries_t294_1 z x = 1 ∧ ∃ k', NV (w_L_tries_t294_1 z x) k' := by
  obtain ⟨n, d, hK⟩ := h.2.2.1
  have hn := hK.1.1
  have ec : v_X5_count z (1 : Int32) = nI n := (ct1 z).trans (cB_all hK)
  unfold v_L_tries_t294_1 w_L_tries_t294_1
  rw [ec]
  by_cases g : n = 0
  · rw [g, if_pos nI_0, if_pos nI_0]
    unfold v_L_tries_t319_1 w_L_tries_t319_1
    rw [if_pos nI_0, if_pos nI_0]
    unfold v_L_tries_t337_1 w_L_tries_t337_1
    rw [if_pos rfl, if_pos rfl]
    exact ⟨rfl, k, h⟩
  · have g0 : ¬ nI n = 0 := nI_ne0 (by omega) (by omega)
    rw [if_neg g0, if_neg g0]
    obtain ⟨j, hj, ej⟩ := low_e (x >>> ((14 : Int32) &&& 31)) (n := n) (by omega) (by omega)
    rw [ej]
    unfold v_L_tries_t319_1 w_L_tries_t319_1
    rw [if_neg g0, if_neg g0]
    exact t337 h hK hj x
theorem t182 (h : NV z k) {c : Nat} (hc : c < 8) (x : Int32) : v_L_tries_t182_1 z x (nI c) = 1 ∧ ∃ k', NV (w_L_tries_t182_1 z x (nI c)) k' := by
  obtain ⟨t, ht, et⟩ := low_e (x >>> ((2 : Int32) &&& 31)) (n := 4000) (by decide) (by decide)
  have ea : (1 : Int32) + v_L_low (x >>> ((2 : Int32) &&& 31)) (4000 : Int32) = nI (1 + t) := by
    rw [show (4000 : Int32) = nI 4000 from rfl, et, i1, nI_add]
  have hp : ¬ v_X5_isAmount (nI (1 + t)) = 0 := amt_1 (by omega) (by omega)
  unfold v_L_tries_t182_1 w_L_tries_t182_1
  simp only [ea]
  obtain ⟨n1, f1⟩ := iP_N h (nI c) (nI (1 + t)) (0 : Int32)
  obtain ⟨n2, f2⟩ := iP_N n1 (nI c) (nI (1 + t)) (1 : Int32)
  obtain ⟨n3, f3⟩ := iP_N n2 (nI c) (nI (1 + t)) (3 : Int32)
  have g2 := f2.trans f1
  have g3 := f3.trans g2
  obtain ⟨v0, v0'⟩ := iP_v h.2.1 hc hp
  obtain ⟨v1, v1'⟩ := iP_v n1.2.1 hc hp
  obtain ⟨v2, v2'⟩ := iP_v n2.2.1 hc hp
  rw [f1] at v1'
  rw [g2] at v2'
  rw [v0]
  generalize hz3 : w_X5_ifPaid (w_X5_ifPaid (w_X5_ifPaid z (nI c) (nI (1 + t)) (0 : Int32)) (nI c) (nI (1 + t)) (1 : Int32)) (nI c) (nI (1 + t)) (3 : Int32) = z3 at *
  by_cases g : v_X1_takePayment (z.2 (z.1 0)) (nI c) (nI (1 + t)) < 0
  · rw [if_pos g, if_pos g]
    exact t294 n3 x
  rw [if_neg g, if_neg g, (v1' g).1, (v2' g).2.2]
  obtain ⟨p1, p2, p3, p4⟩ := P_pay n3 (p1 := nI c) (p2 := nI (1 + t)) (by rw [g3]; exact g)
  rw [g3] at p1 p3 p4
  have e11 : v_X5_count (w_X5_pay z3 (nI c) (nI (1 + t))) (11 : Int32) = v_X1_allDiscounts (w_X1_takePayment (z.2 (z.1 0)) (nI c) (nI (1 + t))) := by
    rw [(ct_e (z := w_X5_pay z3 (nI c) (nI (1 + t)))).2.2.2.2.2.2.2.1, p3]
  have e11' : v_X5_count z3 (11 : Int32) = v_X1_allDiscounts (z.2 (z.1 0)) := by
    rw [(ct_e (z := z3)).2.2.2.2.2.2.2.1, g3]
  have e2 : v_X5_customer (w_X5_pay z3 (nI c) (nI (1 + t))) (nI c) (2 : Int32) = v_X1_owedOn (w_X1_takePayment (z.2 (z.1 0)) (nI c) (nI (1 + t))) (nI c) (0 : Int32) := by
    rw [(cu_e (z := w_X5_pay z3 (nI c) (nI (1 + t))) hc).2.1, p3]
  have eD : v_X5_count (w_X5_pay z3 (nI c) (nI (1 + t))) (11 : Int32) = v_X5_count z3 (11 : Int32) + (v_X1_allDiscounts (w_X1_takePayment (z.2 (z.1 0)) (nI c) (nI (1 + t))) - v_X1_allDiscounts (z.2 (z.1 0))) := by
    rw [e11, e11']
    grind
  obtain ⟨u1, u2, u3⟩ := UN p2 p4
  rw [if_pos p1, if_pos p1, if_pos eD, if_pos eD, if_pos e2, if_pos e2, if_neg u1, if_neg u1]
  exact t294 u2 x
end TR
