/-! what is told of one bill goes together -/
section BO
variable {z : CS} {n d j : Nat}
theorem bO (hb : v_X1_billAt (z.2 (z.1 0)) (nI j) = some j) : v_X5_billOf z (nI j) (1 : Int32) = z.2 (z.1 0) (j + 7) 2 ∧ v_X5_billOf z (nI j) (2 : Int32) = z.2 (z.1 0) (j + 7) 4 ∧ v_X5_billOf z (nI j) (3 : Int32) = z.2 (z.1 0) (j + 7) 5 ∧ v_X5_billOf z (nI j) (4 : Int32) = z.2 (z.1 0) (j + 7) 6 ∧ v_X5_billOf z (nI j) (5 : Int32) = v_X0_dueDay (z.2 (z.1 0)) j ∧ v_X5_billOf z (nI j) (6 : Int32) = z.2 (z.1 0) (j + 7) 0 ∧ v_X5_billOf z (nI j) (7 : Int32) = z.2 (z.1 0) (j + 7) 8 ∧ v_X5_billOf z (nI j) (8 : Int32) = z.2 (z.1 0) (j + 7) 9 ∧ v_X5_billOf z (nI j) (9 : Int32) = z.2 (z.1 0) (j + 7) 10 ∧ v_X5_billOf z (nI j) (10 : Int32) = v_X0_owed (z.2 (z.1 0)) j ∧ v_X5_billOf z (nI j) (11 : Int32) = z.2 (z.1 0) (j + 7) 11 ∧ v_X5_billOf z (nI j) (12 : Int32) = z.2 (z.1 0) (j + 7) 13 ∧ v_X5_billOf z (nI j) (13 : Int32) = (if v_X0_isOverdue (z.2 (z.1 0)) j (z.2 (z.1 0) 0 5) = 0 then (0 : Int32) else (1 : Int32)) := by
  unfold v_X5_billOf
  simp only [oel_s hb]
  exact ⟨rfl, rfl, rfl, rfl, rfl, rfl, rfl, rfl, rfl, rfl, rfl, rfl, rfl⟩
theorem rs_e (hb : v_X1_billAt (z.2 (z.1 0)) (nI j) = some j) : v_X5_reason z (nI j) = v_X0_whyNoReminder (z.2 (z.1 0)) j (z.2 (z.1 0) 0 5) (v_X3_reminderDays (z.2 (z.1 0))) := by
  unfold v_X5_reason
  rw [oel_s hb]
theorem nx_e (h : KI (z.2 (z.1 0)) n d) (hj : j < n) {w st cu ne tx ra wr du pd dc fe rm lt lp : Nat} (hw : z.2 (z.1 0) 6 2 = nI w) (hw2 : w ≤ 99) (hN : BN (z.2 (z.1 0) (j + 7)) d st cu ne tx ra wr du pd dc fe rm lt lp) : v_X5_nextReminder z (nI j) = (if st = 0 ∧ rm < 3 then (if max d (rD w wr du rm lt) ≤ 9999 then nI (max d (rD w wr du rm lt)) else (-5 : Int32)) else (-5 : Int32)) := by
  have hd9 := h.1.2.1
  have hrd := rd_e (w := w) hN
  obtain ⟨⟨h0, h1, h2, h3, h4, h5, h6, h7, h8, h9, h10, h11, h12, h13⟩, ⟨g0, g1, g2, g3, g4, g5, g6, g7, g8, g9, g10, g11⟩, k1, k2, k3, k4⟩ := hN
  have hrl : rD w wr du rm lt < 2 ^ 30 := by unfold rD; split <;> omega
  have ew : v_X3_reminderDays (z.2 (z.1 0)) = nI w := hw
  unfold v_X5_nextReminder
  rw [oel_s (billAt_1 h hj), ew, hrd, h.1.2.2]
  have ea : v_X0_awaitsReminder (z.2 (z.1 0)) j = (if st = 0 ∧ rm < 3 then (1 : Int32) else 0) := by
    unfold v_X0_awaitsReminder
    rw [h0, h11]
    by_cases c0 : st = 0
    · rw [c0, if_pos nI_0]
      by_cases c1 : rm < 3
      · rw [if_neg (show ¬ (3 : Int32) ≤ nI rm from nI_ge (b := 3) c1 (by decide)), if_pos (show 0 = 0 ∧ rm < 3 from ⟨rfl, c1⟩)]
      · rw [if_pos (show (3 : Int32) ≤ nI rm from nI_le (a := 3) (by omega) (by omega)), if_neg (show ¬ (0 = 0 ∧ rm < 3) from fun z => c1 z.2)]
    · rw [if_neg (nI_ne0 (by omega) (by omega)), if_neg (show ¬ (st = 0 ∧ rm < 3) from fun z => c0 z.1)]
  rw [ea]
  by_cases c : st = 0 ∧ rm < 3
  · rw [if_pos c, if_neg (show ¬ (1 : Int32) = 0 by decide), if_pos c]
    have em : (if nI d < nI (rD w wr du rm lt) then nI (rD w wr du rm lt) else nI d) = nI (max d (rD w wr du rm lt)) := by
      by_cases g : d < rD w wr du rm lt
      · rw [if_pos ((nI_ltI (by omega) (by omega)).mpr g), Nat.max_eq_right (by omega)]
      · rw [if_neg (fun z => g ((nI_ltI (by omega) (by omega)).mp z)), Nat.max_eq_left (by omega)]
    rw [em]
    by_cases g : max d (rD w wr du rm lt) ≤ 9999
    · rw [if_neg (show ¬ (9999 : Int32) < nI (max d (rD w wr du rm lt)) from fun z => absurd ((nI_ltI (a := 9999) (by decide) (by omega)).mp z) (by omega)), if_pos g]
    · rw [if_pos (show (9999 : Int32) < nI (max d (rD w wr du rm lt)) from (nI_ltI (a := 9999) (by decide) (by omega)).mpr (by omega)), if_neg g]
  · rw [if_neg c, if_pos rfl, if_neg c]
theorem iB_273_0 (h : KI (z.2 (z.1 0)) n d) (hj : j < n) {st cu ne tx ra wr du pd dc fe rm lt lp : Nat} (hN : BN (z.2 (z.1 0) (j + 7)) d st cu ne tx ra wr du pd dc fe rm lt lp) (hov : ¬ (st = 0 ∧ wr + du < d)) : v_L_isBill_t273_1_0 z (nI j) (nI st) (nI d) = 1 := by
  have hd9 := h.1.2.1
  obtain ⟨e, p, w, f, t, ⟨q1, q2, q3, q4, q5⟩, r1, r2, r3, r4, r5, r6⟩ := h.2.2.1
  have hb := billAt_1 h hj
  have hx := nx_e h hj q3 r4 hN
  have hr := rs_e hb
  rw [show v_X3_reminderDays (z.2 (z.1 0)) = nI w from q3, why_e h r4 hN] at hr
  have h11' : v_X5_billOf z (nI j) (11 : Int32) = nI rm := (bO hb).2.2.2.2.2.2.2.2.2.2.1.trans hN.1.2.2.2.2.2.2.2.2.2.2.2.1
  obtain ⟨-, ⟨g0, g1, g2, g3, g4, g5, g6, g7, g8, g9, g10, g11⟩, k1, k2, k3, k4⟩ := hN
  have hmx : max d (rD w wr du rm lt) < 2 ^ 30 := by unfold rD; split <;> omega
  have hrd : rD w wr du rm lt ≤ d → wr + du < d := fun z => by
    unfold rD at z
    split at z <;> omega
  have T402 : ∀ x : Int32, (x = (-5 : Int32) ∨ (st = 0 ∧ ∃ m : Nat, m < 2 ^ 30 ∧ d ≤ m ∧ x = nI m)) → v_L_isBill_t402_1 z (nI j) (nI st) (nI d) x = 1 := fun x hx => by
    unfold v_L_isBill_t402_1
    by_cases c : x = (-5 : Int32)
    · rw [if_pos c]
    rw [if_neg c]
    obtain ⟨s0, m, hm, hm2, rfl⟩ := hx.resolve_left c
    rw [if_neg (nI_nlt hm2 (by omega)), s0, if_pos nI_0]
  have hX : v_X5_nextReminder z (nI j) = (-5 : Int32) ∨ (st = 0 ∧ ∃ m : Nat, m < 2 ^ 30 ∧ d ≤ m ∧ v_X5_nextReminder z (nI j) = nI m) := by
    rw [hx]
    by_cases c : st = 0 ∧ rm < 3
    · rw [if_pos c]
      by_cases g : max d (rD w wr du rm lt) ≤ 9999
      · rw [if_pos g]; exact Or.inr ⟨c.1, _, hmx, Nat.le_max_left d _, rfl⟩
      · rw [if_neg g]; exact Or.inl rfl
    · rw [if_neg c]; exact Or.inl rfl
  have T372 : (v_X5_reason z (nI j) = 0 ↔ v_X5_nextReminder z (nI j) = nI d) → v_L_isBill_t372_1 z (nI j) (nI st) (nI d) (v_X5_reason z (nI j)) (v_X5_nextReminder z (nI j)) = 1 := fun hi => by
    unfold v_L_isBill_t372_1
    by_cases c : v_X5_reason z (nI j) = 0
    · rw [if_pos c, if_pos (hi.mp c)]; exact T402 _ hX
    · rw [if_neg c, if_neg (fun z => c (hi.mpr z))]; exact T402 _ hX
  have hNo : ¬ (st = 0 ∧ rm < 3 ∧ rD w wr du rm lt ≤ d) → ¬ v_X5_nextReminder z (nI j) = nI d := fun hc z1 => by
    rw [hx] at z1
    by_cases c : st = 0 ∧ rm < 3
    · rw [if_pos c] at z1
      by_cases g : max d (rD w wr du rm lt) ≤ 9999
      · rw [if_pos g] at z1
        have := (nI_eq (by omega) (by omega)).mp z1
        exact hc ⟨c.1, c.2, by omega⟩
      · rw [if_neg g] at z1; exact nI_nm' (by omega) (by decide) z1
    · rw [if_neg c] at z1; exact nI_nm' (by omega) (by decide) z1
  have hYes : st = 0 ∧ rm < 3 ∧ rD w wr du rm lt ≤ d → v_X5_nextReminder z (nI j) = nI d := fun hc => by
    rw [hx, if_pos ⟨hc.1, hc.2.1⟩, Nat.max_eq_left hc.2.2, if_pos hd9]
  unfold v_L_isBill_t273_1_0
  by_cases c1 : st = 1
  · rw [if_pos c1] at hr
    rw [if_pos (show nI st = (1 : Int32) by rw [c1]; rfl), if_pos hr]
    exact T372 ⟨fun z => by rw [hr] at z; exact absurd z (by decide), fun z => absurd z (hNo (fun q => by omega))⟩
  rw [if_neg c1] at hr
  rw [if_neg (show ¬ nI st = (1 : Int32) from fun z => c1 ((nI_eq (b := 1) (by omega) (by decide)).mp z))]
  by_cases c2 : st = 2
  · rw [if_pos c2] at hr
    rw [if_pos (show nI st = (2 : Int32) by rw [c2]; rfl), if_pos hr]
    exact T372 ⟨fun z => by rw [hr] at z; exact absurd z (by decide), fun z => absurd z (hNo (fun q => by omega))⟩
  rw [if_neg c2] at hr
  rw [if_neg (show ¬ nI st = (2 : Int32) from fun z => c2 ((nI_eq (b := 2) (by omega) (by decide)).mp z))]
  have c3 : ¬ wr + du < d := fun z => hov ⟨by omega, z⟩
  rw [if_pos c3] at hr
  rw [if_pos hr]
  exact T372 ⟨fun z => by rw [hr] at z; exact absurd z (by decide), fun z => absurd z (hNo (fun q => c3 (hrd q.2.2)))⟩
theorem iB_53_0 (h : KI (z.2 (z.1 0)) n d) (hj : j < n) {st cu ne tx ra wr du pd dc fe rm lt lp : Nat} (hN : BN (z.2 (z.1 0) (j + 7)) d st cu ne tx ra wr du pd dc fe rm lt lp) (hov : ¬ (st = 0 ∧ wr + du < d)) : v_L_isBill_t53_0 z (nI j) (nI st) (nI (ne + tx + fe - pd - dc)) (nI (ne + tx)) (nI d) = 1 := by
  have hd9 := h.1.2.1
  have hb := billAt_1 h hj
  have T273 := iB_273_0 h hj hN hov
  have eov := ov_e h hN
  obtain ⟨b1, b2, b3, b4, b5, b6, b7, b8, b9, b10, b11, b12, b13⟩ := bO hb
  obtain ⟨⟨h0, h1, h2, h3, h4, h5, h6, h7, h8, h9, h10, h11, h12, h13⟩, ⟨g0, g1, g2, g3, g4, g5, g6, g7, g8, g9, g10, g11⟩, k1, k2, k3, k4⟩ := hN
  have T183 : v_L_isBill_t183_1_0 z (nI j) (nI st) (nI d) = 1 := by
    unfold v_L_isBill_t183_1_0
    rw [b13, eov, if_neg hov, if_pos rfl, if_pos rfl, b4, h6, if_neg (nI_nlt g6 (by omega)), b12, h13, b7, h8]
    by_cases c : pd = 0
    · rw [if_pos c, if_neg (show ¬ nI d < (-5 : Int32) from fun z => nI_pos (n := d) (by omega) (Int32.lt_trans z (by decide))), if_pos rfl, c, if_pos nI_0]
      exact T273
    · rw [if_neg c, if_neg (nI_nlt g10 (by omega)), if_neg (nI_nm (by omega) (by decide)), if_neg (nI_ne0 (by omega) (by omega))]
      exact T273
  have T139 : v_L_isBill_t139_1_0 z (nI j) (nI st) (nI d) = 1 := by
    unfold v_L_isBill_t139_1_0
    rw [b11, h11, if_neg (nI_pos (by omega)), if_neg (show ¬ (3 : Int32) < nI rm from nI_nlt (a := 3) g8 (by decide))]
    by_cases c : st = 2
    · rw [if_pos (show nI st = (2 : Int32) by rw [c]; rfl), if_pos (show nI rm = (3 : Int32) by rw [k3 c]; rfl)]
      exact T183
    · rw [if_neg (show ¬ nI st = (2 : Int32) from fun z => c ((nI_eq (b := 2) (by omega) (by decide)).mp z))]
      exact T183
  have T108 : v_L_isBill_t108_1_0 z (nI j) (nI st) (nI (ne + tx + fe - pd - dc)) (nI d) = 1 := by
    unfold v_L_isBill_t108_1_0
    rw [if_neg (nI_pos (by omega))]
    by_cases c : st = 1
    · rw [if_pos (show nI st = (1 : Int32) by rw [c]; rfl), show ne + tx + fe - pd - dc = 0 by omega, if_pos nI_0]
      exact T139
    · rw [if_neg (show ¬ nI st = (1 : Int32) from fun z => c ((nI_eq (b := 1) (by omega) (by decide)).mp z)), if_neg (nI_ne0 (by omega) (by omega))]
      exact T139
  unfold v_L_isBill_t53_0
  rw [b1, b2, h2, h4, nI_add, if_pos rfl, b9, b7, b8, h10, h8, h9, nI_add, pk_sub (by omega), pk_sub (by omega), if_pos rfl]
  exact T108
theorem iB_273_1 (h : KI (z.2 (z.1 0)) n d) (hj : j < n) {st cu ne tx ra wr du pd dc fe rm lt lp : Nat} (hN : BN (z.2 (z.1 0) (j + 7)) d st cu ne tx ra wr du pd dc fe rm lt lp) (hov : st = 0 ∧ wr + du < d) : v_L_isBill_t273_1_1 z (nI j) (nI st) (nI d) = 1 := by
  have hd9 := h.1.2.1
  obtain ⟨e, p, w, f, t, ⟨q1, q2, q3, q4, q5⟩, r1, r2, r3, r4, r5, r6⟩ := h.2.2.1
  have hb := billAt_1 h hj
  have hx := nx_e h hj q3 r4 hN
  have hr := rs_e hb
  rw [show v_X3_reminderDays (z.2 (z.1 0)) = nI w from q3, why_e h r4 hN] at hr
  have h11' : v_X5_billOf z (nI j) (11 : Int32) = nI rm := (bO hb).2.2.2.2.2.2.2.2.2.2.1.trans hN.1.2.2.2.2.2.2.2.2.2.2.2.1
  obtain ⟨-, ⟨g0, g1, g2, g3, g4, g5, g6, g7, g8, g9, g10, g11⟩, k1, k2, k3, k4⟩ := hN
  have hmx : max d (rD w wr du rm lt) < 2 ^ 30 := by unfold rD; split <;> omega
  have hrd : rD w wr du rm lt ≤ d → wr + du < d := fun z => by
    unfold rD at z
    split at z <;> omega
  have T402 : ∀ x : Int32, (x = (-5 : Int32) ∨ (st = 0 ∧ ∃ m : Nat, m < 2 ^ 30 ∧ d ≤ m ∧ x = nI m)) → v_L_isBill_t402_1 z (nI j) (nI st) (nI d) x = 1 := fun x hx => by
    unfold v_L_isBill_t402_1
    by_cases c : x = (-5 : Int32)
    · rw [if_pos c]
    rw [if_neg c]
    obtain ⟨s0, m, hm, hm2, rfl⟩ := hx.resolve_left c
    rw [if_neg (nI_nlt hm2 (by omega)), s0, if_pos nI_0]
  have hX : v_X5_nextReminder z (nI j) = (-5 : Int32) ∨ (st = 0 ∧ ∃ m : Nat, m < 2 ^ 30 ∧ d ≤ m ∧ v_X5_nextReminder z (nI j) = nI m) := by
    rw [hx]
    by_cases c : st = 0 ∧ rm < 3
    · rw [if_pos c]
      by_cases g : max d (rD w wr du rm lt) ≤ 9999
      · rw [if_pos g]; exact Or.inr ⟨c.1, _, hmx, Nat.le_max_left d _, rfl⟩
      · rw [if_neg g]; exact Or.inl rfl
    · rw [if_neg c]; exact Or.inl rfl
  have T372 : (v_X5_reason z (nI j) = 0 ↔ v_X5_nextReminder z (nI j) = nI d) → v_L_isBill_t372_1 z (nI j) (nI st) (nI d) (v_X5_reason z (nI j)) (v_X5_nextReminder z (nI j)) = 1 := fun hi => by
    unfold v_L_isBill_t372_1
    by_cases c : v_X5_reason z (nI j) = 0
    · rw [if_pos c, if_pos (hi.mp c)]; exact T402 _ hX
    · rw [if_neg c, if_neg (fun z => c (hi.mpr z))]; exact T402 _ hX
  have hNo : ¬ (st = 0 ∧ rm < 3 ∧ rD w wr du rm lt ≤ d) → ¬ v_X5_nextReminder z (nI j) = nI d := fun hc z1 => by
    rw [hx] at z1
    by_cases c : st = 0 ∧ rm < 3
    · rw [if_pos c] at z1
      by_cases g : max d (rD w wr du rm lt) ≤ 9999
      · rw [if_pos g] at z1
        have := (nI_eq (by omega) (by omega)).mp z1
        exact hc ⟨c.1, c.2, by omega⟩
      · rw [if_neg g] at z1; exact nI_nm' (by omega) (by decide) z1
    · rw [if_neg c] at z1; exact nI_nm' (by omega) (by decide) z1
  have hYes : st = 0 ∧ rm < 3 ∧ rD w wr du rm lt ≤ d → v_X5_nextReminder z (nI j) = nI d := fun hc => by
    rw [hx, if_pos ⟨hc.1, hc.2.1⟩, Nat.max_eq_left hc.2.2, if_pos hd9]
  unfold v_L_isBill_t273_1_1
  by_cases c1 : st = 1
  · rw [if_pos c1] at hr
    rw [if_pos (show nI st = (1 : Int32) by rw [c1]; rfl), if_pos hr]
    exact T372 ⟨fun z => by rw [hr] at z; exact absurd z (by decide), fun z => absurd z (hNo (fun q => by omega))⟩
  rw [if_neg c1] at hr
  rw [if_neg (show ¬ nI st = (1 : Int32) from fun z => c1 ((nI_eq (b := 1) (by omega) (by decide)).mp z))]
  by_cases c2 : st = 2
  · rw [if_pos c2] at hr
    rw [if_pos (show nI st = (2 : Int32) by rw [c2]; rfl), if_pos hr]
    exact T372 ⟨fun z => by rw [hr] at z; exact absurd z (by decide), fun z => absurd z (hNo (fun q => by omega))⟩
  rw [if_neg c2] at hr
  rw [if_neg (show ¬ nI st = (2 : Int32) from fun z => c2 ((nI_eq (b := 2) (by omega) (by decide)).mp z))]
  rw [if_neg (fun z => z hov.2)] at hr
  rw [h11']
  by_cases c4 : rm < 3
  · rw [if_pos c4] at hr
    rw [if_neg (show ¬ nI rm = (3 : Int32) from fun z => by have := (nI_eq (b := 3) (by omega) (by decide)).mp z; omega)]
    by_cases c5 : rD w wr du rm lt ≤ d
    · rw [if_pos c5] at hr
      have hi : v_X5_reason z (nI j) = 0 ↔ v_X5_nextReminder z (nI j) = nI d := ⟨fun _ => hYes ⟨hov.1, c4, c5⟩, fun _ => hr⟩
      rw [if_neg (show ¬ v_X5_reason z (nI j) = (5 : Int32) by rw [hr]; decide), if_pos hr]
      exact T372 hi
    · rw [if_neg c5] at hr
      rw [if_pos hr]
      exact T372 ⟨fun z => by rw [hr] at z; exact absurd z (by decide), fun z => absurd z (hNo (fun q => c5 q.2.2))⟩
  · rw [if_neg c4] at hr
    rw [if_pos (show nI rm = (3 : Int32) by rw [show rm = 3 by omega]; rfl), if_pos hr]
    exact T372 ⟨fun z => by rw [hr] at z; exact absurd z (by decide), fun z => absurd z (hNo (fun q => c4 q.2.1))⟩
theorem iB_53_1 (h : KI (z.2 (z.1 0)) n d) (hj : j < n) {st cu ne tx ra wr du pd dc fe rm lt lp : Nat} (hN : BN (z.2 (z.1 0) (j + 7)) d st cu ne tx ra wr du pd dc fe rm lt lp) (hov : st = 0 ∧ wr + du < d) : v_L_isBill_t53_1 z (nI j) (nI st) (nI (ne + tx + fe - pd - dc)) (nI (ne + tx)) (nI d) = 1 := by
  have hd9 := h.1.2.1
  have hb := billAt_1 h hj
  have T273 := iB_273_1 h hj hN hov
  have eov := ov_e h hN
  obtain ⟨b1, b2, b3, b4, b5, b6, b7, b8, b9, b10, b11, b12, b13⟩ := bO hb
  obtain ⟨⟨h0, h1, h2, h3, h4, h5, h6, h7, h8, h9, h10, h11, h12, h13⟩, ⟨g0, g1, g2, g3, g4, g5, g6, g7, g8, g9, g10, g11⟩, k1, k2, k3, k4⟩ := hN
  have T183 : v_L_isBill_t183_1_1 z (nI j) (nI st) (nI d) = 1 := by
    unfold v_L_isBill_t183_1_1
    rw [b13, eov, if_pos hov, if_neg (show ¬ (1 : Int32) = 0 by decide), if_pos rfl, b4, h6, if_neg (nI_nlt g6 (by omega)), b12, h13, b7, h8]
    by_cases c : pd = 0
    · rw [if_pos c, if_neg (show ¬ nI d < (-5 : Int32) from fun z => nI_pos (n := d) (by omega) (Int32.lt_trans z (by decide))), if_pos rfl, c, if_pos nI_0]
      exact T273
    · rw [if_neg c, if_neg (nI_nlt g10 (by omega)), if_neg (nI_nm (by omega) (by decide)), if_neg (nI_ne0 (by omega) (by omega))]
      exact T273
  have T139 : v_L_isBill_t139_1_1 z (nI j) (nI st) (nI d) = 1 := by
    unfold v_L_isBill_t139_1_1
    rw [b11, h11, if_neg (nI_pos (by omega)), if_neg (show ¬ (3 : Int32) < nI rm from nI_nlt (a := 3) g8 (by decide))]
    by_cases c : st = 2
    · rw [if_pos (show nI st = (2 : Int32) by rw [c]; rfl), if_pos (show nI rm = (3 : Int32) by rw [k3 c]; rfl)]
      exact T183
    · rw [if_neg (show ¬ nI st = (2 : Int32) from fun z => c ((nI_eq (b := 2) (by omega) (by decide)).mp z))]
      exact T183
  have T108 : v_L_isBill_t108_1_1 z (nI j) (nI st) (nI (ne + tx + fe - pd - dc)) (nI d) = 1 := by
    unfold v_L_isBill_t108_1_1
    rw [if_neg (nI_pos (by omega))]
    by_cases c : st = 1
    · rw [if_pos (show nI st = (1 : Int32) by rw [c]; rfl), show ne + tx + fe - pd - dc = 0 by omega, if_pos nI_0]
      exact T139
    · rw [if_neg (show ¬ nI st = (1 : Int32) from fun z => c ((nI_eq (b := 1) (by omega) (by decide)).mp z)), if_neg (nI_ne0 (by omega) (by omega))]
      exact T139
  unfold v_L_isBill_t53_1
  rw [b1, b2, h2, h4, nI_add, if_pos rfl, b9, b7, b8, h10, h8, h9, nI_add, pk_sub (by omega), pk_sub (by omega), if_pos rfl]
  exact T108
theorem isBill_1 (h : KI (z.2 (z.1 0)) n d) (hj : j < n) : v_L_isBill z (nI j) = 1 := by
  have hd9 := h.1.2.1
  obtain ⟨st, cu, ne, tx, ra, wr, du, pd, dc, fe, rm, lt, lp, hN⟩ := h.2.2.2.2.2.1 j hj
  have hb := billAt_1 h hj
  obtain ⟨b1, b2, b3, b4, b5, b6, b7, b8, b9, b10, b11, b12, b13⟩ := bO hb
  have e6 : v_X5_billOf z (nI j) (6 : Int32) = nI st := b6.trans hN.1.1
  have e10 : v_X5_billOf z (nI j) (10 : Int32) = nI (ne + tx + fe - pd - dc) := b10.trans (BN_o hN)
  have e3 : v_X5_billOf z (nI j) (3 : Int32) = nI (ne + tx) := b3.trans hN.1.2.2.2.2.2.1
  have e0 : v_X5_count z (0 : Int32) = nI d := h.1.2.2
  have e5 : v_X5_billOf z (nI j) (5 : Int32) = nI (wr + du) := by
    rw [b5]
    unfold v_X0_dueDay
    rw [hN.1.2.2.2.2.2.2.1, hN.1.2.2.2.2.2.2.2.1, nI_add]
  have hg := hN.2.1
  unfold v_L_isBill
  rw [e6, e10, e3, e0, e5]
  by_cases c0 : st = 0
  · rw [if_pos (show nI st = 0 by rw [c0]; rfl)]
    by_cases c1 : wr + du < d
    · rw [if_neg (fun z => absurd ((nI_leI (by omega) (by omega)).mp z) (by omega))]
      exact iB_53_1 h hj hN ⟨c0, c1⟩
    · rw [if_pos ((nI_leI (by omega) (by omega)).mpr (by omega))]
      exact iB_53_0 h hj hN (fun z => c1 z.2)
  · rw [if_neg (nI_ne0 (by omega) (by omega))]
    exact iB_53_0 h hj hN (fun z => c0 z.1)
end BO
