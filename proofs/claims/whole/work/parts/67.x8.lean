/-! the other acts on a book -/
theorem up_nk' {M : Nat → Nat → Int32} {i k i' k' : Nat} {v : Int32} (h : k' ≠ k) : up M i k v i' k' = M i' k' := if_neg (fun z => h z.2)
theorem SM_c {b b' : Nat → Nat → Int32} {s s' : Nat → Int32} (h : SM b s) (hp : ∀ p, v_X1_paidOn b' p = v_X1_paidOn b p) (h2 : ∀ k, k < 8 → b' 2 k = b 2 k) (h7 : b' 0 7 = b 0 7) (h17 : ∀ c, c < 8 → s' (17 + c) = s (17 + c)) (h225 : ∀ c, c < 8 → s' (225 + c) = s (225 + c)) (h8 : ∀ j, j < 40 → b' (j + 7) 8 = b (j + 7) 8) (h25 : ∀ y, y < 100 → s' (25 + y) = s (25 + y)) : SM b' s' := by
  refine ⟨fun c hc => ?_, ?_, fun y hy => ?_⟩
  · rw [hp, h2 c hc, h17 c hc, h225 c hc]; exact h.1 c hc
  · have e : v_X1_allCredit b' = v_X1_allCredit b := by
      rw [aC_l, aC_l]
      exact lS_c 8 0 (fun i _ hi => h2 i (by omega))
    rw [hp, e, h7, h.2.1]
    exact lS_c 8 0 (fun i _ hi => (h17 i (by omega)).symm)
  · rw [ps_same h8, h25 y hy]; exact h.2.2 y hy
section AX
variable {n d : Nat} {b u : Nat → Nat → Int32}
theorem off_step {j : Nat} (hm : SI (u 1)) (h : BR0 b (u 1) n d) (hs : SM b (u 1)) (hj : j < n) (hst : u 1 (233 + 12 * j + 5) = 0) : SI (up u 1 (233 + 12 * j + 5) (2 : Int32) 1) ∧ BR0 (up b (j + 7) 0 (2 : Int32)) (up u 1 (233 + 12 * j + 5) (2 : Int32) 1) n d ∧ SM (up b (j + 7) 0 (2 : Int32)) (up u 1 (233 + 12 * j + 5) (2 : Int32) 1) := by
  have hn : n ≤ 40 := h.1.1.2
  obtain ⟨⟨x0, x1, x2, x3, x4, x5, x6, x7, x8, x9, x10, x11, x12, x13⟩, cu, ne, ra, wr, du, st, pd, dc, fe, rm, lt, ⟨h0, h1, h2, h3, h4, h5, h6, h7, h8, h9, h10⟩, ⟨g0, g1, g2, g3, g4, g5, g6, g7, g8, g9, g10⟩, k1, k2⟩ := h.2.1 j hj
  have hst0 : st = 0 := by
    have e : nI st = nI 0 := (show u 1 (233 + 12 * j + 5) = nI st from h5).symm.trans hst
    exact (nI_eq (by omega) (by decide)).mp e
  have eK : ∀ k, k < 12 → k ≠ 5 → yR (up u 1 (233 + 12 * j + 5) (2 : Int32) 1) j k = yR (u 1) j k := fun k hk h5 => up_nk (by omega)
  have eX : ∀ k, k ≠ 0 → up b (j + 7) 0 (2 : Int32) (j + 7) k = b (j + 7) k := fun k h0 => up_nk h0
  have hB : BR0 (up b (j + 7) 0 (2 : Int32)) (up u 1 (233 + 12 * j + 5) (2 : Int32) 1) n d := by
    refine BR0_bill h hj (fun i hi _ => up_oi hi) (fun k hk hk2 hk3 => up_nk (hk3 5 (by decide))) (fun y hy => ?_) ⟨⟨?_, ?_, ?_, ?_, ?_, ?_, ?_, ?_, ?_, ?_, ?_, ?_, ?_, ?_⟩, cu, ne, ra, wr, du, 2, pd, dc, fe, rm, lt, ⟨?_, ?_, ?_, ?_, ?_, up_same, ?_, ?_, ?_, ?_, ?_⟩, ⟨g0, g1, g2, g3, g4, g5, Nat.le_refl _, g7, g8, g9, g10⟩, k1, by omega⟩
    · rw [up_nk (by omega), up_oi (by omega)]; exact h.1.2.2.2.2.2.2.2.1 y hy
    · exact up_same.trans up_same.symm
    · rw [eX 1 (by decide), eK 0 (by decide) (by decide)]; exact x1
    · rw [eX 2 (by decide), eK 1 (by decide) (by decide)]; exact x2
    · rw [eX 3 (by decide), eK 2 (by decide) (by decide)]; exact x3
    · rw [eX 4 (by decide), eK 1 (by decide) (by decide), eK 2 (by decide) (by decide)]; exact x4
    · rw [eX 5 (by decide), eK 1 (by decide) (by decide), eK 2 (by decide) (by decide)]; exact x5
    · rw [eX 6 (by decide), eK 3 (by decide) (by decide)]; exact x6
    · rw [eX 7 (by decide), eK 4 (by decide) (by decide)]; exact x7
    · rw [eX 8 (by decide), eK 6 (by decide) (by decide)]; exact x8
    · rw [eX 9 (by decide), eK 7 (by decide) (by decide)]; exact x9
    · rw [eX 10 (by decide), eK 8 (by decide) (by decide)]; exact x10
    · rw [eX 11 (by decide), eK 9 (by decide) (by decide)]; exact x11
    · rw [eX 12 (by decide), eK 10 (by decide) (by decide)]; exact x12
    · rw [eX 13 (by decide), eK 11 (by decide) (by decide)]; exact x13
    · rw [eK 0 (by decide) (by decide)]; exact h0
    · rw [eK 1 (by decide) (by decide)]; exact h1
    · rw [eK 2 (by decide) (by decide)]; exact h2
    · rw [eK 3 (by decide) (by decide)]; exact h3
    · rw [eK 4 (by decide) (by decide)]; exact h4
    · rw [eK 6 (by decide) (by decide)]; exact h6
    · rw [eK 7 (by decide) (by decide)]; exact h7
    · rw [eK 8 (by decide) (by decide)]; exact h8
    · rw [eK 9 (by decide) (by decide)]; exact h9
    · rw [eK 10 (by decide) (by decide)]; exact h10
  refine ⟨SI_upo hm (by omega) (by omega) (by omega) (by omega), hB, SM_c hs (pO_same fun i hi => ?_) (fun k hk => congrFun (up_oi (by omega)) k) (congrFun (up_oi (by omega)) 7) (fun c hc => up_nk (by omega)) (fun c hc => up_nk (by omega)) (fun i hi => up_nk' (by omega)) (fun y hy => up_nk (by omega))⟩
  by_cases e : i = j
  · subst e
    rw [eX 1 (by decide), eX 8 (by decide), up_same, x0]
    exact ⟨⟨fun z => absurd z (by decide), fun z => absurd ((show u 1 (233 + 12 * i + 5) = (-1 : Int32) from z).symm.trans hst) (by decide)⟩, rfl, rfl⟩
  · rw [up_oi (show i + 7 ≠ j + 7 by omega)]
    exact ⟨Iff.rfl, rfl, rfl⟩
def rmU (u : Nat → Nat → Int32) (k : Nat) : Nat → Nat → Int32 := up (up (up u 1 (233 + 12 * k + 8) ((u 1 (233 + 12 * k + 8)) + ((u 1 (233 + 12 * k + 9)) * (u 1 4)))) 1 (233 + 12 * k + 9) ((u 1 (233 + 12 * k + 9)) + (1 : Int32))) 1 (233 + 12 * k + 10) (u 1 0)
theorem why0 {j : Nat} (hw : v_X6_why u j = 0) : u 1 (233 + 12 * j + 5) = 0 ∧ ¬ u 1 (233 + 12 * j + 9) = (3 : Int32) := by
  unfold v_X6_why v_X6_is at hw
  by_cases c0 : u 1 (233 + 12 * j + 5) = (0 : Int32)
  · refine ⟨c0, fun z => ?_⟩
    rw [if_pos c0, if_neg (show ¬ (1 : Int32) = 0 by decide), if_pos z] at hw
    split at hw
    · exact absurd hw (by decide)
    · exact absurd hw (by decide)
  · rw [if_neg c0, if_pos rfl] at hw
    split at hw
    · exact absurd hw (by decide)
    · exact absurd hw (by decide)
theorem rem_step {j : Nat} (hm : SI (u 1)) (h : BR0 b (u 1) n d) (hj : j < n) (hw : v_X6_why u j = 0) : SI (rmU u j 1) ∧ BR0 (w_X0_addReminder b j (b 0 5) (v_X3_reminderFee b)) (rmU u j 1) n d ∧ (SM b (u 1) → SM (w_X0_addReminder b j (b 0 5) (v_X3_reminderFee b)) (rmU u j 1)) := by
  have hn : n ≤ 40 := h.1.1.2
  obtain ⟨hst, hr3⟩ := why0 hw
  obtain ⟨⟨x0, x1, x2, x3, x4, x5, x6, x7, x8, x9, x10, x11, x12, x13⟩, cu, ne, ra, wr, du, st, pd, dc, fe, rm, lt, ⟨h0, h1, h2, h3, h4, h5, h6, h7, h8, h9, h10⟩, ⟨g0, g1, g2, g3, g4, g5, g6, g7, g8, g9, g10⟩, k1, k2⟩ := h.2.1 j hj
  obtain ⟨a1, ⟨a2, a3, a4⟩, a5, a6, a7, ⟨e, p, w, f, t, ⟨q1, q2, q3, q4, q5⟩, r1, r2, r3, r4, r5, r6⟩, a9, a10, a11⟩ := h.1
  have e9 : u 1 (233 + 12 * j + 9) = nI rm := h9
  have e8 : u 1 (233 + 12 * j + 8) = nI fe := h8
  have hrm : rm ≤ 2 := by
    rcases (show rm = 3 ∨ rm ≤ 2 by omega) with z | z
    · exact absurd (by rw [e9, z]; rfl) hr3
    · exact z
  have hmul : rm * f ≤ 2 * 99 := Nat.mul_le_mul hrm r5
  have hmul3 : rm * f ≤ rm * 99 := Nat.mul_le_mul (Nat.le_refl _) r5
  have hfe : v_X3_reminderFee b = u 1 4 := a7 3 (by decide)
  have hst0 : st = 0 := by
    have e : nI st = nI 0 := (show u 1 (233 + 12 * j + 5) = nI st from h5).symm.trans hst
    exact (nI_eq (by omega) (by decide)).mp e
  have eK : ∀ k, k < 12 → k ≠ 8 → k ≠ 9 → k ≠ 10 → yR (rmU u j 1) j k = yR (u 1) j k := fun k hk h8 h9 h10 => by
    show up (up (up u 1 _ _) 1 _ _) 1 _ _ 1 (233 + 12 * j + k) = _
    simp (disch := omega) only [up_nk]
  have eX : ∀ k, k ≠ 10 → k ≠ 11 → k ≠ 12 → w_X0_addReminder b j (b 0 5) (v_X3_reminderFee b) (j + 7) k = b (j + 7) k := fun k h10 h11 h12 => by
    unfold w_X0_addReminder
    simp (disch := omega) only [up_nk]
  have eX10 : w_X0_addReminder b j (b 0 5) (v_X3_reminderFee b) (j + 7) 10 = nI (fe + rm * f) := by
    unfold w_X0_addReminder
    simp (disch := omega) only [up_nk, up_same]
    rw [x10, x11, h8, h9, hfe, q4, pk_mul, nI_add]
  have eX11 : w_X0_addReminder b j (b 0 5) (v_X3_reminderFee b) (j + 7) 11 = nI (rm + 1) := by
    unfold w_X0_addReminder
    simp (disch := omega) only [up_nk, up_same]
    rw [x11, h9, nI_1]
  have eX12 : w_X0_addReminder b j (b 0 5) (v_X3_reminderFee b) (j + 7) 12 = nI d := by
    unfold w_X0_addReminder
    simp (disch := omega) only [up_nk, up_same]
    rw [a4, a2]
  have eK8 : yR (rmU u j 1) j 8 = nI (fe + rm * f) := by
    show up (up (up u 1 _ _) 1 _ _) 1 _ _ 1 (233 + 12 * j + 8) = _
    simp (disch := omega) only [up_nk, up_same]
    rw [e8, e9, q4, pk_mul, nI_add]
  have eK9 : yR (rmU u j 1) j 9 = nI (rm + 1) := by
    show up (up (up u 1 _ _) 1 _ _) 1 _ _ 1 (233 + 12 * j + 9) = _
    simp (disch := omega) only [up_nk, up_same]
    rw [e9, nI_1]
  have eK10 : yR (rmU u j 1) j 10 = nI d := by
    show up (up (up u 1 _ _) 1 _ _) 1 _ _ 1 (233 + 12 * j + 10) = _
    simp (disch := omega) only [up_nk, up_same]
    rw [a2]
  have hoi : ∀ i, i ≠ j + 7 → w_X0_addReminder b j (b 0 5) (v_X3_reminderFee b) i = b i := fun i hi => by
    unfold w_X0_addReminder
    simp (disch := omega) only [up_oi]
  have hso : ∀ k, k ≠ 233 + 12 * j + 8 → k ≠ 233 + 12 * j + 9 → k ≠ 233 + 12 * j + 10 → rmU u j 1 k = u 1 k := fun k h8 h9 h10 => by
    unfold rmU
    simp (disch := omega) only [up_nk]
  have hB : BR0 (w_X0_addReminder b j (b 0 5) (v_X3_reminderFee b)) (rmU u j 1) n d := by
    refine BR0_bill h hj (fun i hi _ => hoi i hi) (fun k hk hk2 hk3 => hso k (hk3 8 (by decide)) (hk3 9 (by decide)) (hk3 10 (by decide))) (fun y hy => ?_) ⟨⟨?_, ?_, ?_, ?_, ?_, ?_, ?_, ?_, ?_, ?_, eX10.trans eK8.symm, eX11.trans eK9.symm, eX12.trans eK10.symm, ?_⟩, cu, ne, ra, wr, du, st, pd, dc, fe + rm * f, rm + 1, d, ⟨?_, ?_, ?_, ?_, ?_, ?_, ?_, ?_, eK8, eK9, eK10⟩, ⟨g0, g1, g2, g3, g4, g5, g6, by omega, Nat.le_refl _, by omega, g10⟩, by omega, by omega⟩
    · rw [hso _ (by omega) (by omega) (by omega), hoi 3 (by omega)]; exact a10 y hy
    · rw [eX 0 (by decide) (by decide) (by decide), eK 5 (by decide) (by decide) (by decide) (by decide)]; exact x0
    · rw [eX 1 (by decide) (by decide) (by decide), eK 0 (by decide) (by decide) (by decide) (by decide)]; exact x1
    · rw [eX 2 (by decide) (by decide) (by decide), eK 1 (by decide) (by decide) (by decide) (by decide)]; exact x2
    · rw [eX 3 (by decide) (by decide) (by decide), eK 2 (by decide) (by decide) (by decide) (by decide)]; exact x3
    · rw [eX 4 (by decide) (by decide) (by decide), eK 1 (by decide) (by decide) (by decide) (by decide), eK 2 (by decide) (by decide) (by decide) (by decide)]; exact x4
    · rw [eX 5 (by decide) (by decide) (by decide), eK 1 (by decide) (by decide) (by decide) (by decide), eK 2 (by decide) (by decide) (by decide) (by decide)]; exact x5
    · rw [eX 6 (by decide) (by decide) (by decide), eK 3 (by decide) (by decide) (by decide) (by decide)]; exact x6
    · rw [eX 7 (by decide) (by decide) (by decide), eK 4 (by decide) (by decide) (by decide) (by decide)]; exact x7
    · rw [eX 8 (by decide) (by decide) (by decide), eK 6 (by decide) (by decide) (by decide) (by decide)]; exact x8
    · rw [eX 9 (by decide) (by decide) (by decide), eK 7 (by decide) (by decide) (by decide) (by decide)]; exact x9
    · rw [eX 13 (by decide) (by decide) (by decide), eK 11 (by decide) (by decide) (by decide) (by decide)]; exact x13
    · rw [eK 0 (by decide) (by decide) (by decide) (by decide)]; exact h0
    · rw [eK 1 (by decide) (by decide) (by decide) (by decide)]; exact h1
    · rw [eK 2 (by decide) (by decide) (by decide) (by decide)]; exact h2
    · rw [eK 3 (by decide) (by decide) (by decide) (by decide)]; exact h3
    · rw [eK 4 (by decide) (by decide) (by decide) (by decide)]; exact h4
    · rw [eK 5 (by decide) (by decide) (by decide) (by decide)]; exact h5
    · rw [eK 6 (by decide) (by decide) (by decide) (by decide)]; exact h6
    · rw [eK 7 (by decide) (by decide) (by decide) (by decide)]; exact h7
  refine ⟨SI_rem hm (by omega), hB, fun hs => SM_c hs (pO_same fun i hi => ?_) (fun k hk => congrFun (hoi 2 (by omega)) k) (congrFun (hoi 0 (by omega)) 7) (fun c hc => hso _ (by omega) (by omega) (by omega)) (fun c hc => hso _ (by omega) (by omega) (by omega)) (fun i hi => ?_) (fun y hy => hso _ (by omega) (by omega) (by omega))⟩
  · by_cases e : i = j
    · subst e
      rw [eX 0 (by decide) (by decide) (by decide), eX 1 (by decide) (by decide) (by decide), eX 8 (by decide) (by decide) (by decide)]
      exact ⟨Iff.rfl, rfl, rfl⟩
    · rw [hoi (i + 7) (by omega)]
      exact ⟨Iff.rfl, rfl, rfl⟩
  · by_cases e : i = j
    · subst e
      exact eX 8 (by decide) (by decide) (by decide)
    · rw [hoi (i + 7) (by omega)]
theorem rem_e {x : Int32} (h : BR0 b (u 1) n d) : ∀ (m k : Nat), n ≤ k → k + m = 40 → v_X1_sendReminders_loop m k b x = (if x ≤ 0 then (-5 : Int32) else x) ∧ w_X1_sendReminders_loop m k b x = b := by
  intro m
  induction m with
  | zero => intro k _ hk; exact ⟨rfl, by show (if _ then _ else _) = _; rw [ite_self]⟩
  | succ m ih =>
    intro k hk1 hk
    have e0 := (h.2.2 k hk1 (by omega)).1
    have g : ¬ v_X0_whyNoReminder b k (b 0 5) (v_X3_reminderDays b) = 0 := by
      unfold v_X0_whyNoReminder v_X0_isOverdue
      rw [e0, if_neg (by decide), if_neg (by decide), if_pos (by rw [if_neg (by decide)])]
      decide
    refine ⟨?_, ?_⟩
    · show (if _ then _ else _) = _
      rw [if_neg g]; exact (ih (k + 1) (by omega) (by omega)).1
    · show (if _ then _ else _) = _
      rw [if_neg g]; exact (ih (k + 1) (by omega) (by omega)).2
end AX
theorem rem_lp {n d : Nat} (hn : n ≤ 40) : ∀ (r k : Nat) (b u : Nat → Nat → Int32) (t : Nat), k + r = n → SI (u 1) → BR0 b (u 1) n d →
    ∃ (b' u' : Nat → Nat → Int32) (t' : Nat), t ≤ t' ∧ t' ≤ t + r ∧ SI (u' 1) ∧ BR0 b' (u' 1) n d ∧ (SM b (u 1) → SM b' (u' 1)) ∧ (t' = t → u' = u) ∧ v_X1_sendReminders_loop (40 - k) k b (nI t) = (if nI t' ≤ 0 then (-5 : Int32) else nI t') ∧ w_X1_sendReminders_loop (40 - k) k b (nI t) = b' ∧ v_X6_reminds_loop r k u (nI t) = nI t' ∧ w_X6_reminds_loop r k u (nI t) = u' := by
  intro r
  induction r with
  | zero =>
    intro k b u t hk hm h
    obtain ⟨e1, e2⟩ := rem_e (x := nI t) h (40 - k) k (by omega) (by omega)
    exact ⟨b, u, t, Nat.le_refl _, by omega, hm, h, fun z => z, fun _ => rfl, e1, e2, rfl, rfl⟩
  | succ r ih =>
    intro k b u t hk hm h
    have hkn : k < n := by omega
    rw [show 40 - k = (40 - (k + 1)) + 1 by omega]
    have ew := why_eq h hkn
    have e1 : v_X1_sendReminders_loop (40 - (k + 1) + 1) k b (nI t) = if v_X0_whyNoReminder b k (b 0 5) (v_X3_reminderDays b) = 0 then (v_X1_sendReminders_loop (40 - (k + 1)) (k + 1) (w_X0_addReminder b k (b 0 5) (v_X3_reminderFee b)) (nI t + 1)) else v_X1_sendReminders_loop (40 - (k + 1)) (k + 1) b (nI t) := rfl
    have e2 : w_X1_sendReminders_loop (40 - (k + 1) + 1) k b (nI t) = if v_X0_whyNoReminder b k (b 0 5) (v_X3_reminderDays b) = 0 then (w_X1_sendReminders_loop (40 - (k + 1)) (k + 1) (w_X0_addReminder b k (b 0 5) (v_X3_reminderFee b)) (nI t + 1)) else w_X1_sendReminders_loop (40 - (k + 1)) (k + 1) b (nI t) := rfl
    have e3 : v_X6_reminds_loop (r + 1) k u (nI t) = if v_X6_why u k = 0 then (v_X6_reminds_loop r (k + 1) (rmU u k) (nI t + 1)) else v_X6_reminds_loop r (k + 1) u (nI t) := rfl
    have e4 : w_X6_reminds_loop (r + 1) k u (nI t) = if v_X6_why u k = 0 then (w_X6_reminds_loop r (k + 1) (rmU u k) (nI t + 1)) else w_X6_reminds_loop r (k + 1) u (nI t) := rfl
    rw [e1, e2, e3, e4, ew]
    by_cases g : v_X6_why u k = 0
    · rw [if_pos g, if_pos g, if_pos g, if_pos g, nI_1]
      obtain ⟨s1, s2, s3⟩ := rem_step hm h hkn g
      obtain ⟨b', u', t', f1, f2, f3, f4, f5, f6, f7, f8, f9, f10⟩ := ih (k + 1) _ _ (t + 1) (by omega) s1 s2
      exact ⟨b', u', t', by omega, by omega, f3, f4, fun z => f5 (s3 z), fun z => absurd z (by omega), f7, f8, f9, f10⟩
    · rw [if_neg g, if_neg g, if_neg g, if_neg g]
      obtain ⟨b', u', t', f1, f2, f3, f4, f5, f6, f7, f8, f9, f10⟩ := ih (k + 1) b u t (by omega) hm h
      exact ⟨b', u', t', f1, by omega, f3, f4, f5, f6, f7, f8, f9, f10⟩
