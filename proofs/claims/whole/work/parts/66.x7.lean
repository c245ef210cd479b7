/-! payments, bills: the book behind -/
theorem BL_c {x x' y y' : Nat → Int32} {d d' : Nat} (h : BL x y d) (hx : ∀ k, k < 14 → x' k = x k) (hy : ∀ k, k < 12 → y' k = y k) (hd : d ≤ d') : BL x' y' d' := by
  obtain ⟨⟨x0, x1, x2, x3, x4, x5, x6, x7, x8, x9, x10, x11, x12, x13⟩, cu, ne, ra, wr, du, st, pd, dc, fe, rm, lt, ⟨h0, h1, h2, h3, h4, h5, h6, h7, h8, h9, h10⟩, ⟨g0, g1, g2, g3, g4, g5, g6, g7, g8, g9, g10⟩, k1, k2⟩ := h
  refine ⟨⟨?_, ?_, ?_, ?_, ?_, ?_, ?_, ?_, ?_, ?_, ?_, ?_, ?_, ?_⟩, cu, ne, ra, wr, du, st, pd, dc, fe, rm, lt, ⟨?_, ?_, ?_, ?_, ?_, ?_, ?_, ?_, ?_, ?_, ?_⟩, ⟨g0, g1, g2, g3, by omega, g5, g6, g7, by omega, g9, g10⟩, k1, k2⟩
  · rw [hx 0 (by decide), hy 5 (by decide)]; exact x0
  · rw [hx 1 (by decide), hy 0 (by decide)]; exact x1
  · rw [hx 2 (by decide), hy 1 (by decide)]; exact x2
  · rw [hx 3 (by decide), hy 2 (by decide)]; exact x3
  · rw [hx 4 (by decide), hy 1 (by decide), hy 2 (by decide)]; exact x4
  · rw [hx 5 (by decide), hy 1 (by decide), hy 2 (by decide)]; exact x5
  · rw [hx 6 (by decide), hy 3 (by decide)]; exact x6
  · rw [hx 7 (by decide), hy 4 (by decide)]; exact x7
  · rw [hx 8 (by decide), hy 6 (by decide)]; exact x8
  · rw [hx 9 (by decide), hy 7 (by decide)]; exact x9
  · rw [hx 10 (by decide), hy 8 (by decide)]; exact x10
  · rw [hx 11 (by decide), hy 9 (by decide)]; exact x11
  · rw [hx 12 (by decide), hy 10 (by decide)]; exact x12
  · rw [hx 13 (by decide), hy 11 (by decide)]; exact x13
  · rw [hy 0 (by decide)]; exact h0
  · rw [hy 1 (by decide)]; exact h1
  · rw [hy 2 (by decide)]; exact h2
  · rw [hy 3 (by decide)]; exact h3
  · rw [hy 4 (by decide)]; exact h4
  · rw [hy 5 (by decide)]; exact h5
  · rw [hy 6 (by decide)]; exact h6
  · rw [hy 7 (by decide)]; exact h7
  · rw [hy 8 (by decide)]; exact h8
  · rw [hy 9 (by decide)]; exact h9
  · rw [hy 10 (by decide)]; exact h10
theorem EB_c {x x' : Nat → Int32} (h : EB x) (hx : ∀ k, k < 14 → x' k = x k) : EB x' := by
  refine ⟨?_, fun k h1 h2 => ?_, ?_⟩
  · rw [hx 0 (by decide)]; exact h.1
  · rw [hx k (by omega)]; exact h.2.1 k h1 h2
  · rw [hx 13 (by decide)]; exact h.2.2
theorem SE_c {s s' : Nat → Int32} {e p w f t : Nat} (h : SE s e p w f t) (hs : ∀ k, 1 ≤ k → k < 6 → s' k = s k) : SE s' e p w f t := by
  obtain ⟨⟨q1, q2, q3, q4, q5⟩, r⟩ := h
  refine ⟨⟨?_, ?_, ?_, ?_, ?_⟩, r⟩
  · rw [hs 1 (by decide) (by decide)]; exact q1
  · rw [hs 2 (by decide) (by decide)]; exact q2
  · rw [hs 3 (by decide) (by decide)]; exact q3
  · rw [hs 4 (by decide) (by decide)]; exact q4
  · rw [hs 5 (by decide) (by decide)]; exact q5
theorem BR0_head {b b' : Nat → Nat → Int32} {s s' : Nat → Int32} {n d d' : Nat} (h : BR0 b s n d) (hd : d ≤ d') (hr : ∀ j, j < 40 → ∀ k, k < 14 → b' (j + 7) k = b (j + 7) k) (hs : ∀ k, 233 ≤ k → k < 713 → s' k = s k) (hH : HB b' s' n d') : BR0 b' s' n d' := by
  have hn : n ≤ 40 := h.1.1.2
  refine ⟨hH, fun j hj => BL_c (h.2.1 j hj) (fun k hk => hr j (by omega) k hk) (fun k hk => hs _ (by omega) (by omega)) hd, fun j h1 h2 => EB_c (h.2.2 j h1 h2) (fun k hk => hr j h2 k hk)⟩
theorem HB_cred {b b' : Nat → Nat → Int32} {s s' : Nat → Int32} {n d c v : Nat} (h : HB b s n d) (hc : c < 8) (hv : v ≤ 999999) (h2 : b' 2 c = nI v) (h2o : ∀ k, k < 8 → k ≠ c → b' 2 k = b 2 k) (ho : ∀ i, i ≠ 2 → i < 7 → ∀ k, ¬ (i = 0 ∧ k = 7) → b' i k = b i k) (h7 : b' 0 7 = s' 7) (hs : s' (9 + c) = nI v) (hso : ∀ k, k ≠ 9 + c → k ≠ 7 → (k < 17 ∨ (25 ≤ k ∧ k < 225)) → s' k = s k) : HB b' s' n d := by
  obtain ⟨⟨a1, a1'⟩, ⟨a2, a3, a4⟩, ⟨a5, c5, a5c, a5'⟩, a6, a7, ⟨e, p, w, f, t, hE⟩, a9, a10, a11⟩ := h
  refine ⟨⟨?_, a1'⟩, ⟨?_, a3, ?_⟩, ⟨?_, c5, a5c, ?_⟩, h7, ?_, ⟨e, p, w, f, t, SE_c hE (fun k h1 h2 => hso k (by omega) (by omega) (by omega))⟩, ?_, ?_, ?_⟩
  · rw [hso 6 (by omega) (by omega) (by omega)]; exact a1
  · rw [hso 0 (by omega) (by omega) (by omega)]; exact a2
  · rw [hso 0 (by omega) (by omega) (by omega), ho 0 (by decide) (by decide) 5 (by decide)]; exact a4
  · rw [hso 8 (by omega) (by omega) (by omega), ho 0 (by decide) (by decide) 6 (by decide)]; exact a5
  · rw [hso 8 (by omega) (by omega) (by omega)]; exact a5'
  · intro k hk
    rw [hso (1 + k) (by omega) (by omega) (by omega), ho 6 (by decide) (by decide) k (by omega)]; exact a7 k hk
  · intro k hk
    by_cases g : k = c
    · subst g; exact ⟨h2.trans hs.symm, v, hv, hs⟩
    · rw [hso (9 + k) (by omega) (by omega) (by omega), h2o k hk g]; exact a9 k hk
  · intro y hy
    rw [hso (25 + y) (by omega) (by omega) (by omega), ho 3 (by decide) (by decide) y (by omega)]; exact a10 y hy
  · intro y hy
    rw [hso (125 + y) (by omega) (by omega) (by omega), ho 4 (by decide) (by decide) y (by omega)]; exact a11 y hy
theorem tmu_lp {u : Nat → Nat → Int32} : ∀ (m k : Nat) (x : Int32), v_X6_isTooMuch_loop u m k x = 0 ↔ x = 0 ∧ ∀ i, k ≤ i → i < k + m → u 1 (9 + i) ≤ (999999 : Int32) := by
  intro m
  induction m with
  | zero => intro k x; exact ⟨fun h => ⟨h, fun i h1 h2 => absurd h2 (by omega)⟩, fun h => h.1⟩
  | succ m ih =>
    intro k x
    have e : v_X6_isTooMuch_loop u (m + 1) k x = if x = 0 then (if u 1 (9 + k) ≤ (999999 : Int32) then (v_X6_isTooMuch_loop u m (k + 1) (0 : Int32)) else v_X6_isTooMuch_loop u m (k + 1) (1 : Int32)) else v_X6_isTooMuch_loop u m (k + 1) (1 : Int32) := rfl
    rw [e]
    by_cases h0 : x = 0
    · rw [if_pos h0]
      by_cases h1 : u 1 (9 + k) ≤ (999999 : Int32)
      · rw [if_pos h1, ih]
        refine ⟨fun z => ⟨h0, fun i g1 g2 => ?_⟩, fun z => ⟨rfl, fun i g1 g2 => z.2 i (by omega) (by omega)⟩⟩
        by_cases g : i = k
        · subst g; exact h1
        · exact z.2 i (by omega) (by omega)
      · rw [if_neg h1, ih]
        exact ⟨fun z => absurd z.1 (by decide), fun z => absurd (z.2 k (by omega) (by omega)) h1⟩
    · rw [if_neg h0, ih]
      exact ⟨fun z => absurd z.1 (by decide), fun z => absurd z.1 h0⟩
theorem isC1 {c : Nat} (hc : c < 8) : ¬ v_X5_isCustomer (nI c) = 0 ∧ ¬ v_X6_isCustomer (nI c) = 0 := by
  rcases cust_cs (nI c) with ⟨h, -⟩ | ⟨k, -, -, h1, h2, -⟩
  · exfalso
    unfold v_X5_isCustomer at h
    rw [if_neg (nI_pos (by omega)), if_neg (show ¬ (8 : Int32) ≤ nI c from nI_ge (b := 8) hc (by decide))] at h
    exact absurd h (by decide)
  · exact ⟨h1, h2⟩
theorem isA1 {L : Nat} (h1 : 1 ≤ L) (h2 : L ≤ 99999) : ¬ v_X5_isAmount (nI L) = 0 ∧ ¬ v_X6_isAmount (nI L) = 0 := by
  have e : v_X6_isAmount (nI L) = v_X5_isAmount (nI L) := rfl
  rw [e]
  have h : ¬ v_X5_isAmount (nI L) = 0 := by
    unfold v_X5_isAmount
    rw [if_neg (show ¬ nI L < (1 : Int32) from nI_nlt (b := 1) h1 (by omega)), if_neg (show ¬ (99999 : Int32) < nI L from nI_nlt (a := 99999) h2 (by decide))]
    decide
  exact ⟨h, h⟩
theorem addC {b : Nat → Nat → Int32} {c : Nat} {y : Int32} (hc : c < 8) : v_X1_addCredit b (nI c) y = (if (999999 : Int32) < b 2 c + y then (0 : Int32) else (1 : Int32)) ∧ w_X1_addCredit b (nI c) y = up b 2 c (b 2 c + y) := by
  unfold v_X1_addCredit w_X1_addCredit w_X1_setCredit v_X1_creditOf
  rw [if_neg (isC1 hc).1, if_neg (isC1 hc).1, ite_self, nI_clamp (by omega)]
  exact ⟨rfl, rfl⟩
theorem pO_same {b b' : Nat → Nat → Int32} (h : ∀ j, j < 40 → (b' (j + 7) 0 = (-1 : Int32) ↔ b (j + 7) 0 = (-1 : Int32)) ∧ b' (j + 7) 1 = b (j + 7) 1 ∧ b' (j + 7) 8 = b (j + 7) 8) (p : Int32) : v_X1_paidOn b' p = v_X1_paidOn b p := by
  rw [pO_l, pO_l]
  refine lS_c 40 0 (fun i _ h2 => ?_)
  obtain ⟨h3, h4, h5⟩ := h i (by omega)
  rw [h5]
  by_cases g : b (i + 7) 0 = (-1 : Int32)
  · have e1 : v_X0_is b i p (-9) = 0 := by unfold v_X0_is; rw [if_pos g]
    have e2 : v_X0_is b' i p (-9) = 0 := by unfold v_X0_is; rw [if_pos (h3.mpr g)]
    rw [e1, e2]
  · rw [is_any g, is_any (fun z => g (h3.mp z)), h4]
theorem pEnd_k {u : Nat → Nat → Int32} {c k : Nat} {x p : Int32} (h9 : k ≠ 9 + c) (h17 : k ≠ 17 + c) : pEnd u c x p 1 k = u 1 k := by
  unfold pEnd
  rw [up_nk h17, up_nk h9]
theorem pEnd_9 {u : Nat → Nat → Int32} {c : Nat} {x p : Int32} : pEnd u c x p 1 (9 + c) = u 1 (9 + c) + x := by
  unfold pEnd
  rw [up_nk (by omega), up_same]
theorem pEnd_17 {u : Nat → Nat → Int32} {c : Nat} {x p : Int32} : pEnd u c x p 1 (17 + c) = u 1 (17 + c) + p := by
  unfold pEnd
  rw [up_same]
section PF
variable {n d : Nat}
theorem pay_fin {b u b' u' : Nat → Nat → Int32} {c L L' : Nat} (h0 : BR0 b (u 1) n d) (hs : SM b (u 1)) (hc : c < 8) (hL : L ≤ 100000) (hP : PY n d c b u L b' u' L') :
    (v_X1_addCredit b' (nI c) (nI L') = 0 ∧ ¬ v_X6_isTooMuch (pEnd u' c (nI L') (nI L)) = 0) ∨ (¬ v_X1_addCredit b' (nI c) (nI L') = 0 ∧ v_X6_isTooMuch (pEnd u' c (nI L') (nI L)) = 0 ∧ SI (pEnd u' c (nI L') (nI L) 1) ∧ BR0 (w_X1_addCredit b' (nI c) (nI L')) (pEnd u' c (nI L') (nI L) 1) n d ∧ SM (w_X1_addCredit b' (nI c) (nI L')) (pEnd u' c (nI L') (nI L) 1)) := by
  obtain ⟨hm, hB, hLL, ⟨e2, e0⟩, hk, hp, hps, htx⟩ := hP
  obtain ⟨hcr, v, hv, ev⟩ := h0.1.2.2.2.2.2.2.1 c hc
  obtain ⟨a1, a2⟩ := addC (b := b') (y := nI L') hc
  have eb : b' 2 c = nI v := by rw [e2, hcr, ev]
  have eu : u' 1 (9 + c) = nI v := by rw [hk (9 + c) (by omega) (by omega), ev]
  have hT : v_X6_isTooMuch (pEnd u' c (nI L') (nI L)) = 0 ↔ v + L' ≤ 999999 := by
    unfold v_X6_isTooMuch
    rw [tmu_lp]
    constructor
    · intro z
      have := z.2 c (by omega) (by omega)
      rw [pEnd_9, eu, nI_add] at this
      exact (nI_leI (b := 999999) (by omega) (by decide)).mp this
    · intro z
      refine ⟨rfl, fun i _ hi => ?_⟩
      by_cases g : i = c
      · subst g
        rw [pEnd_9, eu, nI_add]
        exact (nI_leI (b := 999999) (by omega) (by decide)).mpr z
      · rw [pEnd_k (by omega) (by omega)]
        obtain ⟨-, w, hw, ew⟩ := hB.1.2.2.2.2.2.2.1 i (by omega)
        rw [ew]
        exact (nI_leI (b := 999999) (by omega) (by decide)).mpr hw
  rw [a1, a2, eb, nI_add]
  by_cases g : v + L' ≤ 999999
  · right
    have g2 : ¬ (999999 : Int32) < nI (v + L') := nI_nlt (a := 999999) g (by decide)
    have hu2 : ∀ i, i ≠ 2 → up b' 2 c (nI (v + L')) i = b' i := fun i hi => up_oi hi
    rw [if_neg g2]
    refine ⟨by decide, hT.mpr g, ?_, ?_, ?_⟩
    · exact (pay2_PR hm hc).1
    · refine BR0_head hB (Nat.le_refl _) (fun j hj k hk => by rw [hu2 _ (by omega)]) (fun k h1 h2 => pEnd_k (by omega) (by omega)) (HB_cred hB.1 hc (v := v + L') g up_same (fun k hk hkc => up_nk hkc) (fun i h2 h7 k _ => by rw [hu2 i h2]) ?_ ?_ (fun k h1 h7 h2 => pEnd_k h1 (by omega)))
      · rw [hu2 0 (by decide), pEnd_k (by omega) (by omega)]; exact hB.1.2.2.2.1
      · rw [pEnd_9, eu, nI_add]
    · have hpp : ∀ p, v_X1_paidOn (up b' 2 c (nI (v + L'))) p = v_X1_paidOn b' p := pO_same (fun j hj => by rw [hu2 (j + 7) (by omega)]; exact ⟨Iff.rfl, rfl, rfl⟩)
      refine ⟨fun q hq => ?_, ?_, fun y hy => ?_⟩
      · rw [hpp]
        have h3 := hp (nI q)
        have h4 := hs.1 q hq
        have h9 : ¬ nI q = (-9 : Int32) := nI_nm (by omega) (by decide)
        by_cases g3 : q = c
        · subst g3
          rw [up_same, pEnd_17, pEnd_k (by omega) (by omega), hk (17 + q) (by omega) (by omega)]
          have h5 : u' 1 (225 + q) = u 1 (225 + q) := hk (225 + q) (by omega) (by omega)
          rw [h5]
          rw [if_pos (Or.inr rfl), if_pos (Or.inr rfl)] at h3
          rw [hcr, ev] at h4
          have h6 : nI (v + L') = nI v + nI L' := (nI_add v L').symm
          rw [h6]
          grind
        · have g4 : ¬ (nI q = (-9 : Int32) ∨ nI q = nI c) := fun z => z.elim h9 (fun z => g3 ((nI_eq (by omega) (by omega)).mp z))
          rw [if_neg g4, if_neg g4, Int32.add_zero, Int32.add_zero] at h3
          rw [up_nk g3, pEnd_k (by omega) (by omega), pEnd_k (by omega) (by omega), hk (17 + q) (by omega) (by omega), hk (225 + q) (by omega) (by omega), h3, e2]
          exact h4
      · rw [hpp, aC_up (b := b') (c := c) hc (fun k hk hkc => up_nk hkc) up_same]
        have h3 := hp (-9)
        rw [if_pos (Or.inl rfl), if_pos (Or.inl rfl)] at h3
        have h4 := hs.2.1
        have h5 : v_X1_allCredit b' = v_X1_allCredit b := by rw [aC_l, aC_l, e2]
        rw [hu2 0 (by decide), e0, h5, lS_up (f := fun k => u 1 (17 + k)) (j := c) 8 0 (Nat.zero_le _) (by omega) (fun i _ h2 h3 => by rw [pEnd_k (by omega) (by omega), hk (17 + i) (by omega) (by omega)]), pEnd_17, hk (17 + c) (by omega) (by omega), eb]
        have h6 : nI (v + L') = nI v + nI L' := (nI_add v L').symm
        rw [h6]
        grind
      · obtain ⟨w, hw, ew⟩ := hs.2.2 y hy
        obtain ⟨w', hw', ew'⟩ := htx y w hy ew
        refine ⟨w', ?_, (pEnd_k (by omega) (by omega)).trans ew'⟩
        rw [ps_same (b := b') (fun j hj => by rw [hu2 (j + 7) (by omega)])]
        omega
  · left
    rw [if_pos (show (999999 : Int32) < nI (v + L') from nI_lt (a := 999999) (by omega) (by omega))]
    exact ⟨rfl, fun z => g (hT.mp z)⟩
theorem takePay {b u : Nat → Nat → Int32} {c L : Nat} (hm : SI (u 1)) (h : BR0 b (u 1) n d) (hs : SM b (u 1)) (hc : c < 8) (hL : 1 ≤ L) (hL2 : L ≤ 99999) :
    (v_X1_takePayment b (nI c) (nI L) = (-3 : Int32) ∧ ¬ v_X6_isTooMuch (w_X6_paysAll u c (nI L)) = 0) ∨ (∃ t : Nat, t ≤ 40 ∧ v_X1_takePayment b (nI c) (nI L) = nI t ∧ v_X6_isTooMuch (w_X6_paysAll u c (nI L)) = 0 ∧ v_X6_paysAll u c (nI L) = nI t ∧ SI (w_X6_paysAll u c (nI L) 1) ∧ BR0 (w_X1_takePayment b (nI c) (nI L)) (w_X6_paysAll u c (nI L) 1) n d ∧ SM (w_X1_takePayment b (nI c) (nI L)) (w_X6_paysAll u c (nI L) 1)) := by
  have hn : n ≤ 40 := h.1.1.2
  obtain ⟨b', u', L', t', f0, f1, f2, f3, f4, f5⟩ := pay_lp (n := n) (d := d) hc (nI L) hn n 0 b u L 0 (by omega) hm h (by omega)
  have e1 : v_X1_takePayment b (nI c) (nI L) = (if v_X1_addCredit b' (nI c) (nI L') = 0 then (-3 : Int32) else nI t') := by
    unfold v_X1_takePayment
    rw [if_neg (isC1 hc).1, if_neg (isA1 hL hL2).1]
    exact f2
  have e2 : w_X1_takePayment b (nI c) (nI L) = w_X1_addCredit b' (nI c) (nI L') := by
    unfold w_X1_takePayment
    rw [if_neg (isC1 hc).1, if_neg (isA1 hL hL2).1]
    exact f3
  have e3 : v_X6_paysAll u c (nI L) = nI t' := by
    unfold v_X6_paysAll
    rw [BR_nb h]; exact f4
  have e4 : w_X6_paysAll u c (nI L) = pEnd u' c (nI L') (nI L) := by
    unfold w_X6_paysAll
    rw [BR_nb h]; exact f5
  rw [e1, e2, e3, e4]
  rcases pay_fin h hs hc (by omega) f1 with ⟨g1, g2⟩ | ⟨g1, g2, g3, g4, g5⟩
  · left
    rw [if_pos g1]; exact ⟨rfl, g2⟩
  · right
    rw [if_neg g1]
    exact ⟨t', by omega, rfl, g2, rfl, g3, g4, g5⟩
theorem takeFor {b u : Nat → Nat → Int32} {j L : Nat} (hm : SI (u 1)) (h : BR0 b (u 1) n d) (hs : SM b (u 1)) (hj : j < n) (hL : 1 ≤ L) (hL2 : L ≤ 99999) (hst : ¬ u 1 (233 + 12 * j + 5) = (1 : Int32)) (hat : v_X1_billAt b (nI j) = some j) :
    (v_X1_takePaymentFor b (nI j) (nI L) = (-3 : Int32) ∧ ¬ v_X6_isTooMuch (w_X6_paidOn u j (nI L)) = 0) ∨ (∃ t : Nat, t ≤ 100000 ∧ v_X1_takePaymentFor b (nI j) (nI L) = nI t ∧ v_X6_isTooMuch (w_X6_paidOn u j (nI L)) = 0 ∧ v_X6_paidOn u j (nI L) = nI t ∧ SI (w_X6_paidOn u j (nI L) 1) ∧ BR0 (w_X1_takePaymentFor b (nI j) (nI L)) (w_X6_paidOn u j (nI L) 1) n d ∧ SM (w_X1_takePaymentFor b (nI j) (nI L)) (w_X6_paidOn u j (nI L) 1)) := by
  have hn : n ≤ 40 := h.1.1.2
  obtain ⟨c, hc, ec⟩ := cu_ok h hj
  obtain ⟨A, hA, p1, p3, hPY⟩ := pay_PY hm h hj ec hst hL (by omega)
  have x0 : b (j + 7) 0 = u 1 (233 + 12 * j + 5) := (h.2.1 j hj).1.1
  have x1' : w_X1_payOn b j (nI L) (j + 7) 1 = nI c := by
    have e1 : w_X1_payOn b j (nI L) (j + 7) 1 = w_X6_takesOf u j (nI L) 1 (233 + 12 * j + 0) := (hPY.2.1.2.1 j hj).1.2.1
    obtain ⟨A', -, -, -, -, -, -, -, -, f5, -⟩ := pay_step hm h hj hst hL (by omega)
    rw [e1, f5, ec]
  have scu : sN (u 1) (233 + 12 * j + 0) = c := (sN_of ec (by omega)).2
  have eP : w_X6_paidOn u j (nI L) = pEnd (w_X6_takesOf u j (nI L)) c (nI (L - A)) (nI L) := by
    unfold w_X6_paidOn pEnd
    rw [scu, p3, pk_sub hA, hPY.2.2.2.2.1 (9 + c) (by omega) (by omega)]
  have eV : v_X6_paidOn u j (nI L) = v_X6_owedOn (w_X6_paidOn u j (nI L)) j := rfl
  have e1 : v_X1_takePaymentFor b (nI j) (nI L) = (if v_X1_addCredit (w_X1_payOn b j (nI L)) (nI c) (nI (L - A)) = 0 then (-3 : Int32) else v_X0_owed (w_X1_addCredit (w_X1_payOn b j (nI L)) (nI c) (nI (L - A))) j) := by
    unfold v_X1_takePaymentFor
    rw [oel_s hat, if_neg (isA1 hL hL2).1, x0, if_neg hst, p1, pk_sub hA, x1']
  have e2 : w_X1_takePaymentFor b (nI j) (nI L) = w_X1_addCredit (w_X1_payOn b j (nI L)) (nI c) (nI (L - A)) := by
    unfold w_X1_takePaymentFor
    rw [oel_s hat, if_neg (isA1 hL hL2).1, x0, if_neg hst, p1, pk_sub hA, x1', ite_self]
  rw [e1, e2, eV, eP]
  rcases pay_fin h hs hc (by omega) hPY with ⟨g1, g2⟩ | ⟨g1, g2, g3, g4, g5⟩
  · left
    rw [if_pos g1]; exact ⟨rfl, g2⟩
  · right
    rw [if_neg g1]
    obtain ⟨-, cu, ne, ra, wr, du, st, pd, dc, fe, rm, lt, hN⟩ := g4.2.1 j hj
    have eo := BR_owedN g4 hj hN
    have hb := hN.2
    exact ⟨_, by omega, (BR_owed g4 hj).trans eo, g2, eo, g3, g4, g5⟩
end PF
