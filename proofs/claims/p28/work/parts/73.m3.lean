/-! a payment through the bills -/
/-- how many wait from k on, and the least payment for them -/
def cO (b : Nat → Nat → Int32) (c : Nat) (m k : Nat) : Nat := nS (fun i => if v_X0_is b i (nI c) (0 : Int32) = 0 then 0 else 1) m k
def lO (b : Nat → Nat → Int32) (c : Nat) (m k : Nat) : Nat := nS (fun i => if v_X0_is b i (nI c) (0 : Int32) = 0 then 0 else oN b i - dN b i) m k
section PB
variable {b b' : Nat → Nat → Int32} {n d j : Nat}
theorem row_is {i : Nat} (h : b' (i + 7) = b (i + 7)) (p1 p2 : Int32) : v_X0_is b' i p1 p2 = v_X0_is b i p1 p2 := by
  unfold v_X0_is
  rw [h]
theorem row_ow {i : Nat} (h : b' (i + 7) = b (i + 7)) : v_X0_owed b' i = v_X0_owed b i := by
  unfold v_X0_owed
  rw [h]
theorem row_di {i : Nat} (h : b' (i + 7) = b (i + 7)) (h0 : b' 0 = b 0) (h6 : b' 6 = b 6) : v_X1_discountOn b' i = v_X1_discountOn b i := by
  unfold v_X1_discountOn v_X3_discountDays v_X3_discountPercent
  rw [row_ow h, h, h0, h6]
theorem cO_c {c m k : Nat} (h : ∀ i, k ≤ i → i < k + m → b' (i + 7) = b (i + 7)) : cO b' c m k = cO b c m k := nS_c m k (fun i g1 g2 => by
  show (if _ then _ else _) = _
  rw [row_is (h i g1 g2)])
theorem lO_c {c m k : Nat} (h : ∀ i, k ≤ i → i < k + m → b' (i + 7) = b (i + 7)) (h0 : b' 0 = b 0) (h6 : b' 6 = b 6) : lO b' c m k = lO b c m k := nS_c m k (fun i g1 g2 => by
  show (if _ then 0 else oN b' i - dN b' i) = if _ then 0 else oN b i - dN b i
  unfold oN dN
  rw [row_is (h i g1 g2), row_ow (h i g1 g2), row_di (h i g1 g2) h0 h6])
theorem opn_c {c i : Nat} (h : b' (i + 7) = b (i + 7)) : opn b' c i ↔ opn b c i := by
  unfold opn
  rw [h]
theorem cO_le (c m k : Nat) : cO b c m k ≤ m := by
  have h := nS_le (f := fun i => if v_X0_is b i (nI c) (0 : Int32) = 0 then 0 else 1) (B := 1) m k (fun i _ _ => by
    show (if _ then 0 else 1) ≤ 1
    split <;> omega)
  unfold cO
  omega
set_option maxHeartbeats 4000000 in
theorem tp_lp {c : Nat} (hc : c < 8) (p2 : Int32) : ∀ (m k : Nat) (b : Nat → Nat → Int32) (x q : Nat), k + m = 40 → KI b n d → x ≤ 99999 → ∃ (r x' : Nat) (b1 : Nat → Nat → Int32),
    v_X1_takePayment_loop (nI c) p2 m k b (nI x) (nI q) = (if v_X1_addCredit b1 (nI c) (nI x') = 0 then (-3 : Int32) else nI (q + r)) ∧
    w_X1_takePayment_loop (nI c) p2 m k b (nI x) (nI q) = w_X1_addCredit b1 (nI c) (nI x') ∧
    KI b1 n d ∧ x' ≤ x ∧ r ≤ cO b c m k ∧ (x < lO b c m k → r < cO b c m k) ∧
    (x = lO b c m k → r = cO b c m k ∧ x' = 0 ∧ ∀ i, k ≤ i → i < 40 → opn b c i → b1 (i + 7) 0 = (1 : Int32)) ∧
    (∀ i, (i < k ∨ ¬ opn b c i) → b1 (i + 7) = b (i + 7)) ∧ b1 2 = b 2 ∧ b1 0 = b 0 := by
  intro m
  induction m with
  | zero =>
    intro k b x q hk h hx
    refine ⟨0, x, b, rfl, ?_, h, Nat.le_refl x, Nat.zero_le _, fun z => absurd z (Nat.not_lt_zero x), fun z => ⟨rfl, z, fun i g1 g2 => absurd g2 (by omega)⟩, fun _ _ => rfl, rfl, rfl⟩
    show (if _ then _ else _) = _
    rw [ite_self]
  | succ m ih =>
    intro k b x q hk h hx
    have hk40 : k < 40 := by omega
    by_cases c1 : v_X0_is b k (nI c) (0 : Int32) = 0
    · obtain ⟨r, x', b1, e1, e2, e3, e4, e5, e6, e7, e8, e9, e10⟩ := ih (k + 1) b x q (by omega) h hx
      have hC : cO b c (m + 1) k = cO b c m (k + 1) := by
        show (if _ then _ else _) + nS _ m (k + 1) = _
        rw [if_pos c1, Nat.zero_add]; rfl
      have hL : lO b c (m + 1) k = lO b c m (k + 1) := by
        show (if _ then _ else _) + nS _ m (k + 1) = _
        rw [if_pos c1, Nat.zero_add]; rfl
      have hno : ¬ opn b c k := (is_op hc).mp c1
      rw [hC, hL]
      refine ⟨r, x', b1, ?_, ?_, e3, e4, e5, e6, fun z => ⟨(e7 z).1, (e7 z).2.1, fun i g1 g2 g3 => ?_⟩, fun i hi => e8 i (hi.elim (fun z => Or.inl (by omega)) Or.inr), e9, e10⟩
      · show (if _ then _ else _) = _
        rw [if_pos c1]; exact e1
      · show (if _ then _ else _) = _
        rw [if_pos c1]; exact e2
      · rcases Nat.eq_or_lt_of_le g1 with e | e
        · subst e; exact absurd g3 hno
        · exact (e7 z).2.2 i e g2 g3
    · have ho : opn b c k := by
        by_cases z : opn b c k
        · exact z
        · exact absurd ((is_op hc).mpr z) c1
      have hkn := op_lt h hk40 ho
      have hO := op_o h hk40 ho
      obtain ⟨d1, d2⟩ := di_e h hkn hO
      obtain ⟨o1, o2, -⟩ := ow_e h hkn
      have hs : ¬ b (k + 7) 0 = (1 : Int32) := by rw [ho.1]; decide
      obtain ⟨s1, s2, s3, s4, s5, s6⟩ := pay_step h hkn hs (L := x) (by omega)
      have hrow : ∀ i, i ≠ k → w_X1_payOn b k (nI x) (i + 7) = b (i + 7) := fun i hi => s3 (i + 7) (by omega) (by omega)
      have hC : cO b c (m + 1) k = 1 + cO (w_X1_payOn b k (nI x)) c m (k + 1) := by
        rw [cO_c (b := b) (fun i g1 g2 => hrow i (by omega))]
        show (if _ then _ else _) + nS _ m (k + 1) = _
        rw [if_neg c1]; rfl
      have hL : lO b c (m + 1) k = (oN b k - dN b k) + lO (w_X1_payOn b k (nI x)) c m (k + 1) := by
        rw [lO_c (b := b) (fun i g1 g2 => hrow i (by omega)) (s3 0 (by omega) (by omega)) (s3 6 (by omega) (by omega))]
        show (if _ then _ else _) + nS _ m (k + 1) = _
        rw [if_neg c1]; rfl
      by_cases g : x < oN b k - dN b k
      · have hst : ¬ w_X1_payOn b k (nI x) (k + 7) 0 = (1 : Int32) := by rw [s5 g]; exact hs
        have ex : nI x - nI (if x < oN b k - dN b k then x else oN b k - dN b k) = nI 0 := by rw [if_pos g, pk_sub (Nat.le_refl x), Nat.sub_self]
        obtain ⟨r, x', b1, e1, e2, e3, e4, e5, e6, e7, e8, e9, e10⟩ := ih (k + 1) (w_X1_payOn b k (nI x)) 0 q (by omega) s2 (by omega)
        refine ⟨r, x', b1, ?_, ?_, e3, by omega, by omega, fun z => by omega, fun z => absurd z (by omega), fun i hi => ?_, e9.trans (s3 2 (by omega) (by omega)), e10.trans (s3 0 (by omega) (by omega))⟩
        · show (if _ then _ else if _ then _ else _) = _
          rw [if_neg c1, if_neg hst, s1, ex, Int32.add_zero]; exact e1
        · show (if _ then _ else if _ then _ else _) = _
          rw [if_neg c1, if_neg hst, s1, ex, Int32.add_zero]; exact e2
        · have hik : i ≠ k := fun z => by subst z; exact hi.elim (fun z => absurd z (Nat.lt_irrefl i)) (fun z => z ho)
          rw [e8 i (hi.elim (fun z => Or.inl (by omega)) (fun z => Or.inr (fun y => z ((opn_c (hrow i hik)).mp y)))), hrow i hik]
      · have hst := s6 g
        have ex : nI x - nI (if x < oN b k - dN b k then x else oN b k - dN b k) = nI (x - (oN b k - dN b k)) := by rw [if_neg g, pk_sub (by omega)]
        obtain ⟨r, x', b1, e1, e2, e3, e4, e5, e6, e7, e8, e9, e10⟩ := ih (k + 1) (w_X1_payOn b k (nI x)) (x - (oN b k - dN b k)) (q + 1) (by omega) s2 (by omega)
        refine ⟨r + 1, x', b1, ?_, ?_, e3, by omega, by omega, fun z => ?_, fun z => ?_, fun i hi => ?_, e9.trans (s3 2 (by omega) (by omega)), e10.trans (s3 0 (by omega) (by omega))⟩
        · show (if _ then _ else if _ then _ else _) = _
          rw [if_neg c1, if_pos hst, s1, ex, nI_1, show q + (r + 1) = q + 1 + r by omega]; exact e1
        · show (if _ then _ else if _ then _ else _) = _
          rw [if_neg c1, if_pos hst, s1, ex, nI_1]; exact e2
        · have := e6 (by omega)
          omega
        · obtain ⟨f1, f2, f3⟩ := e7 (by omega)
          refine ⟨by omega, f2, fun i g1 g2 g3 => ?_⟩
          rcases Nat.eq_or_lt_of_le g1 with e | e
          · subst e
            rw [e8 k (Or.inl (by omega))]; exact hst
          · exact f3 i e g2 ((opn_c (hrow i (by omega))).mpr g3)
        · have hik : i ≠ k := fun z => by subst z; exact hi.elim (fun z => absurd z (Nat.lt_irrefl i)) (fun z => z ho)
          rw [e8 i (hi.elim (fun z => Or.inl (by omega)) (fun z => Or.inr (fun y => z ((opn_c (hrow i hik)).mp y)))), hrow i hik]
/-- credit -/
theorem cr_1 {c : Nat} (hc : c < 8) : v_X1_creditOf b (nI c) = b 2 c := by
  unfold v_X1_creditOf
  rw [if_neg (cust_1 hc), nI_clamp (by omega)]
theorem sc_1 {c : Nat} (hc : c < 8) (v : Int32) : w_X1_setCredit b (nI c) v = up b 2 c v := by
  unfold w_X1_setCredit
  rw [if_neg (cust_1 hc), nI_clamp (by omega)]
theorem KI_cr (h : KI b n d) {c v : Nat} (hv : v ≤ 999999) : KI (up b 2 c (nI v)) n d := by
  obtain ⟨⟨a1, a2, a3⟩, ⟨y, a4, a5, a6⟩, a7, a8, a9, a10, a11⟩ := h
  have hr : ∀ i, i ≠ 2 → up b 2 c (nI v) i = b i := fun i hi => up_oi hi
  have hp : pS (up b 2 c (nI v)) = pS b := pS_c (fun j _ => by rw [hr (j + 7) (by omega)])
  refine ⟨⟨a1, a2, by rw [hr 0 (by omega)]; exact a3⟩, ⟨y, a4, by rw [hr 0 (by omega)]; exact a5, fun k hk => by rw [hr 4 (by omega)]; exact a6 k hk⟩, SE_c a7 (fun k _ => by rw [hr 6 (by omega)]), fun k hk => ?_, fun q hq => by rw [hp, hr 3 (by omega)]; exact a9 q hq, fun j hj => by rw [hr (j + 7) (by omega)]; exact a10 j hj, fun j g1 g2 => by rw [hr (j + 7) (by omega)]; exact a11 j g1 g2⟩
  by_cases e : k = c
  · subst e; exact ⟨v, hv, up_same⟩
  · obtain ⟨w, hw, ew⟩ := a8 k hk
    exact ⟨w, hw, (up_nk e).trans ew⟩
theorem ac_cs {c v x : Nat} (hc : c < 8) (hv : b 2 c = nI v) (h1 : v ≤ 999999) (hx : x ≤ 1000000) : (v + x ≤ 999999 ∧ ¬ v_X1_addCredit b (nI c) (nI x) = 0 ∧ w_X1_addCredit b (nI c) (nI x) = up b 2 c (nI (v + x))) ∨ (999999 < v + x ∧ v_X1_addCredit b (nI c) (nI x) = 0) := by
  unfold v_X1_addCredit w_X1_addCredit
  rw [ite_self, cr_1 hc, hv, nI_add, sc_1 hc]
  by_cases g : v + x ≤ 999999
  · left
    rw [if_neg (show ¬ (999999 : Int32) < nI (v + x) from fun z => absurd ((nI_ltI (a := 999999) (b := v + x) (by decide) (by omega)).mp z) (by omega))]
    exact ⟨g, by decide, rfl⟩
  · right
    rw [if_pos (show (999999 : Int32) < nI (v + x) from (nI_ltI (a := 999999) (b := v + x) (by decide) (by omega)).mpr (by omega))]
    exact ⟨by omega, rfl⟩
/-- a payment for the waiting bills of a customer -/
theorem tp_1 (h : KI b n d) {c L : Nat} (hc : c < 8) (h1 : 1 ≤ L) (h2 : L ≤ 99999) : ∃ (r x' v : Nat) (b1 : Nat → Nat → Int32), b 2 c = nI v ∧ v ≤ 999999 ∧ b1 2 = b 2 ∧
    ((v + x' ≤ 999999 ∧ v_X1_takePayment b (nI c) (nI L) = nI r ∧ w_X1_takePayment b (nI c) (nI L) = up b1 2 c (nI (v + x'))) ∨ (999999 < v + x' ∧ v_X1_takePayment b (nI c) (nI L) = (-3 : Int32))) ∧
    KI b1 n d ∧ x' ≤ L ∧ r ≤ cO b c 40 0 ∧ (L < lO b c 40 0 → r < cO b c 40 0) ∧
    (L = lO b c 40 0 → r = cO b c 40 0 ∧ x' = 0 ∧ ∀ i, i < 40 → opn b c i → b1 (i + 7) 0 = (1 : Int32)) ∧
    (∀ i, ¬ opn b c i → b1 (i + 7) = b (i + 7)) := by
  obtain ⟨v, hv, ev⟩ := h.2.2.2.1 c hc
  obtain ⟨r, x', b1, e1, e2, e3, e4, e5, e6, e7, e8, e9, e10⟩ := tp_lp (n := n) (d := d) hc (nI L) 40 0 b L 0 rfl h h2
  have hv1 : v_X1_takePayment b (nI c) (nI L) = v_X1_takePayment_loop (nI c) (nI L) 40 0 b (nI L) (nI 0) := by
    unfold v_X1_takePayment
    rw [if_neg (cust_1 hc), if_neg (amt_1 h1 h2)]; rfl
  have hw1 : w_X1_takePayment b (nI c) (nI L) = w_X1_takePayment_loop (nI c) (nI L) 40 0 b (nI L) (nI 0) := by
    unfold w_X1_takePayment
    rw [if_neg (cust_1 hc), if_neg (amt_1 h1 h2)]; rfl
  refine ⟨r, x', v, b1, ev, hv, e9, ?_, e3, e4, e5, e6, fun z => ⟨(e7 z).1, (e7 z).2.1, fun i g1 g2 => (e7 z).2.2 i (Nat.zero_le i) g1 g2⟩, fun i hi => e8 i (Or.inr hi)⟩
  rcases ac_cs (b := b1) (x := x') hc (by rw [e9]; exact ev) hv (by omega) with ⟨g1, g2, g3⟩ | ⟨g1, g2⟩
  · left
    rw [hv1, hw1, e1, e2, if_neg g2, Nat.zero_add]
    exact ⟨g1, rfl, g3⟩
  · right
    rw [hv1, e1, if_pos g2]
    exact ⟨g1, rfl⟩
/-- some book with these numbers -/
def KX (b : Nat → Nat → Int32) : Prop := ∃ n d : Nat, KI b n d
theorem KX_cp {b b1 : Nat → Nat → Int32} (h : KX b1) (hc : cpE b b1) : KX b := by
  obtain ⟨n, d, h⟩ := h
  exact ⟨n, d, KI_cp h hc⟩
theorem K_pay (h : KI b n d) (p1 p2 : Int32) (ha : ¬ v_X1_takePayment b p1 p2 < 0) : KI (w_X1_takePayment b p1 p2) n d := by
  rcases cust_cs p1 with z | ⟨c, hc, rfl, -, -⟩
  · refine absurd ?_ ha
    unfold v_X1_takePayment
    rw [if_pos z]; decide
  rcases amt_cs p2 with z | ⟨L, h1, h2, rfl, -⟩
  · refine absurd ?_ ha
    unfold v_X1_takePayment
    rw [if_neg (cust_1 hc), if_pos z]; decide
  obtain ⟨r, x', v, b1, e1, e2, e3, e4, e5, e6, e7⟩ := tp_1 h hc h1 h2
  rcases e4 with ⟨g1, g2, g3⟩ | ⟨g1, g2⟩
  · rw [g3]; exact KI_cr e5 g1
  · rw [g2] at ha; exact absurd (by decide) ha
end PB
