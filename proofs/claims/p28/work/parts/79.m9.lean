/-! books that are alike answer alike -/
section CP
variable {b b' : Nat → Nat → Int32} {j : Nat}
theorem cpE_up (h : cpE b b') (i k : Nat) (v : Int32) : cpE (up b i k v) (up b' i k v) := by
  obtain ⟨c0, c2, c3, c4, c6, cj⟩ := h
  unfold up
  refine ⟨fun q g1 g2 => ?_, fun q hq => ?_, fun q hq => ?_, fun q hq => ?_, fun q hq => ?_, fun p hp q hq => ?_⟩
  · exact ite_congr rfl (fun _ => rfl) (fun _ => c0 q g1 g2)
  · exact ite_congr rfl (fun _ => rfl) (fun _ => c2 q hq)
  · exact ite_congr rfl (fun _ => rfl) (fun _ => c3 q hq)
  · exact ite_congr rfl (fun _ => rfl) (fun _ => c4 q hq)
  · exact ite_congr rfl (fun _ => rfl) (fun _ => c6 q hq)
  · exact ite_congr rfl (fun _ => rfl) (fun _ => cj p hp q hq)
theorem cp_is (h : cpE b b') (hj : j < 40) (p1 p2 : Int32) : v_X0_is b j p1 p2 = v_X0_is b' j p1 p2 := by
  have cj := h.2.2.2.2.2 j hj
  unfold v_X0_is
  rw [cj 0 (by decide), cj 1 (by decide)]
theorem cp_ow (h : cpE b b') (hj : j < 40) : v_X0_owed b j = v_X0_owed b' j := by
  have cj := h.2.2.2.2.2 j hj
  unfold v_X0_owed
  rw [cj 5 (by decide), cj 10 (by decide), cj 8 (by decide), cj 9 (by decide)]
theorem cp_di (h : cpE b b') (hj : j < 40) : v_X1_discountOn b j = v_X1_discountOn b' j := by
  have cj := h.2.2.2.2.2 j hj
  unfold v_X1_discountOn v_X3_discountDays v_X3_discountPercent
  rw [cp_ow h hj, cj 11 (by decide), cj 6 (by decide), cj 5 (by decide), h.1 5 (by decide) (by decide), h.2.2.2.2.1 0 (by decide), h.2.2.2.2.1 1 (by decide)]
theorem cp_tm (h : cpE b b') (hj : j < 40) (A D t : Int32) : cpE (w_X0_takeMoney b j A D t) (w_X0_takeMoney b' j A D t) := by
  have cj := h.2.2.2.2.2 j hj
  unfold w_X0_takeMoney
  rw [cj 8 (by decide), cj 9 (by decide)]
  have h3 := cpE_up (cpE_up (cpE_up h (j + 7) 8 (b' (j + 7) 8 + A)) (j + 7) 9 (b' (j + 7) 9 + D)) (j + 7) 13 t
  rw [cp_ow h3 hj]
  by_cases c : 0 < v_X0_owed (up (up (up b' (j + 7) 8 (b' (j + 7) 8 + A)) (j + 7) 9 (b' (j + 7) 9 + D)) (j + 7) 13 t) j
  · rw [if_pos c, if_pos c]; exact h3
  · rw [if_neg c, if_neg c]; exact cpE_up h3 _ _ _
/-- money taken, and its tax -/
def tkT (T : Nat → Nat → Int32) (j : Nat) (A : Int32) : Nat → Nat → Int32 := if v_X5_isYear ((T 0 5) / (100 : Int32)) = 0 then T else up T 3 (((T 0 5) / (100 : Int32)).toNatClampNeg) ((T 3 (((T 0 5) / (100 : Int32)).toNatClampNeg)) + (v_X0_taxIn T j A))
theorem cp_tkT {T T' : Nat → Nat → Int32} (h : cpE T T') (hj : j < 40) (A : Int32) : cpE (tkT T j A) (tkT T' j A) := by
  unfold tkT
  rw [h.1 5 (by decide) (by decide)]
  by_cases c : v_X5_isYear ((T' 0 5) / (100 : Int32)) = 0
  · rw [if_pos c, if_pos c]; exact h
  · rw [if_neg c, if_neg c]
    have e1 : v_X0_taxIn T j A = v_X0_taxIn T' j A := by
      unfold v_X0_taxIn
      rw [h.2.2.2.2.2 j hj 3 (by decide)]
    rcases year_cs ((T' 0 5) / (100 : Int32)) with z | ⟨y, hy, ey, -, ec⟩
    · exact absurd z c
    · rw [e1, ec, h.2.2.1 y hy]
      exact cpE_up h _ _ _
theorem pOn_e (p2 : Int32) : v_X1_payOn b j p2 = (if 0 < p2 then (if p2 < (v_X0_owed b j) - (v_X1_discountOn b j) then p2 else (v_X0_owed b j) - (v_X1_discountOn b j)) else (0 : Int32)) ∧ w_X1_payOn b j p2 = (if 0 < p2 then (if p2 < (v_X0_owed b j) - (v_X1_discountOn b j) then tkT (w_X0_takeMoney b j p2 (0 : Int32) (b 0 5)) j p2 else tkT (w_X0_takeMoney b j ((v_X0_owed b j) - (v_X1_discountOn b j)) (v_X1_discountOn b j) (b 0 5)) j ((v_X0_owed b j) - (v_X1_discountOn b j))) else b) := by
  unfold v_X1_payOn w_X1_payOn
  rw [ite_self, ite_self]
  exact ⟨rfl, rfl⟩
theorem cp_pay (h : cpE b b') (hj : j < 40) (p2 : Int32) : v_X1_payOn b j p2 = v_X1_payOn b' j p2 ∧ cpE (w_X1_payOn b j p2) (w_X1_payOn b' j p2) := by
  rw [(pOn_e (b := b) p2).1, (pOn_e (b := b) p2).2, (pOn_e (b := b') p2).1, (pOn_e (b := b') p2).2, cp_ow h hj, cp_di h hj, h.1 5 (by decide) (by decide)]
  refine ⟨rfl, ?_⟩
  by_cases c1 : 0 < p2
  · rw [if_pos c1, if_pos c1]
    by_cases c2 : p2 < (v_X0_owed b' j) - (v_X1_discountOn b' j)
    · rw [if_pos c2, if_pos c2]; exact cp_tkT (cp_tm h hj _ _ _) hj _
    · rw [if_neg c2, if_neg c2]; exact cp_tkT (cp_tm h hj _ _ _) hj _
  · rw [if_neg c1, if_neg c1]; exact h
theorem cp_cr (h : cpE b b') {c : Nat} (hc : c < 8) : v_X1_creditOf b (nI c) = v_X1_creditOf b' (nI c) := by
  rw [cr_1 hc, cr_1 hc, h.2.1 c hc]
theorem cp_ac (h : cpE b b') {c : Nat} (hc : c < 8) (x : Int32) : v_X1_addCredit b (nI c) x = v_X1_addCredit b' (nI c) x ∧ cpE (w_X1_addCredit b (nI c) x) (w_X1_addCredit b' (nI c) x) := by
  unfold v_X1_addCredit w_X1_addCredit
  rw [ite_self, ite_self, cp_cr h hc, sc_1 hc, sc_1 hc]
  exact ⟨rfl, cpE_up h _ _ _⟩
theorem cp_lpP {c : Nat} (hc : c < 8) (p2 : Int32) : ∀ (m k : Nat) (b b' : Nat → Nat → Int32) (x3 x4 : Int32), k + m = 40 → cpE b b' → v_X1_takePayment_loop (nI c) p2 m k b x3 x4 = v_X1_takePayment_loop (nI c) p2 m k b' x3 x4 ∧ cpE (w_X1_takePayment_loop (nI c) p2 m k b x3 x4) (w_X1_takePayment_loop (nI c) p2 m k b' x3 x4) := by
  intro m
  induction m with
  | zero =>
    intro k b b' x3 x4 hk h
    have e1 : v_X1_takePayment_loop (nI c) p2 0 k b x3 x4 = if v_X1_addCredit b (nI c) x3 = 0 then (-3 : Int32) else x4 := rfl
    have e2 : v_X1_takePayment_loop (nI c) p2 0 k b' x3 x4 = if v_X1_addCredit b' (nI c) x3 = 0 then (-3 : Int32) else x4 := rfl
    have e3 : w_X1_takePayment_loop (nI c) p2 0 k b x3 x4 = w_X1_addCredit b (nI c) x3 := ite_self _
    have e4 : w_X1_takePayment_loop (nI c) p2 0 k b' x3 x4 = w_X1_addCredit b' (nI c) x3 := ite_self _
    rw [e1, e2, e3, e4, (cp_ac h hc x3).1]
    exact ⟨rfl, (cp_ac h hc x3).2⟩
  | succ m ih =>
    intro k b b' x3 x4 hk h
    have hk40 : k < 40 := by omega
    obtain ⟨p1, p3⟩ := cp_pay h hk40 x3
    rw [v_X1_takePayment_loop.eq_2, v_X1_takePayment_loop.eq_2, w_X1_takePayment_loop.eq_2, w_X1_takePayment_loop.eq_2, cp_is h hk40, p1, p3.2.2.2.2.2 k hk40 0 (by decide)]
    by_cases c1 : v_X0_is b' k (nI c) (0 : Int32) = 0
    · rw [if_pos c1, if_pos c1, if_pos c1, if_pos c1]
      exact ih _ _ _ _ _ (by omega) h
    · rw [if_neg c1, if_neg c1, if_neg c1, if_neg c1]
      by_cases c2 : w_X1_payOn b' k x3 (k + 7) 0 = (1 : Int32)
      · rw [if_pos c2, if_pos c2, if_pos c2, if_pos c2]
        exact ih _ _ _ _ _ (by omega) p3
      · rw [if_neg c2, if_neg c2, if_neg c2, if_neg c2]
        exact ih _ _ _ _ _ (by omega) p3
theorem cp_tp (h : cpE b b') {c : Nat} (hc : c < 8) (p2 : Int32) : v_X1_takePayment b (nI c) p2 = v_X1_takePayment b' (nI c) p2 ∧ cpE (w_X1_takePayment b (nI c) p2) (w_X1_takePayment b' (nI c) p2) := by
  unfold v_X1_takePayment w_X1_takePayment
  rw [if_neg (cust_1 hc), if_neg (cust_1 hc), if_neg (cust_1 hc), if_neg (cust_1 hc)]
  by_cases c1 : v_X5_isAmount p2 = 0
  · rw [if_pos c1, if_pos c1, if_pos c1, if_pos c1]; exact ⟨rfl, h⟩
  · rw [if_neg c1, if_neg c1, if_neg c1, if_neg c1]; exact cp_lpP hc p2 40 0 b b' _ _ rfl h
theorem cp_aD (h : cpE b b') : v_X1_allDiscounts b = v_X1_allDiscounts b' := by
  rw [aD_l, aD_l]
  exact lS_c 40 0 (fun i _ hi => h.2.2.2.2.2 i (by omega) 9 (by decide))
theorem cp_oO (h : cpE b b') (p1 p2 : Int32) : v_X1_owedOn b p1 p2 = v_X1_owedOn b' p1 p2 := by
  rw [oO_l, oO_l]
  exact lS_c 40 0 (fun i _ hi => by rw [cp_is h (by omega), cp_ow h (by omega)])
theorem cp_cB (h : cpE b b') (p1 p2 : Int32) : v_X1_countBills b p1 p2 = v_X1_countBills b' p1 p2 := by
  rw [cB_l, cB_l]
  exact lS_c 40 0 (fun i _ hi => by rw [cp_is h (by omega)])
end CP
/-! what a payment would do: it is tried on the spare book -/
section IP
variable {z : CS} {k c : Nat} {p2 : Int32}
theorem wz_n {z : CS} {r q : Nat} {b : Nat → Nat → Int32} (h : q ≠ r) : (zB z r b).2 q = z.2 q := wz_ne h
theorem iP_2 (hJ : RJ z.1) (p1 p2 p3 : Int32) : ∀ q, q ≠ z.1 1 → (w_X5_ifPaid z p1 p2 p3).2 q = z.2 q := fun q hq => by
  have h01 : z.1 0 ≠ z.1 1 := RJ_ne hJ (by decide) (by decide) (by decide)
  obtain ⟨s1, s2, s3⟩ := cp_ok (z := z) (r := z.1 1) (r1 := z.1 0) h01
  have hC : ∀ b : Nat → Nat → Int32, (zB (w_X1_copyFrom z (z.1 1) (z.1 0)) ((w_X1_copyFrom z (z.1 1) (z.1 0)).1 1) b).2 q = z.2 q := fun b => by
    rw [s1, wz_n hq, s2 q hq]
  unfold w_X5_ifPaid
  by_cases c1 : v_X5_isCustomer p1 = 0
  · rw [if_pos c1]
  rw [if_neg c1]
  by_cases c2 : v_X5_isAmount p2 = 0
  · rw [if_pos c2]
  rw [if_neg c2]
  by_cases c3 : p3 < 0
  · rw [if_pos c3]
  rw [if_neg c3]
  by_cases c4 : p3 ≤ (3 : Int32)
  · rw [if_pos c4, ite_self, ite_self, ite_self, ite_self]
    exact hC _
  · rw [if_neg c4]
/-- it changes nothing that counts -/
theorem iP_N (h : NV z k) (p1 p2 p3 : Int32) : NV (w_X5_ifPaid z p1 p2 p3) k ∧ (w_X5_ifPaid z p1 p2 p3).2 ((w_X5_ifPaid z p1 p2 p3).1 0) = z.2 (z.1 0) := by
  obtain ⟨hI, hJ, hN, hk, h4, h6⟩ := h
  have e1 : (w_X5_ifPaid z p1 p2 p3).1 = z.1 := iP_1
  have e2 := iP_2 hJ p1 p2 p3
  have e0 : (w_X5_ifPaid z p1 p2 p3).2 (z.1 0) = z.2 (z.1 0) := e2 _ (RJ_ne hJ (by decide) (by decide) (by decide))
  unfold NV
  rw [e1, e0, e2 7 (by have := hI 1 (by decide); omega)]
  exact ⟨⟨hI, hJ, hN, hk, h4, fun i hi => by rw [e2 _ (RJ_ne hJ (by omega) (by decide) (by omega))]; exact h6 i hi⟩, rfl⟩
theorem iP_v (hJ : RJ z.1) (hc : c < 8) (hp : ¬ v_X5_isAmount p2 = 0) : v_X5_ifPaid z (nI c) p2 (0 : Int32) = v_X1_takePayment (z.2 (z.1 0)) (nI c) p2 ∧ (¬ v_X1_takePayment (z.2 (z.1 0)) (nI c) p2 < 0 →
    v_X5_ifPaid z (nI c) p2 (1 : Int32) = v_X1_allDiscounts (w_X1_takePayment (z.2 (z.1 0)) (nI c) p2) - v_X1_allDiscounts (z.2 (z.1 0)) ∧ v_X5_ifPaid z (nI c) p2 (2 : Int32) = v_X1_creditOf (w_X1_takePayment (z.2 (z.1 0)) (nI c) p2) (nI c) ∧ v_X5_ifPaid z (nI c) p2 (3 : Int32) = v_X1_owedOn (w_X1_takePayment (z.2 (z.1 0)) (nI c) p2) (nI c) (0 : Int32)) := by
  have h01 : z.1 0 ≠ z.1 1 := RJ_ne hJ (by decide) (by decide) (by decide)
  obtain ⟨s1, s2, s3⟩ := cp_ok (z := z) (r := z.1 1) (r1 := z.1 0) h01
  obtain ⟨t1, t2⟩ := cp_tp s3 hc p2
  have eS : ∀ b : Nat → Nat → Int32, (zB (w_X1_copyFrom z (z.1 1) (z.1 0)) (z.1 1) b).2 (z.1 1) = b := fun b => wz_same
  have eN : ∀ b : Nat → Nat → Int32, (zB (w_X1_copyFrom z (z.1 1) (z.1 0)) (z.1 1) b).2 (z.1 0) = z.2 (z.1 0) := fun b => (wz_n h01).trans (s2 _ h01)
  have e1 : ∀ b : Nat → Nat → Int32, (zB (w_X1_copyFrom z (z.1 1) (z.1 0)) (z.1 1) b).1 = z.1 := fun b => fst_zB.trans s1
  unfold v_X5_ifPaid
  simp only [if_neg (cust_1 hc), if_neg hp, s1, t1, e1, eS, eN]
  refine ⟨?_, fun hn => ?_⟩
  · rw [if_neg (show ¬ (0 : Int32) < 0 by decide), if_pos (show (0 : Int32) ≤ 3 by decide)]
    rw [if_pos trivial, ite_self]
  · have h0 : 0 ≤ v_X1_takePayment (z.2 (z.1 0)) (nI c) p2 := Int32.not_lt.mp hn
    rw [if_pos h0]
    refine ⟨?_, ?_, ?_⟩
    · rw [if_neg (show ¬ (1 : Int32) < 0 by decide), if_pos (show (1 : Int32) ≤ 3 by decide), if_neg (show ¬ (1 : Int32) = 0 by decide), if_pos trivial, cp_aD t2]
    · rw [if_pos h0, if_neg (show ¬ (2 : Int32) < 0 by decide), if_pos (show (2 : Int32) ≤ 3 by decide), if_neg (show ¬ (2 : Int32) = 0 by decide), if_neg (show ¬ (2 : Int32) = 1 by decide), if_pos trivial, cp_cr t2 hc]
    · rw [if_pos h0, if_neg (show ¬ (3 : Int32) < 0 by decide), if_pos (show (3 : Int32) ≤ 3 by decide), if_neg (show ¬ (3 : Int32) = 0 by decide), if_neg (show ¬ (3 : Int32) = 1 by decide), if_neg (show ¬ (3 : Int32) = 2 by decide), cp_oO t2]
end IP
