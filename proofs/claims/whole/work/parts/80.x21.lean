/-! a thing of the text is read alike -/
def WT (t u : Nat → Nat → Int32) (n p : Nat) : Prop := TR t u n p ∧ u 0 12 = (1 : Int32)
theorem WT_t {t u : Nat → Nat → Int32} {n p k : Nat} {v : Int32} (h : WT t u n p) (h1 : k ≠ 1) (h2 : k ≠ 2) : WT (up t 0 k v) u n p := ⟨TR_t h.1 h1 h2, h.2⟩
theorem WT_7 {t u : Nat → Nat → Int32} {n p k : Nat} {v : Int32} (h : WT t u n p) : WT t (up u 7 k v) n p := ⟨TR_7 h.1, (up_ni (by decide)).trans h.2⟩
theorem WT_takes {t u : Nat → Nat → Int32} {n p : Nat} {a b : Int32} (h : WT t u n p) (ha : ¬ a ≤ 0) : WT t (w_X6_takes u a b) n p := by
  rcases takes_cs (u := u) (p2 := b) ha with e | ⟨e, -⟩
  · rw [e]; exact TR_bad h.1
  · rw [h.2] at e; exact absurd e (by decide)
theorem WT_num {t u : Nat → Nat → Int32} {n p : Nat} {A P : Int32} (h : WT t u n p) (ha : ¬ (48 : Int32) + A ≤ 0) : WT t (w_X6_takesNumber u A P) n p := by
  have h2 := WT_takes (b := (57 : Int32)) h ha
  have hn : ¬ w_X6_takes u ((48 : Int32) + A) (57 : Int32) 0 12 = 0 := by rw [h2.2]; decide
  unfold w_X6_takesNumber
  rw [tnl_wr hn, tnl_wr hn, ite_self]
  exact h2
theorem WT_behind {t u : Nat → Nat → Int32} {n p : Nat} {a b c : Int32} (h : WT t u n p) : WT t (w_X6_takesBehind u a b c) n p := by
  have hn : v_X6_isNext u a a = 0 := by
    unfold v_X6_isNext
    rw [if_neg (show ¬ u 0 12 = 0 by rw [h.2]; decide)]
  unfold w_X6_takesBehind
  rw [if_pos hn]
  exact ⟨TR_pz h.1, (up_nk (by decide)).trans h.2⟩
theorem WT_thK {t u : Nat → Nat → Int32} {n p : Nat} (h : WT t u n p) : WT t (thK u) n p := WT_takes h (by decide)
theorem WT_thA {t u : Nat → Nat → Int32} {n p : Nat} {P : Int32} (h : WT t u n p) : WT t (thA P u) n p := WT_7 (WT_num h (by decide))
theorem WT_thN {t u : Nat → Nat → Int32} {n p k : Nat} {a b c : Int32} (h : WT t u n p) : WT t (thN k a b c u) n p := WT_7 (WT_behind h)
section TU
variable {t u : Nat → Nat → Int32} {n p : Nat}
theorem rd_cust (hT : TR t u n p) (hw : u 0 12 = 0) :
    (∃ c : Nat, c < 8 ∧ v_X4_readNumber t (0 : Int32) (7 : Int32) = nI c ∧ TR (w_X4_readNumber t (0 : Int32) (7 : Int32)) (thC u) n (p + 1) ∧ thC u 0 12 = 0 ∧ thC u 7 1 = nI c) ∨ (v_X4_readNumber t (0 : Int32) (7 : Int32) = (-1 : Int32) ∧ WT (w_X4_readNumber t (0 : Int32) (7 : Int32)) (thC u) n p) := by
  have a2 := hT.2.1
  unfold v_X4_readNumber w_X4_readNumber
  have bad : w_X6_takes u (48 : Int32) (55 : Int32) = tBad u → WT t (thC u) n p := fun e => by
    unfold thC
    rw [e]
    exact WT_7 (TR_bad hT)
  rcases dig_cs hT with ⟨g1, g2⟩ | ⟨k, k1, k2, k3, k4, k5⟩
  · right
    rw [g1, if_pos (by decide), if_pos (by decide)]
    refine ⟨rfl, bad ?_⟩
    rcases tak_cs (A := 48) (B := 55) (by decide) (by decide) (by decide) hT hw with ⟨k, q1, q2, q3, q4, -⟩ | ⟨-, q⟩
    · exact absurd ⟨q3, q4⟩ (g2 k q1 (by omega))
    · exact q
  · have c1 : ¬ nI (k - 48) < (0 : Int32) := nn (by omega)
    rw [k5, if_neg c1, if_neg c1]
    by_cases c : k ≤ 55
    · left
      have c2 : nI (k - 48) ≤ (7 : Int32) := nI_le (b := 7) (by omega) (by decide)
      rw [if_pos c2, if_pos c2]
      have hT1 := TR_good hT k3
      have hlp : v_X4_readNumber_loop (0 : Int32) (7 : Int32) 61 (up t 0 2 (t 0 2 + (1 : Int32))) (nI (k - 48)) = nI (k - 48) ∧ w_X4_readNumber_loop (0 : Int32) (7 : Int32) 61 (up t 0 2 (t 0 2 + (1 : Int32))) (nI (k - 48)) = up t 0 2 (t 0 2 + (1 : Int32)) := by
        generalize up t 0 2 (t 0 2 + (1 : Int32)) = T at hT1
        have e1 : v_X4_readNumber_loop (0 : Int32) (7 : Int32) 61 T (nI (k - 48)) = if nI (k - 48) ≤ 0 then nI (k - 48) else if T 0 1 ≤ T 0 2 then nI (k - 48) else if v_X4_digitAtPlace T = (-1 : Int32) then nI (k - 48) else if (nI (k - 48) * (10 : Int32)) + (v_X4_digitAtPlace T) ≤ (7 : Int32) then (v_X4_readNumber_loop (0 : Int32) (7 : Int32) 60 (up T 0 2 ((T 0 2) + (1 : Int32))) ((nI (k - 48) * (10 : Int32)) + (v_X4_digitAtPlace T))) else nI (k - 48) := rfl
        have e2 : w_X4_readNumber_loop (0 : Int32) (7 : Int32) 61 T (nI (k - 48)) = if nI (k - 48) ≤ 0 then T else if T 0 1 ≤ T 0 2 then T else if v_X4_digitAtPlace T = (-1 : Int32) then T else if (nI (k - 48) * (10 : Int32)) + (v_X4_digitAtPlace T) ≤ (7 : Int32) then (w_X4_readNumber_loop (0 : Int32) (7 : Int32) 60 (up T 0 2 ((T 0 2) + (1 : Int32))) ((nI (k - 48) * (10 : Int32)) + (v_X4_digitAtPlace T))) else T := rfl
        rw [e1, e2]
        by_cases d1 : nI (k - 48) ≤ 0
        · rw [if_pos d1, if_pos d1]; exact ⟨rfl, rfl⟩
        · have hk : 1 ≤ k - 48 := by
            rcases Nat.eq_zero_or_pos (k - 48) with z | z
            · exact absurd (by rw [z]; decide) d1
            · exact z
          rw [if_neg d1, if_neg d1]
          by_cases d2 : T 0 1 ≤ T 0 2
          · rw [if_pos d2, if_pos d2]; exact ⟨rfl, rfl⟩
          · rw [if_neg d2, if_neg d2]
            rcases dig_cs hT1 with ⟨g1, g2⟩ | ⟨j, j1, j2, j3, j4, j5⟩
            · rw [if_pos g1, if_pos g1]; exact ⟨rfl, rfl⟩
            · have d3 : ¬ nI (j - 48) = (-1 : Int32) := nI_nm (by omega) (by decide)
              have d4 : ¬ nI (k - 48) * (10 : Int32) + nI (j - 48) ≤ (7 : Int32) := by
                rw [show (10 : Int32) = nI 10 from rfl, pk_mul, nI_add]
                exact nI_ge (a := 7) (by omega) (by omega)
              rw [j5, if_neg d3, if_neg d3, if_neg d4, if_neg d4]; exact ⟨rfl, rfl⟩
      rw [hlp.1, hlp.2]
      rcases tak_cs (A := 48) (B := 55) (by decide) (by decide) (by decide) hT hw with ⟨k', q1, q2, q3, q4, q5, q6⟩ | ⟨q, -⟩
      · have ek : k = k' := (nI_eq (by omega) (by omega)).mp (k4.symm.trans q4)
        subst ek
        have q5 : w_X6_takes u (48 : Int32) (55 : Int32) = tGood u := q5
        have q6 : v_X6_takes u (48 : Int32) (55 : Int32) = nI (k - 48) := q6
        unfold thC
        rw [q5, q6]
        exact ⟨k - 48, by omega, rfl, TR_7 hT1, (up_ni (by decide)).trans tGood_fl, up_same⟩
      · exact absurd ⟨k3, k4⟩ (q k k1 c)
    · right
      have c2 : ¬ nI (k - 48) ≤ (7 : Int32) := nI_ge (a := 7) (by omega) (by omega)
      rw [if_neg c2, if_neg c2]
      refine ⟨rfl, bad ?_⟩
      rcases tak_cs (A := 48) (B := 55) (by decide) (by decide) (by decide) hT hw with ⟨k', q1, q2, q3, q4, -⟩ | ⟨-, q⟩
      · have ek : k = k' := (nI_eq (by omega) (by omega)).mp (k4.symm.trans q4)
        omega
      · exact q
theorem ca_k {P : Int32} {k : Nat} (h2 : k ≠ 2) (h4 : k ≠ 4) (h5 : k ≠ 5) : w_X4_readCustomerAndAmount t P 0 k = t 0 k := by
  unfold w_X4_readCustomerAndAmount
  (repeat' split) <;> simp (disch := assumption) only [up_nk, sk_k, rn_k]
theorem rd_ca {P : Nat} (hP9 : 9 ≤ P) (hP : P ≤ 99999) (hT : TR t u n p) (hw : u 0 12 = 0) :
    (∃ p' : Nat, p < p' ∧ v_X4_readCustomerAndAmount t (nI P) = (1 : Int32) ∧ TR (w_X4_readCustomerAndAmount t (nI P)) (thA (nI P) (thK (thC u))) n p' ∧ thA (nI P) (thK (thC u)) 0 12 = 0 ∧ w_X4_readCustomerAndAmount t (nI P) 0 4 = thA (nI P) (thK (thC u)) 7 1 ∧ w_X4_readCustomerAndAmount t (nI P) 0 5 = thA (nI P) (thK (thC u)) 7 2) ∨ (v_X4_readCustomerAndAmount t (nI P) = 0 ∧ ∃ p' : Nat, WT (w_X4_readCustomerAndAmount t (nI P)) (thA (nI P) (thK (thC u))) n p') := by
  unfold v_X4_readCustomerAndAmount w_X4_readCustomerAndAmount
  rcases rd_cust hT hw with ⟨c, hc, e1, e2, e3, e4⟩ | ⟨e1, e2⟩
  · have hn : ¬ v_X4_readNumber t (0 : Int32) (7 : Int32) = (-1 : Int32) := by rw [e1]; exact nI_nm (by omega) (by decide)
    rw [if_neg hn, if_neg hn, e1]
    have hT1 : TR (up (w_X4_readNumber t (0 : Int32) (7 : Int32)) 0 4 (nI c)) (thC u) n (p + 1) := TR_t e2 (by decide) (by decide)
    generalize hG : up (w_X4_readNumber t (0 : Int32) (7 : Int32)) 0 4 (nI c) = T1 at hT1
    have h41 : T1 0 4 = nI c := by rw [← hG]; exact up_same
    rcases skip_cs (c := (58 : Int32)) hT1 e3 (by decide) with ⟨s1, s2, s3, s4, s5, s6⟩ | ⟨s1, s2, s3, s4, s5⟩
    · have hn2 : ¬ v_X4_skip T1 (58 : Int32) = 0 := by rw [s1]; decide
      rw [if_neg hn2, if_neg hn2]
      have hT2 : TR (w_X4_skip T1 (58 : Int32)) (thK (thC u)) n (p + 1 + 1) := by
        unfold thK
        rw [s2, s6]
        exact TR_good hT1 s3
      have hw2 : thK (thC u) 0 12 = 0 := by
        unfold thK
        rw [s6]; exact tGood_fl
      rcases num_rd (A := 1) (by decide) hP9 hP hT2 hw2 with ⟨v, p', v1, v2, v3, v4, v5, v6, v7⟩ | ⟨v1, v2, v3⟩
      · left
        have hn3 : ¬ v_X4_readNumber (w_X4_skip T1 (58 : Int32)) (1 : Int32) (nI P) = (-1 : Int32) := by
          rw [show v_X4_readNumber (w_X4_skip T1 (58 : Int32)) (1 : Int32) (nI P) = nI v from v4]
          exact fun z => absurd (z ▸ nn (k := v) (by omega) : ¬ (-1 : Int32) < 0) (by decide)
        rw [if_neg hn3, if_neg hn3]
        have v4 : v_X4_readNumber (w_X4_skip T1 (58 : Int32)) (1 : Int32) (nI P) = nI v := v4
        have v5 : v_X6_takesNumber (thK (thC u)) (1 : Int32) (nI P) = nI v := v5
        rw [v4]
        refine ⟨p', by omega, rfl, ?_, ?_, ?_, ?_⟩
        · exact TR_7 (TR_t v6 (by decide) (by decide))
        · exact (up_ni (by decide)).trans v7
        · rw [up_nk (by decide), rn_k (by decide), sk_k (by decide), h41, thA_7 (by decide), thK_7, e4]
        · rw [up_same]
          exact (up_same.trans v5).symm
      · right
        have v1 : v_X4_readNumber (w_X4_skip T1 (58 : Int32)) (1 : Int32) (nI P) = (-1 : Int32) := v1
        rw [if_pos v1, if_pos v1]
        exact ⟨rfl, p + 1 + 1, WT_7 (WT_t ⟨v2, v3⟩ (by decide) (by decide))⟩
    · right
      rw [if_pos s1, if_pos s1, s2]
      refine ⟨rfl, p + 1, WT_thA ?_⟩
      unfold thK
      rw [s5]
      exact TR_bad hT1
  · right
    rw [if_pos e1, if_pos e1]
    exact ⟨rfl, p, WT_thA (WT_thK (WT_t e2 (by decide) (by decide)))⟩
theorem opt_cs {s d : Int32} {P : Nat} (hs : ¬ s ≤ 0) (hP9 : 9 ≤ P) (hP : P ≤ 99999) (hT : TR t u n p) (hw : u 0 12 = 0) :
    (v_X4_skip t s = 0 ∧ w_X4_skip t s = t ∧ v_X6_takesBehind u s (nI P) d = d ∧ TR t (w_X6_takesBehind u s (nI P) d) n p ∧ w_X6_takesBehind u s (nI P) d 0 12 = 0) ∨ (¬ v_X4_skip t s = 0 ∧ ∃ v p' : Nat, v ≤ P ∧ p < p' ∧ v_X4_readNumber (w_X4_skip t s) (0 : Int32) (nI P) = nI v ∧ v_X6_takesBehind u s (nI P) d = nI v ∧ TR (w_X4_readNumber (w_X4_skip t s) (0 : Int32) (nI P)) (w_X6_takesBehind u s (nI P) d) n p' ∧ w_X6_takesBehind u s (nI P) d 0 12 = 0) ∨ (¬ v_X4_skip t s = 0 ∧ v_X4_readNumber (w_X4_skip t s) (0 : Int32) (nI P) = (-1 : Int32) ∧ WT (w_X4_readNumber (w_X4_skip t s) (0 : Int32) (nI P)) (w_X6_takesBehind u s (nI P) d) n (p + 1)) := by
  unfold v_X6_takesBehind w_X6_takesBehind
  rcases skip_cs hT hw hs with ⟨s1, s2, s3, s4, s5, s6⟩ | ⟨s1, s2, s3, s4, s5⟩
  · right
    have hn : ¬ v_X4_skip t s = 0 := by rw [s1]; decide
    rw [if_neg s5, if_neg s5, s2]
    have hT2 := TR_pb hT s3
    have hw2 : up u 0 11 (u 0 11 + (1 : Int32)) 0 12 = 0 := (up_nk (by decide)).trans hw
    rcases num_rd (A := 0) (by decide) hP9 hP hT2 hw2 with ⟨v, p', v1, v2, v3, v4, v5, v6, v7⟩ | ⟨v1, v2, v3⟩
    · left
      exact ⟨hn, v, p', v2, by omega, v4, v5, v6, v7⟩
    · right
      exact ⟨hn, v1, v2, v3⟩
  · left
    rw [if_pos s4, if_pos s4]
    exact ⟨s1, s2, rfl, TR_pz hT, (up_nk (by decide)).trans hw⟩
def dV (T : Nat → Nat → Int32) : Int32 := if v_X4_skip T (43 : Int32) = 0 then (1 : Int32) else if v_X4_readNumber (w_X4_skip T (43 : Int32)) (0 : Int32) (99 : Int32) = (-1 : Int32) then (0 : Int32) else (1 : Int32)
def dW (T : Nat → Nat → Int32) : Nat → Nat → Int32 := if v_X4_skip T (43 : Int32) = 0 then (up (w_X4_skip T (43 : Int32)) 0 7 (14 : Int32)) else if v_X4_readNumber (w_X4_skip T (43 : Int32)) (0 : Int32) (99 : Int32) = (-1 : Int32) then (up (w_X4_readNumber (w_X4_skip T (43 : Int32)) (0 : Int32) (99 : Int32)) 0 7 (v_X4_readNumber (w_X4_skip T (43 : Int32)) (0 : Int32) (99 : Int32))) else up (w_X4_readNumber (w_X4_skip T (43 : Int32)) (0 : Int32) (99 : Int32)) 0 7 (v_X4_readNumber (w_X4_skip T (43 : Int32)) (0 : Int32) (99 : Int32))
theorem dW_k {T : Nat → Nat → Int32} {k : Nat} (h2 : k ≠ 2) (h7 : k ≠ 7) : dW T 0 k = T 0 k := by
  unfold dW
  (repeat' split) <;> simp (disch := assumption) only [up_nk, sk_k, rn_k]
theorem rd_days (hT : TR t u n p) (hw : u 0 12 = 0) : (∃ p' : Nat, p ≤ p' ∧ dV t = (1 : Int32) ∧ TR (dW t) (thN 4 (43 : Int32) (99 : Int32) (14 : Int32) u) n p' ∧ thN 4 (43 : Int32) (99 : Int32) (14 : Int32) u 0 12 = 0 ∧ dW t 0 7 = thN 4 (43 : Int32) (99 : Int32) (14 : Int32) u 7 4) ∨ (dV t = 0 ∧ ∃ p' : Nat, WT (dW t) (thN 4 (43 : Int32) (99 : Int32) (14 : Int32) u) n p') := by
  unfold dV dW thN
  rcases opt_cs (s := (43 : Int32)) (d := (14 : Int32)) (P := 99) (by decide) (by decide) (by decide) hT hw with ⟨s1, s2, s3, s4, s5⟩ | ⟨s1, v, p', v1, v2, v3, v4, v5, v6⟩ | ⟨s1, v1, v2⟩
  · left
    have s3 : v_X6_takesBehind u (43 : Int32) (99 : Int32) (14 : Int32) = (14 : Int32) := s3
    rw [if_pos s1, if_pos s1, s2, s3]
    exact ⟨p, Nat.le_refl _, rfl, TR_7 (TR_t s4 (by decide) (by decide)), (up_ni (by decide)).trans s5, up_same.trans up_same.symm⟩
  · left
    have v3 : v_X4_readNumber (w_X4_skip t (43 : Int32)) (0 : Int32) (99 : Int32) = nI v := v3
    have v4 : v_X6_takesBehind u (43 : Int32) (99 : Int32) (14 : Int32) = nI v := v4
    have hn : ¬ nI v = (-1 : Int32) := nI_nm (by omega) (by decide)
    rw [if_neg s1, if_neg s1, v3, if_neg hn, if_neg hn, v4]
    exact ⟨p', by omega, rfl, TR_7 (TR_t v5 (by decide) (by decide)), (up_ni (by decide)).trans v6, up_same.trans up_same.symm⟩
  · right
    have v1 : v_X4_readNumber (w_X4_skip t (43 : Int32)) (0 : Int32) (99 : Int32) = (-1 : Int32) := v1
    rw [if_neg s1, if_neg s1, if_pos v1, if_pos v1]
    exact ⟨rfl, p + 1, WT_7 (WT_t v2 (by decide) (by decide))⟩
theorem rB_V : v_X4_readBill t = if v_X4_readCustomerAndAmount t (9999 : Int32) = 0 then (0 : Int32) else if v_X4_skip (w_X4_readCustomerAndAmount t (9999 : Int32)) (64 : Int32) = 0 then dV (up (w_X4_skip (w_X4_readCustomerAndAmount t (9999 : Int32)) (64 : Int32)) 0 6 (20 : Int32)) else if v_X4_readNumber (w_X4_skip (w_X4_readCustomerAndAmount t (9999 : Int32)) (64 : Int32)) (0 : Int32) (40 : Int32) = (-1 : Int32) then (0 : Int32) else dV (up (w_X4_readNumber (w_X4_skip (w_X4_readCustomerAndAmount t (9999 : Int32)) (64 : Int32)) (0 : Int32) (40 : Int32)) 0 6 (v_X4_readNumber (w_X4_skip (w_X4_readCustomerAndAmount t (9999 : Int32)) (64 : Int32)) (0 : Int32) (40 : Int32))) := rfl
theorem rB_W : w_X4_readBill t = if v_X4_readCustomerAndAmount t (9999 : Int32) = 0 then (w_X4_readCustomerAndAmount t (9999 : Int32)) else if v_X4_skip (w_X4_readCustomerAndAmount t (9999 : Int32)) (64 : Int32) = 0 then dW (up (w_X4_skip (w_X4_readCustomerAndAmount t (9999 : Int32)) (64 : Int32)) 0 6 (20 : Int32)) else if v_X4_readNumber (w_X4_skip (w_X4_readCustomerAndAmount t (9999 : Int32)) (64 : Int32)) (0 : Int32) (40 : Int32) = (-1 : Int32) then (up (w_X4_readNumber (w_X4_skip (w_X4_readCustomerAndAmount t (9999 : Int32)) (64 : Int32)) (0 : Int32) (40 : Int32)) 0 6 (v_X4_readNumber (w_X4_skip (w_X4_readCustomerAndAmount t (9999 : Int32)) (64 : Int32)) (0 : Int32) (40 : Int32))) else dW (up (w_X4_readNumber (w_X4_skip (w_X4_readCustomerAndAmount t (9999 : Int32)) (64 : Int32)) (0 : Int32) (40 : Int32)) 0 6 (v_X4_readNumber (w_X4_skip (w_X4_readCustomerAndAmount t (9999 : Int32)) (64 : Int32)) (0 : Int32) (40 : Int32))) := rfl
theorem rd_bill (hT : TR t u n p) (hw : u 0 12 = 0) : (∃ p' : Nat, p < p' ∧ v_X4_readBill t = (1 : Int32) ∧ TR (w_X4_readBill t) (rtB u) n p' ∧ rtB u 0 12 = 0 ∧ w_X4_readBill t 0 3 = t 0 3 ∧ w_X4_readBill t 0 4 = rtB u 7 1 ∧ w_X4_readBill t 0 5 = rtB u 7 2 ∧ w_X4_readBill t 0 6 = rtB u 7 3 ∧ w_X4_readBill t 0 7 = rtB u 7 4) ∨ (v_X4_readBill t = 0 ∧ ∃ p' : Nat, WT (w_X4_readBill t) (rtB u) n p') := by
  rw [rB_V, rB_W]
  have eR : rtB u = thN 4 (43 : Int32) (99 : Int32) (14 : Int32) (thN 3 (64 : Int32) (40 : Int32) (20 : Int32) (thA (9999 : Int32) (thK (thC u)))) := rfl
  rw [eR]
  rcases rd_ca (P := 9999) (by decide) (by decide) hT hw with ⟨p1, q1, q2, q3, q4, q5, q6⟩ | ⟨q1, p', q2⟩
  · have q2 : v_X4_readCustomerAndAmount t (9999 : Int32) = (1 : Int32) := q2
    have q3 : TR (w_X4_readCustomerAndAmount t (9999 : Int32)) (thA (9999 : Int32) (thK (thC u))) n p1 := q3
    have q4 : thA (9999 : Int32) (thK (thC u)) 0 12 = 0 := q4
    have q5 : w_X4_readCustomerAndAmount t (9999 : Int32) 0 4 = thA (9999 : Int32) (thK (thC u)) 7 1 := q5
    have q6 : w_X4_readCustomerAndAmount t (9999 : Int32) 0 5 = thA (9999 : Int32) (thK (thC u)) 7 2 := q6
    have k3 : w_X4_readCustomerAndAmount t (9999 : Int32) 0 3 = t 0 3 := ca_k (by decide) (by decide) (by decide)
    rw [if_neg (show ¬ v_X4_readCustomerAndAmount t (9999 : Int32) = 0 by rw [q2]; decide), if_neg (show ¬ v_X4_readCustomerAndAmount t (9999 : Int32) = 0 by rw [q2]; decide)]
    generalize w_X4_readCustomerAndAmount t (9999 : Int32) = T0 at q3 q5 q6 k3
    generalize thA (9999 : Int32) (thK (thC u)) = X0 at q3 q4 q5 q6
    have fin : ∀ (T1 : Nat → Nat → Int32) (p2 : Nat), p1 ≤ p2 → TR T1 (thN 3 (64 : Int32) (40 : Int32) (20 : Int32) X0) n p2 → thN 3 (64 : Int32) (40 : Int32) (20 : Int32) X0 0 12 = 0 → (∀ k, k ≠ 2 → k ≠ 6 → T1 0 k = T0 0 k) → T1 0 6 = thN 3 (64 : Int32) (40 : Int32) (20 : Int32) X0 7 3 →
        (∃ p' : Nat, p < p' ∧ dV T1 = (1 : Int32) ∧ TR (dW T1) (thN 4 (43 : Int32) (99 : Int32) (14 : Int32) (thN 3 (64 : Int32) (40 : Int32) (20 : Int32) X0)) n p' ∧ thN 4 (43 : Int32) (99 : Int32) (14 : Int32) (thN 3 (64 : Int32) (40 : Int32) (20 : Int32) X0) 0 12 = 0 ∧ dW T1 0 3 = t 0 3 ∧ dW T1 0 4 = thN 4 (43 : Int32) (99 : Int32) (14 : Int32) (thN 3 (64 : Int32) (40 : Int32) (20 : Int32) X0) 7 1 ∧ dW T1 0 5 = thN 4 (43 : Int32) (99 : Int32) (14 : Int32) (thN 3 (64 : Int32) (40 : Int32) (20 : Int32) X0) 7 2 ∧ dW T1 0 6 = thN 4 (43 : Int32) (99 : Int32) (14 : Int32) (thN 3 (64 : Int32) (40 : Int32) (20 : Int32) X0) 7 3 ∧ dW T1 0 7 = thN 4 (43 : Int32) (99 : Int32) (14 : Int32) (thN 3 (64 : Int32) (40 : Int32) (20 : Int32) X0) 7 4) ∨ (dV T1 = 0 ∧ ∃ p' : Nat, WT (dW T1) (thN 4 (43 : Int32) (99 : Int32) (14 : Int32) (thN 3 (64 : Int32) (40 : Int32) (20 : Int32) X0)) n p') := by
      intro T1 p2 hp h1 h2 h3 h4
      rcases rd_days h1 h2 with ⟨p3, d1, d2, d3, d4, d5⟩ | ⟨d1, d2⟩
      · left
        refine ⟨p3, by omega, d2, d3, d4, ?_, ?_, ?_, ?_, d5⟩
        · rw [dW_k (by decide) (by decide), h3 3 (by decide) (by decide)]; exact k3
        · rw [dW_k (by decide) (by decide), h3 4 (by decide) (by decide), q5, thN_7 (by decide), thN_7 (by decide)]
        · rw [dW_k (by decide) (by decide), h3 5 (by decide) (by decide), q6, thN_7 (by decide), thN_7 (by decide)]
        · rw [dW_k (by decide) (by decide), h4]
          exact (thN_7 (by decide)).symm
      · right; exact ⟨d1, d2⟩
    rcases opt_cs (s := (64 : Int32)) (d := (20 : Int32)) (P := 40) (by decide) (by decide) (by decide) q3 q4 with ⟨s1, s2, s3, s4, s5⟩ | ⟨s1, v, p', v1, v2, v3, v4, v5, v6⟩ | ⟨s1, v1, v2⟩
    · rw [if_pos s1, if_pos s1, s2]
      have s3 : v_X6_takesBehind X0 (64 : Int32) (40 : Int32) (20 : Int32) = (20 : Int32) := s3
      refine fin _ p1 (Nat.le_refl _) (TR_7 (TR_t s4 (by decide) (by decide))) ((up_ni (by decide)).trans s5) (fun k _ h6 => up_nk h6) ?_
      exact up_same.trans (s3.symm.trans up_same.symm)
    · have v3 : v_X4_readNumber (w_X4_skip T0 (64 : Int32)) (0 : Int32) (40 : Int32) = nI v := v3
      have v4 : v_X6_takesBehind X0 (64 : Int32) (40 : Int32) (20 : Int32) = nI v := v4
      have hn : ¬ nI v = (-1 : Int32) := nI_nm (by omega) (by decide)
      rw [if_neg s1, if_neg s1, v3, if_neg hn, if_neg hn]
      refine fin _ p' (by omega) (TR_7 (TR_t v5 (by decide) (by decide))) ((up_ni (by decide)).trans v6) (fun k h2 h6 => ?_) ?_
      · rw [up_nk h6, rn_k h2, sk_k h2]
      · exact up_same.trans (v4.symm.trans up_same.symm)
    · right
      have v1 : v_X4_readNumber (w_X4_skip T0 (64 : Int32)) (0 : Int32) (40 : Int32) = (-1 : Int32) := v1
      rw [if_neg s1, if_neg s1, if_pos v1, if_pos v1]
      exact ⟨rfl, p1 + 1, WT_thN (WT_7 (WT_t v2 (by decide) (by decide)))⟩
  · right
    have q1 : v_X4_readCustomerAndAmount t (9999 : Int32) = 0 := q1
    rw [if_pos q1, if_pos q1]
    exact ⟨rfl, p', WT_thN (WT_thN q2)⟩
end TU
