/-- what was read, on both sides -/
def TH (t u : Nat → Nat → Int32) : Prop :=
  (u 7 0 = (98 : Int32) ∧ t 0 3 = 0 ∧ t 0 4 = u 7 1 ∧ t 0 5 = u 7 2 ∧ t 0 6 = u 7 3 ∧ t 0 7 = u 7 4) ∨
  (u 7 0 = (112 : Int32) ∧ t 0 4 = u 7 1 ∧ t 0 5 = u 7 2 ∧ ((t 0 3 = (1 : Int32) ∧ u 7 3 = (-5 : Int32)) ∨ (t 0 3 = (2 : Int32) ∧ t 0 8 = u 7 3 ∧ ¬ u 7 3 = (-5 : Int32)))) ∨
  (u 7 0 = (114 : Int32) ∧ t 0 3 = (3 : Int32)) ∨ (u 7 0 = (46 : Int32) ∧ t 0 3 = (4 : Int32) ∧ t 0 7 = u 7 1)
section TV
variable {t u : Nat → Nat → Int32} {n p : Nat}
theorem rd_pay (hT : TR t u n p) (hw : u 0 12 = 0) (hk : t 0 3 = (1 : Int32)) : (∃ p' : Nat, p < p' ∧ v_X4_readPayment t = (1 : Int32) ∧ TR (w_X4_readPayment t) (rtP u) n p' ∧ rtP u 0 12 = 0 ∧ w_X4_readPayment t 0 4 = rtP u 7 1 ∧ w_X4_readPayment t 0 5 = rtP u 7 2 ∧ ((w_X4_readPayment t 0 3 = (1 : Int32) ∧ rtP u 7 3 = (-5 : Int32)) ∨ (w_X4_readPayment t 0 3 = (2 : Int32) ∧ w_X4_readPayment t 0 8 = rtP u 7 3 ∧ ¬ rtP u 7 3 = (-5 : Int32)))) ∨ (v_X4_readPayment t = 0 ∧ ∃ p' : Nat, WT (w_X4_readPayment t) (rtP u) n p') := by
  unfold v_X4_readPayment w_X4_readPayment
  have eR : rtP u = up (thN 3 (35 : Int32) (39 : Int32) (-5 : Int32) (thA (99999 : Int32) (thK (thC u)))) 7 4 (0 : Int32) := rfl
  rw [eR]
  rcases rd_ca (P := 99999) (by decide) (by decide) hT hw with ⟨p1, q1, q2, q3, q4, q5, q6⟩ | ⟨q1, p', q2⟩
  · have q2 : v_X4_readCustomerAndAmount t (99999 : Int32) = (1 : Int32) := q2
    have q3 : TR (w_X4_readCustomerAndAmount t (99999 : Int32)) (thA (99999 : Int32) (thK (thC u))) n p1 := q3
    have q4 : thA (99999 : Int32) (thK (thC u)) 0 12 = 0 := q4
    have q5 : w_X4_readCustomerAndAmount t (99999 : Int32) 0 4 = thA (99999 : Int32) (thK (thC u)) 7 1 := q5
    have q6 : w_X4_readCustomerAndAmount t (99999 : Int32) 0 5 = thA (99999 : Int32) (thK (thC u)) 7 2 := q6
    have k3 : w_X4_readCustomerAndAmount t (99999 : Int32) 0 3 = (1 : Int32) := (ca_k (by decide) (by decide) (by decide)).trans hk
    rw [if_neg (show ¬ v_X4_readCustomerAndAmount t (99999 : Int32) = 0 by rw [q2]; decide), if_neg (show ¬ v_X4_readCustomerAndAmount t (99999 : Int32) = 0 by rw [q2]; decide)]
    generalize w_X4_readCustomerAndAmount t (99999 : Int32) = T0 at q3 q5 q6 k3
    generalize thA (99999 : Int32) (thK (thC u)) = X0 at q3 q4 q5 q6
    have h7 : ∀ k, k ≠ 3 → k ≠ 4 → up (thN 3 (35 : Int32) (39 : Int32) (-5 : Int32) X0) 7 4 (0 : Int32) 7 k = X0 7 k := fun k h3 h4 => (up_nk h4).trans (thN_7 h3)
    have h73 : up (thN 3 (35 : Int32) (39 : Int32) (-5 : Int32) X0) 7 4 (0 : Int32) 7 3 = v_X6_takesBehind X0 (35 : Int32) (39 : Int32) (-5 : Int32) := (up_nk (by decide)).trans up_same
    rcases skip_cs q3 q4 (show ¬ (35 : Int32) ≤ 0 by decide) with ⟨s1, s2, s3, s4, s5, s6⟩ | ⟨s1, s2, s3, s4, s5⟩
    · have hn : ¬ v_X4_skip T0 (35 : Int32) = 0 := by rw [s1]; decide
      have eb : w_X6_takesBehind X0 (35 : Int32) (39 : Int32) (-5 : Int32) = w_X6_takesNumber (up X0 0 11 (X0 0 11 + (1 : Int32))) (0 : Int32) (39 : Int32) := by
        unfold w_X6_takesBehind
        rw [if_neg s5]
      have ev : v_X6_takesBehind X0 (35 : Int32) (39 : Int32) (-5 : Int32) = v_X6_takesNumber (up X0 0 11 (X0 0 11 + (1 : Int32))) (0 : Int32) (39 : Int32) := by
        unfold v_X6_takesBehind
        rw [if_neg s5]
      have hT2 : TR (up (w_X4_skip T0 (35 : Int32)) 0 3 (2 : Int32)) (up X0 0 11 (X0 0 11 + (1 : Int32))) n (p1 + 1) := by
        rw [s2]; exact TR_t (TR_pb q3 s3) (by decide) (by decide)
      have hw2 : up X0 0 11 (X0 0 11 + (1 : Int32)) 0 12 = 0 := (up_nk (by decide)).trans q4
      have hK : ∀ k, k ≠ 2 → k ≠ 3 → up (w_X4_skip T0 (35 : Int32)) 0 3 (2 : Int32) 0 k = T0 0 k := fun k h2 h3 => (up_nk h3).trans (sk_k h2)
      have hK3 : up (w_X4_skip T0 (35 : Int32)) 0 3 (2 : Int32) 0 3 = (2 : Int32) := up_same
      rw [if_neg hn, if_neg hn]
      generalize up (w_X4_skip T0 (35 : Int32)) 0 3 (2 : Int32) = T2 at hT2 hK hK3
      rcases num_rd (A := 0) (P := 39) (by decide) (by decide) (by decide) hT2 hw2 with ⟨v, p', v1, v2, v3, v4, v5, v6, v7⟩ | ⟨v1, v2, v3⟩
      · left
        have v4 : v_X4_readNumber T2 (0 : Int32) (39 : Int32) = nI v := v4
        have v5 : v_X6_takesNumber (up X0 0 11 (X0 0 11 + (1 : Int32))) (0 : Int32) (39 : Int32) = nI v := v5
        have v6 : TR (w_X4_readNumber T2 (0 : Int32) (39 : Int32)) (w_X6_takesBehind X0 (35 : Int32) (39 : Int32) (-5 : Int32)) n p' := by rw [eb]; exact v6
        have v7 : w_X6_takesBehind X0 (35 : Int32) (39 : Int32) (-5 : Int32) 0 12 = 0 := by rw [eb]; exact v7
        have hn2 : ¬ nI v = (-1 : Int32) := nI_nm (by omega) (by decide)
        rw [v4, if_neg hn2, if_neg hn2]
        refine ⟨p', by omega, rfl, TR_7 (TR_7 (TR_t v6 (by decide) (by decide))), (up_ni (by decide)).trans ((up_ni (by decide)).trans v7), ?_, ?_, Or.inr ⟨?_, ?_, ?_⟩⟩
        · rw [h7 1 (by decide) (by decide), up_nk (by decide), rn_k (by decide), hK 4 (by decide) (by decide)]; exact q5
        · rw [h7 2 (by decide) (by decide), up_nk (by decide), rn_k (by decide), hK 5 (by decide) (by decide)]; exact q6
        · rw [up_nk (by decide), rn_k (by decide)]; exact hK3
        · rw [h73, ev, v5]; exact up_same
        · rw [h73, ev, v5]; exact nI_nm (by omega) (by decide)
      · right
        have v1 : v_X4_readNumber T2 (0 : Int32) (39 : Int32) = (-1 : Int32) := v1
        rw [if_pos v1, if_pos v1]
        have hW : WT (w_X4_readNumber T2 (0 : Int32) (39 : Int32)) (w_X6_takesBehind X0 (35 : Int32) (39 : Int32) (-5 : Int32)) n (p1 + 1) := by rw [eb]; exact ⟨v2, v3⟩
        exact ⟨rfl, p1 + 1, WT_7 (WT_7 (WT_t hW (by decide) (by decide)))⟩
    · left
      have eb : w_X6_takesBehind X0 (35 : Int32) (39 : Int32) (-5 : Int32) = up X0 0 11 (X0 0 11 + (0 : Int32)) := by
        unfold w_X6_takesBehind
        rw [if_pos s4]
      have ev : v_X6_takesBehind X0 (35 : Int32) (39 : Int32) (-5 : Int32) = (-5 : Int32) := by
        unfold v_X6_takesBehind
        rw [if_pos s4]
      have hT3 : TR T0 (w_X6_takesBehind X0 (35 : Int32) (39 : Int32) (-5 : Int32)) n p1 := by rw [eb]; exact TR_pz q3
      have hf : w_X6_takesBehind X0 (35 : Int32) (39 : Int32) (-5 : Int32) 0 12 = 0 := by rw [eb]; exact (up_nk (by decide)).trans q4
      rw [if_pos s1, if_pos s1, s2]
      refine ⟨p1, q1, rfl, TR_7 (TR_7 hT3), (up_ni (by decide)).trans ((up_ni (by decide)).trans hf), ?_, ?_, Or.inl ⟨k3, h73.trans ev⟩⟩
      · rw [h7 1 (by decide) (by decide)]; exact q5
      · rw [h7 2 (by decide) (by decide)]; exact q6
  · right
    have q1 : v_X4_readCustomerAndAmount t (99999 : Int32) = 0 := q1
    rw [if_pos q1, if_pos q1]
    exact ⟨rfl, p', WT_7 (WT_thN q2)⟩
theorem rtL_TR (hT : TR t u n p) (hp : p < n) : TR (up t 0 2 (t 0 2 + (1 : Int32))) (rtL u) n (p + 1) ∧ rtL u 0 12 = 0 := ⟨TR_7 (TR_p1 hT hp), (up_ni (by decide)).trans ((up_nk (by decide)).trans up_same)⟩
theorem rd_thing (hT : TR t u n p) (hw : u 0 12 = 0) : (∃ p' : Nat, p < p' ∧ v_X4_readThing t = (1 : Int32) ∧ TR (w_X4_readThing t) (w_X6_readThing u) n p' ∧ w_X6_readThing u 0 12 = 0 ∧ TH (w_X4_readThing t) (w_X6_readThing u)) ∨ (v_X4_readThing t = 0 ∧ ∃ p' : Nat, WT (w_X4_readThing t) (w_X6_readThing u) n p') := by
  obtain ⟨s1, s2, s3, s4, s5, s6⟩ := TR_s hT
  unfold v_X4_readThing w_X4_readThing
  rcases skip_cs hT hw (show ¬ (98 : Int32) ≤ 0 by decide) with ⟨a1, a2, a3, a4, a5, a6⟩ | ⟨a1, a2, a3, a4, a5⟩
  · have hs : ¬ u 0 8 ≤ u 0 11 := fun z => absurd (s3.mp z) (by omega)
    have hn : ¬ v_X4_skip t (98 : Int32) = 0 := by rw [a1]; decide
    rw [if_neg hn, if_neg hn, a2, rT_b hs hw (by rw [s1]; exact a4)]
    obtain ⟨r1, r2⟩ := rtL_TR hT a3
    rcases rd_bill (TR_t (k := 3) (v := (0 : Int32)) r1 (by decide) (by decide)) r2 with ⟨p', b1, b2, b3, b4, b5, b6, b7, b8, b9⟩ | ⟨b1, b2⟩
    · left
      refine ⟨p', by omega, b2, b3, b4, Or.inl ⟨?_, b5.trans up_same, b6, b7, b8, b9⟩⟩
      exact (thN_7 (by decide)).trans ((thN_7 (by decide)).trans ((thA_7 (by decide)).trans (thK_7.trans ((thC_7 (by decide)).trans (rtL_7.trans (by rw [s1]; exact a4))))))
    · right; exact ⟨b1, b2⟩
  rw [if_pos a1, if_pos a1, a2]
  rcases skip_cs hT hw (show ¬ (112 : Int32) ≤ 0 by decide) with ⟨b1, b2, b3, b4, b5, b6⟩ | ⟨b1, b2, b3, b4, b5⟩
  · have hs : ¬ u 0 8 ≤ u 0 11 := fun z => absurd (s3.mp z) (by omega)
    have hn : ¬ v_X4_skip t (112 : Int32) = 0 := by rw [b1]; decide
    rw [if_neg hn, if_neg hn, b2, rT_p hs hw (by rw [s1]; exact b4)]
    obtain ⟨r1, r2⟩ := rtL_TR hT b3
    rcases rd_pay (TR_t (k := 3) (v := (1 : Int32)) r1 (by decide) (by decide)) r2 up_same with ⟨p', c1, c2, c3, c4, c5, c6, c7⟩ | ⟨c1, c2⟩
    · left
      refine ⟨p', by omega, c2, c3, c4, Or.inr (Or.inl ⟨?_, c5, c6, c7⟩)⟩
      exact (up_nk (by decide)).trans ((thN_7 (by decide)).trans ((thA_7 (by decide)).trans (thK_7.trans ((thC_7 (by decide)).trans (rtL_7.trans (by rw [s1]; exact b4))))))
    · right; exact ⟨c1, c2⟩
  rw [if_pos b1, if_pos b1, b2]
  rcases skip_cs hT hw (show ¬ (114 : Int32) ≤ 0 by decide) with ⟨c1, c2, c3, c4, c5, c6⟩ | ⟨c1, c2, c3, c4, c5⟩
  · have hs : ¬ u 0 8 ≤ u 0 11 := fun z => absurd (s3.mp z) (by omega)
    have hn : ¬ v_X4_skip t (114 : Int32) = 0 := by rw [c1]; decide
    rw [if_neg hn, if_neg hn, c2, rT_r hs hw (by rw [s1]; exact c4)]
    obtain ⟨r1, r2⟩ := rtL_TR hT c3
    left
    exact ⟨p + 1, by omega, rfl, TR_t r1 (by decide) (by decide), r2, Or.inr (Or.inr (Or.inl ⟨rtL_7.trans (by rw [s1]; exact c4), up_same⟩))⟩
  rw [if_pos c1, if_pos c1, c2]
  rcases skip_cs hT hw (show ¬ (46 : Int32) ≤ 0 by decide) with ⟨d1, d2, d3, d4, d5, d6⟩ | ⟨d1, d2, d3, d4, d5⟩
  · have hs : ¬ u 0 8 ≤ u 0 11 := fun z => absurd (s3.mp z) (by omega)
    have hn : ¬ v_X4_skip t (46 : Int32) = 0 := by rw [d1]; decide
    rw [if_neg hn, if_neg hn, d2, rT_d hs hw (by rw [s1]; exact d4)]
    obtain ⟨r1, r2⟩ := rtL_TR hT d3
    have hT2 := TR_t (k := 3) (v := (4 : Int32)) r1 (by decide) (by decide)
    have hK3 : up (up t 0 2 (t 0 2 + (1 : Int32))) 0 3 (4 : Int32) 0 3 = (4 : Int32) := up_same
    generalize up (up t 0 2 (t 0 2 + (1 : Int32))) 0 3 (4 : Int32) = T2 at hT2 hK3
    rcases num_rd (A := 1) (P := 99) (by decide) (by decide) (by decide) hT2 r2 with ⟨v, p', v1, v2, v3, v4, v5, v6, v7⟩ | ⟨v1, v2, v3⟩
    · left
      have v4 : v_X4_readNumber T2 (1 : Int32) (99 : Int32) = nI v := v4
      have v5 : v_X6_takesNumber (rtL u) (1 : Int32) (99 : Int32) = nI v := v5
      have hn2 : ¬ nI v = (-1 : Int32) := nI_nm (by omega) (by decide)
      rw [v4, if_neg hn2, if_neg hn2]
      refine ⟨p', by omega, rfl, ?_, (up_ni (by decide)).trans v7, Or.inr (Or.inr (Or.inr ⟨?_, ?_, ?_⟩))⟩
      · exact TR_7 (TR_t v6 (by decide) (by decide))
      · exact (thD_7 (by decide)).trans (rtL_7.trans (by rw [s1]; exact d4))
      · rw [up_nk (by decide), rn_k (by decide)]; exact hK3
      · exact up_same.trans (v5.symm.trans up_same.symm)
    · right
      have v1 : v_X4_readNumber T2 (1 : Int32) (99 : Int32) = (-1 : Int32) := v1
      rw [if_pos v1, if_pos v1]
      exact ⟨rfl, p + 1, WT_7 (WT_t ⟨v2, v3⟩ (by decide) (by decide))⟩
  rw [if_pos d1, if_pos d1, d2]
  right
  refine ⟨rfl, p, ?_⟩
  have hB : ∀ v : Int32, WT t (up (rt0 (1 : Int32) (0 : Int32) u) 7 0 v) n p := fun v => WT_7 (TR_bad hT)
  by_cases hs : u 0 8 ≤ u 0 11
  · rw [rT_s hs]; exact hB _
  · have hp : p < n := Nat.not_le.mp (fun z => hs (s3.mpr z))
    rw [rT_x hs hw (by rw [s1]; exact fun z => a3 ⟨hp, z⟩) (by rw [s1]; exact fun z => b3 ⟨hp, z⟩) (by rw [s1]; exact fun z => c3 ⟨hp, z⟩) (by rw [s1]; exact fun z => d3 ⟨hp, z⟩)]
    exact hB _
end TV
