def v_X5_isCustomer (p0 : Int32) : Int32 := if p0 < 0 then (0 : Int32) else if (8 : Int32) ≤ p0 then (0 : Int32) else (1 : Int32)
theorem q_X5_isCustomer : yX5_isCustomer.cls ≠ "java/lang/invoke/MethodHandle" ∧ yX5_isCustomer.cls ≠ "java/lang/invoke/VarHandle" ∧ (parseMethodDescriptor yX5_isCustomer.desc).map (fun d => d.parameters.length) = some 1 := ⟨by decide, by decide, by decide +kernel⟩
theorem z_X5_isCustomer (p0 : Int32) : narrow .boolean (.int (v_X5_isCustomer p0)) = .int (v_X5_isCustomer p0) := by
  unfold v_X5_isCustomer
  exact z_ite z_0 (z_ite z_0 z_1)
set_option maxHeartbeats 4000000 in
set_option maxRecDepth 100000 in
theorem c_X5_isCustomer (l : Launch) (G : kG) (P : Heap → Prop) (A : Nat → Prop) (p0 : Int32) : Met l yX5_isCustomer (Cond.code yX5_isCustomer cX5_isCustomer 1 (some .boolean) :: BIG) (rmK 0) (pcG G P [.int p0]) (qcI G A P (v_X5_isCustomer p0)) 0 0 A := by
  refine m_start (by decide) (Nat.le_of_ble_eq_true rfl) ?_
  intro p e s m args below meth c S hr hlk hnm hP hK ls hl
  have hx := S.1
  have hb := S.2.1
  have hown := S.2.2.2.1
  have hS : va_S A s.heap s.heap [] := va_S.rf
  have hl : lv_has ls 1 [(0, .int p0)] := hl
  refine lv_iload_n hx hb dX5_isCustomer_0 rfl (lv_at hl 0 rfl) ?_
  refine lv_if_lt (tgt := 14) hx hb dX5_isCustomer_1 (by decide) (fun c1 => ?_) (fun c1 => ?_)
  · skip
    refine lv_iconst (v := 0) hx hb dX5_isCustomer_14 (by decide) ?_
    exact e_int S hr hlk rfl hK hS hP (show v_X5_isCustomer p0 = (0 : Int32) from (if_pos c1).trans rfl).symm dX5_isCustomer_15
  · skip
    refine lv_iload_n hx hb dX5_isCustomer_4 rfl (lv_at hl 0 rfl) ?_
    refine lv_bipush (v := 8) hx hb dX5_isCustomer_5 (by decide) ?_
    refine lv_icmp_ge (tgt := 14) hx hb dX5_isCustomer_7 (by decide) (fun c2 => ?_) (fun c2 => ?_)
    · skip
      refine lv_iconst (v := 0) hx hb dX5_isCustomer_14 (by decide) ?_
      exact e_int S hr hlk rfl hK hS hP (show v_X5_isCustomer p0 = (0 : Int32) from (if_neg c1).trans ((if_pos c2).trans rfl)).symm dX5_isCustomer_15
    · skip
      refine lv_iconst (v := 1) hx hb dX5_isCustomer_10 (by decide) ?_
      refine lv_goto (tgt := 15) hx hb dX5_isCustomer_11 (by decide) ?_
      exact e_int S hr hlk rfl hK hS hP (show v_X5_isCustomer p0 = (1 : Int32) from (if_neg c1).trans ((if_neg c2).trans rfl)).symm dX5_isCustomer_15

def v_X5_isYear (p0 : Int32) : Int32 := if p0 < 0 then (0 : Int32) else if (100 : Int32) ≤ p0 then (0 : Int32) else (1 : Int32)
theorem q_X5_isYear : yX5_isYear.cls ≠ "java/lang/invoke/MethodHandle" ∧ yX5_isYear.cls ≠ "java/lang/invoke/VarHandle" ∧ (parseMethodDescriptor yX5_isYear.desc).map (fun d => d.parameters.length) = some 1 := ⟨by decide, by decide, by decide +kernel⟩
theorem z_X5_isYear (p0 : Int32) : narrow .boolean (.int (v_X5_isYear p0)) = .int (v_X5_isYear p0) := by
  unfold v_X5_isYear
  exact z_ite z_0 (z_ite z_0 z_1)
set_option maxHeartbeats 4000000 in
set_option maxRecDepth 100000 in
theorem c_X5_isYear (l : Launch) (G : kG) (P : Heap → Prop) (A : Nat → Prop) (p0 : Int32) : Met l yX5_isYear (Cond.code yX5_isYear cX5_isYear 1 (some .boolean) :: BIG) (rmK 0) (pcG G P [.int p0]) (qcI G A P (v_X5_isYear p0)) 0 0 A := by
  refine m_start (by decide) (Nat.le_of_ble_eq_true rfl) ?_
  intro p e s m args below meth c S hr hlk hnm hP hK ls hl
  have hx := S.1
  have hb := S.2.1
  have hown := S.2.2.2.1
  have hS : va_S A s.heap s.heap [] := va_S.rf
  have hl : lv_has ls 1 [(0, .int p0)] := hl
  refine lv_iload_n hx hb dX5_isYear_0 rfl (lv_at hl 0 rfl) ?_
  refine lv_if_lt (tgt := 14) hx hb dX5_isYear_1 (by decide) (fun c1 => ?_) (fun c1 => ?_)
  · skip
    refine lv_iconst (v := 0) hx hb dX5_isYear_14 (by decide) ?_
    exact e_int S hr hlk rfl hK hS hP (show v_X5_isYear p0 = (0 : Int32) from (if_pos c1).trans rfl).symm dX5_isYear_15
  · skip
    refine lv_iload_n hx hb dX5_isYear_4 rfl (lv_at hl 0 rfl) ?_
    refine lv_bipush (v := 100) hx hb dX5_isYear_5 (by decide) ?_
    refine lv_icmp_ge (tgt := 14) hx hb dX5_isYear_7 (by decide) (fun c2 => ?_) (fun c2 => ?_)
    · skip
      refine lv_iconst (v := 0) hx hb dX5_isYear_14 (by decide) ?_
      exact e_int S hr hlk rfl hK hS hP (show v_X5_isYear p0 = (0 : Int32) from (if_neg c1).trans ((if_pos c2).trans rfl)).symm dX5_isYear_15
    · skip
      refine lv_iconst (v := 1) hx hb dX5_isYear_10 (by decide) ?_
      refine lv_goto (tgt := 15) hx hb dX5_isYear_11 (by decide) ?_
      exact e_int S hr hlk rfl hK hS hP (show v_X5_isYear p0 = (1 : Int32) from (if_neg c1).trans ((if_neg c2).trans rfl)).symm dX5_isYear_15

def v_X5_isAmount (p0 : Int32) : Int32 := if p0 < (1 : Int32) then (0 : Int32) else if (99999 : Int32) < p0 then (0 : Int32) else (1 : Int32)
theorem q_X5_isAmount : yX5_isAmount.cls ≠ "java/lang/invoke/MethodHandle" ∧ yX5_isAmount.cls ≠ "java/lang/invoke/VarHandle" ∧ (parseMethodDescriptor yX5_isAmount.desc).map (fun d => d.parameters.length) = some 1 := ⟨by decide, by decide, by decide +kernel⟩
theorem z_X5_isAmount (p0 : Int32) : narrow .boolean (.int (v_X5_isAmount p0)) = .int (v_X5_isAmount p0) := by
  unfold v_X5_isAmount
  exact z_ite z_0 (z_ite z_0 z_1)
set_option maxHeartbeats 4000000 in
set_option maxRecDepth 100000 in
theorem c_X5_isAmount (l : Launch) (G : kG) (P : Heap → Prop) (A : Nat → Prop) (p0 : Int32) : Met l yX5_isAmount (Cond.code yX5_isAmount cX5_isAmount 1 (some .boolean) :: BIG) (rmK 0) (pcG G P [.int p0]) (qcI G A P (v_X5_isAmount p0)) 0 0 A := by
  refine m_start (by decide) (Nat.le_of_ble_eq_true rfl) ?_
  intro p e s m args below meth c S hr hlk hnm hP hK ls hl
  have hx := S.1
  have hb := S.2.1
  have hown := S.2.2.2.1
  have hS : va_S A s.heap s.heap [] := va_S.rf
  have hl : lv_has ls 1 [(0, .int p0)] := hl
  refine lv_iload_n hx hb dX5_isAmount_0 rfl (lv_at hl 0 rfl) ?_
  refine lv_iconst (v := 1) hx hb dX5_isAmount_1 (by decide) ?_
  refine lv_icmp_lt (tgt := 16) hx hb dX5_isAmount_2 (by decide) (fun c1 => ?_) (fun c1 => ?_)
  · skip
    refine lv_iconst (v := 0) hx hb dX5_isAmount_16 (by decide) ?_
    exact e_int S hr hlk rfl hK hS hP (show v_X5_isAmount p0 = (0 : Int32) from (if_pos c1).trans rfl).symm dX5_isAmount_17
  · skip
    refine lv_iload_n hx hb dX5_isAmount_5 rfl (lv_at hl 0 rfl) ?_
    refine lv_ldcw hx hb hown (S.2.2.2.2 _ k_357) dX5_isAmount_6 ?_
    refine lv_icmp_gt (tgt := 16) hx hb dX5_isAmount_9 (by decide) (fun c2 => ?_) (fun c2 => ?_)
    · skip
      refine lv_iconst (v := 0) hx hb dX5_isAmount_16 (by decide) ?_
      exact e_int S hr hlk rfl hK hS hP (show v_X5_isAmount p0 = (0 : Int32) from (if_neg c1).trans ((if_pos c2).trans rfl)).symm dX5_isAmount_17
    · skip
      refine lv_iconst (v := 1) hx hb dX5_isAmount_12 (by decide) ?_
      refine lv_goto (tgt := 17) hx hb dX5_isAmount_13 (by decide) ?_
      exact e_int S hr hlk rfl hK hS hP (show v_X5_isAmount p0 = (1 : Int32) from (if_neg c1).trans ((if_neg c2).trans rfl)).symm dX5_isAmount_17

theorem vp_X5_isCustomer {x : Int32} {n : Nat} (h : ¬ v_X5_isCustomer x = 0) (hn : 8 ≤ n) : vp_in x n := by
  unfold v_X5_isCustomer at h
  by_cases h1 : x < 0
  · exact absurd (if_pos h1) h
  · rw [if_neg h1] at h
    by_cases h2 : (8 : Int32) ≤ x
    · exact absurd (if_pos h2) h
    · exact vp_of (vp_lo1 h1) (vp_hi1 (n := 8) h2 rfl hn)
theorem vp_X5_isYear {x : Int32} {n : Nat} (h : ¬ v_X5_isYear x = 0) (hn : 100 ≤ n) : vp_in x n := by
  unfold v_X5_isYear at h
  by_cases h1 : x < 0
  · exact absurd (if_pos h1) h
  · rw [if_neg h1] at h
    by_cases h2 : (100 : Int32) ≤ x
    · exact absurd (if_pos h2) h
    · exact vp_of (vp_lo1 h1) (vp_hi1 (n := 100) h2 rfl hn)

def v_X0_is (b : Nat → Nat → Int32) (j : Nat) (p1 : Int32) (p2 : Int32) : Int32 := if b (j + 7) 0 = (-1 : Int32) then (0 : Int32) else if p1 = (-9 : Int32) then (if p2 = (-9 : Int32) then (1 : Int32) else if p2 = b (j + 7) 0 then (1 : Int32) else (0 : Int32)) else if p1 = b (j + 7) 1 then (if p2 = (-9 : Int32) then (1 : Int32) else if p2 = b (j + 7) 0 then (1 : Int32) else (0 : Int32)) else (0 : Int32)
theorem q_X0_is : yX0_is.cls ≠ "java/lang/invoke/MethodHandle" ∧ yX0_is.cls ≠ "java/lang/invoke/VarHandle" ∧ (parseMethodDescriptor yX0_is.desc).map (fun d => d.parameters.length) = some 2 := ⟨by decide, by decide, by decide +kernel⟩
theorem z_X0_is (b : Nat → Nat → Int32) (j : Nat) (p1 : Int32) (p2 : Int32) : narrow .boolean (.int (v_X0_is b j p1 p2)) = .int (v_X0_is b j p1 p2) := by
  unfold v_X0_is
  exact z_ite z_0 (z_ite (z_ite z_1 (z_ite z_1 z_0)) (z_ite (z_ite z_1 (z_ite z_1 z_0)) z_0))
set_option maxHeartbeats 4000000 in
set_option maxRecDepth 100000 in
theorem c_X0_is (l : Launch) (G : kG) (a : Nat → Nat) (hI : gI 47 a) (b : Nat → Nat → Int32) (j : Nat) (hj : j < 40) (p1 : Int32) (p2 : Int32) : Met l yX0_is (Cond.code yX0_is cX0_is 3 (some .boolean) :: BIG) (rmK 0) (pcG G (bP G a b) [.ref (a (j + 7)), .int p1, .int p2]) (qcI G (gA 47 a) (bP G a b) (v_X0_is b j p1 p2)) 0 0 (gA 47 a) := by
  refine m_start (by decide) (Nat.le_of_ble_eq_true rfl) ?_
  intro p e s m args below meth c S hr hlk hnm hP hK ls hl
  have hx := S.1
  have hb := S.2.1
  have hown := S.2.2.2.1
  have hS : va_S (gA 47 a) s.heap s.heap [] := va_S.rf
  have hl : lv_has ls 3 [(0, .ref (a (j + 7))), (1, .int p1), (2, .int p2)] := hl
  refine lv_aload_n hx hb dX0_is_0 rfl (lv_at hl 0 rfl) ?_
  refine g_get S hK hP (i := j + 7) (by omega) bC7 rfl inlX0 0 (by decide) k_46 (v := .int (b (j + 7) 0)) rfl dX0_is_1 ?_
  refine lv_iconst (v := -1) hx hb dX0_is_4 (by decide) ?_
  refine lv_icmp_eq (tgt := 40) hx hb dX0_is_5 (by decide) (fun c1 => ?_) (fun c1 => ?_)
  · skip
    refine lv_iconst (v := 0) hx hb dX0_is_40 (by decide) ?_
    exact e_int S hr hlk rfl hK hS hP (show v_X0_is b j p1 p2 = (0 : Int32) from (if_pos c1).trans rfl).symm dX0_is_41
  · skip
    refine lv_iload_n hx hb dX0_is_8 rfl (lv_at hl 1 rfl) ?_
    refine lv_bipush (v := -9) hx hb dX0_is_9 (by decide) ?_
    refine lv_icmp_eq (tgt := 22) hx hb dX0_is_11 (by decide) (fun c2 => ?_) (fun c2 => ?_)
    · skip
      refine lv_iload_n hx hb dX0_is_22 rfl (lv_at hl 2 rfl) ?_
      refine lv_bipush (v := -9) hx hb dX0_is_23 (by decide) ?_
      refine lv_icmp_eq (tgt := 36) hx hb dX0_is_25 (by decide) (fun c3 => ?_) (fun c3 => ?_)
      · skip
        refine lv_iconst (v := 1) hx hb dX0_is_36 (by decide) ?_
        refine lv_goto (tgt := 41) hx hb dX0_is_37 (by decide) ?_
        exact e_int S hr hlk rfl hK hS hP (show v_X0_is b j p1 p2 = (1 : Int32) from (if_neg c1).trans ((if_pos c2).trans ((if_pos c3).trans rfl))).symm dX0_is_41
      · skip
        refine lv_iload_n hx hb dX0_is_28 rfl (lv_at hl 2 rfl) ?_
        refine lv_aload_n hx hb dX0_is_29 rfl (lv_at hl 0 rfl) ?_
        refine g_get S hK hP (i := j + 7) (by omega) bC7 rfl inlX0 0 (by decide) k_46 (v := .int (b (j + 7) 0)) rfl dX0_is_30 ?_
        refine lv_icmp_ne (tgt := 40) hx hb dX0_is_33 (by decide) (fun c4 => ?_) (fun c4 => ?_)
        · skip
          refine lv_iconst (v := 0) hx hb dX0_is_40 (by decide) ?_
          exact e_int S hr hlk rfl hK hS hP (show v_X0_is b j p1 p2 = (0 : Int32) from (if_neg c1).trans ((if_pos c2).trans ((if_neg c3).trans ((if_neg c4).trans rfl)))).symm dX0_is_41
        · skip
          refine lv_iconst (v := 1) hx hb dX0_is_36 (by decide) ?_
          refine lv_goto (tgt := 41) hx hb dX0_is_37 (by decide) ?_
          exact e_int S hr hlk rfl hK hS hP (show v_X0_is b j p1 p2 = (1 : Int32) from (if_neg c1).trans ((if_pos c2).trans ((if_neg c3).trans ((if_pos c4).trans rfl)))).symm dX0_is_41
    · skip
      refine lv_iload_n hx hb dX0_is_14 rfl (lv_at hl 1 rfl) ?_
      refine lv_aload_n hx hb dX0_is_15 rfl (lv_at hl 0 rfl) ?_
      refine g_get S hK hP (i := j + 7) (by omega) bC7 rfl inlX0 1 (by decide) k_82 (v := .int (b (j + 7) 1)) rfl dX0_is_16 ?_
      refine lv_icmp_ne (tgt := 40) hx hb dX0_is_19 (by decide) (fun c5 => ?_) (fun c5 => ?_)
      · skip
        refine lv_iconst (v := 0) hx hb dX0_is_40 (by decide) ?_
        exact e_int S hr hlk rfl hK hS hP (show v_X0_is b j p1 p2 = (0 : Int32) from (if_neg c1).trans ((if_neg c2).trans ((if_neg c5).trans rfl))).symm dX0_is_41
      · skip
        refine lv_iload_n hx hb dX0_is_22 rfl (lv_at hl 2 rfl) ?_
        refine lv_bipush (v := -9) hx hb dX0_is_23 (by decide) ?_
        refine lv_icmp_eq (tgt := 36) hx hb dX0_is_25 (by decide) (fun c6 => ?_) (fun c6 => ?_)
        · skip
          refine lv_iconst (v := 1) hx hb dX0_is_36 (by decide) ?_
          refine lv_goto (tgt := 41) hx hb dX0_is_37 (by decide) ?_
          exact e_int S hr hlk rfl hK hS hP (show v_X0_is b j p1 p2 = (1 : Int32) from (if_neg c1).trans ((if_neg c2).trans ((if_pos c5).trans ((if_pos c6).trans rfl)))).symm dX0_is_41
        · skip
          refine lv_iload_n hx hb dX0_is_28 rfl (lv_at hl 2 rfl) ?_
          refine lv_aload_n hx hb dX0_is_29 rfl (lv_at hl 0 rfl) ?_
          refine g_get S hK hP (i := j + 7) (by omega) bC7 rfl inlX0 0 (by decide) k_46 (v := .int (b (j + 7) 0)) rfl dX0_is_30 ?_
          refine lv_icmp_ne (tgt := 40) hx hb dX0_is_33 (by decide) (fun c7 => ?_) (fun c7 => ?_)
          · skip
            refine lv_iconst (v := 0) hx hb dX0_is_40 (by decide) ?_
            exact e_int S hr hlk rfl hK hS hP (show v_X0_is b j p1 p2 = (0 : Int32) from (if_neg c1).trans ((if_neg c2).trans ((if_pos c5).trans ((if_neg c6).trans ((if_neg c7).trans rfl))))).symm dX0_is_41
          · skip
            refine lv_iconst (v := 1) hx hb dX0_is_36 (by decide) ?_
            refine lv_goto (tgt := 41) hx hb dX0_is_37 (by decide) ?_
            exact e_int S hr hlk rfl hK hS hP (show v_X0_is b j p1 p2 = (1 : Int32) from (if_neg c1).trans ((if_neg c2).trans ((if_pos c5).trans ((if_neg c6).trans ((if_pos c7).trans rfl))))).symm dX0_is_41

def v_X0_owed (b : Nat → Nat → Int32) (j : Nat) : Int32 := (((b (j + 7) 5) + (b (j + 7) 10)) - (b (j + 7) 8)) - (b (j + 7) 9)
theorem q_X0_owed : yX0_owed.cls ≠ "java/lang/invoke/MethodHandle" ∧ yX0_owed.cls ≠ "java/lang/invoke/VarHandle" ∧ (parseMethodDescriptor yX0_owed.desc).map (fun d => d.parameters.length) = some 0 := ⟨by decide, by decide, by decide +kernel⟩
set_option maxHeartbeats 4000000 in
set_option maxRecDepth 100000 in
theorem c_X0_owed (l : Launch) (G : kG) (a : Nat → Nat) (hI : gI 47 a) (b : Nat → Nat → Int32) (j : Nat) (hj : j < 40) : Met l yX0_owed (Cond.code yX0_owed cX0_owed 1 (some .int) :: BIG) (rmK 0) (pcG G (bP G a b) [.ref (a (j + 7))]) (qcI G (gA 47 a) (bP G a b) (v_X0_owed b j)) 0 0 (gA 47 a) := by
  refine m_start (by decide) (Nat.le_of_ble_eq_true rfl) ?_
  intro p e s m args below meth c S hr hlk hnm hP hK ls hl
  have hx := S.1
  have hb := S.2.1
  have hown := S.2.2.2.1
  have hS : va_S (gA 47 a) s.heap s.heap [] := va_S.rf
  have hl : lv_has ls 1 [(0, .ref (a (j + 7)))] := hl
  refine lv_aload_n hx hb dX0_owed_0 rfl (lv_at hl 0 rfl) ?_
  refine g_get S hK hP (i := j + 7) (by omega) bC7 rfl inlX0 5 (by decide) k_102 (v := .int (b (j + 7) 5)) rfl dX0_owed_1 ?_
  refine lv_aload_n hx hb dX0_owed_4 rfl (lv_at hl 0 rfl) ?_
  refine g_get S hK hP (i := j + 7) (by omega) bC7 rfl inlX0 10 (by decide) k_103 (v := .int (b (j + 7) 10)) rfl dX0_owed_5 ?_
  refine lv_iadd hx hb dX0_owed_8 ?_
  refine lv_aload_n hx hb dX0_owed_9 rfl (lv_at hl 0 rfl) ?_
  refine g_get S hK hP (i := j + 7) (by omega) bC7 rfl inlX0 8 (by decide) k_104 (v := .int (b (j + 7) 8)) rfl dX0_owed_10 ?_
  refine lv_isub hx hb dX0_owed_13 ?_
  refine lv_aload_n hx hb dX0_owed_14 rfl (lv_at hl 0 rfl) ?_
  refine g_get S hK hP (i := j + 7) (by omega) bC7 rfl inlX0 9 (by decide) k_105 (v := .int (b (j + 7) 9)) rfl dX0_owed_15 ?_
  refine lv_isub hx hb dX0_owed_18 ?_
  exact e_int S hr hlk rfl hK hS hP (show v_X0_owed b j = (((b (j + 7) 5) + (b (j + 7) 10)) - (b (j + 7) 8)) - (b (j + 7) 9) from rfl).symm dX0_owed_19

def v_X0_dueDay (b : Nat → Nat → Int32) (j : Nat) : Int32 := (b (j + 7) 6) + (b (j + 7) 7)
theorem q_X0_dueDay : yX0_dueDay.cls ≠ "java/lang/invoke/MethodHandle" ∧ yX0_dueDay.cls ≠ "java/lang/invoke/VarHandle" ∧ (parseMethodDescriptor yX0_dueDay.desc).map (fun d => d.parameters.length) = some 0 := ⟨by decide, by decide, by decide +kernel⟩
set_option maxHeartbeats 4000000 in
set_option maxRecDepth 100000 in
theorem c_X0_dueDay (l : Launch) (G : kG) (a : Nat → Nat) (hI : gI 47 a) (b : Nat → Nat → Int32) (j : Nat) (hj : j < 40) : Met l yX0_dueDay (Cond.code yX0_dueDay cX0_dueDay 1 (some .int) :: BIG) (rmK 0) (pcG G (bP G a b) [.ref (a (j + 7))]) (qcI G (gA 47 a) (bP G a b) (v_X0_dueDay b j)) 0 0 (gA 47 a) := by
  refine m_start (by decide) (Nat.le_of_ble_eq_true rfl) ?_
  intro p e s m args below meth c S hr hlk hnm hP hK ls hl
  have hx := S.1
  have hb := S.2.1
  have hown := S.2.2.2.1
  have hS : va_S (gA 47 a) s.heap s.heap [] := va_S.rf
  have hl : lv_has ls 1 [(0, .ref (a (j + 7)))] := hl
  refine lv_aload_n hx hb dX0_dueDay_0 rfl (lv_at hl 0 rfl) ?_
  refine g_get S hK hP (i := j + 7) (by omega) bC7 rfl inlX0 6 (by decide) k_92 (v := .int (b (j + 7) 6)) rfl dX0_dueDay_1 ?_
  refine lv_aload_n hx hb dX0_dueDay_4 rfl (lv_at hl 0 rfl) ?_
  refine g_get S hK hP (i := j + 7) (by omega) bC7 rfl inlX0 7 (by decide) k_93 (v := .int (b (j + 7) 7)) rfl dX0_dueDay_5 ?_
  refine lv_iadd hx hb dX0_dueDay_8 ?_
  exact e_int S hr hlk rfl hK hS hP (show v_X0_dueDay b j = (b (j + 7) 6) + (b (j + 7) 7) from rfl).symm dX0_dueDay_9

def v_X0_isOverdue (b : Nat → Nat → Int32) (j : Nat) (p1 : Int32) : Int32 := if b (j + 7) 0 = 0 then (if p1 - (b (j + 7) 6) ≤ b (j + 7) 7 then (0 : Int32) else (1 : Int32)) else (0 : Int32)
theorem q_X0_isOverdue : yX0_isOverdue.cls ≠ "java/lang/invoke/MethodHandle" ∧ yX0_isOverdue.cls ≠ "java/lang/invoke/VarHandle" ∧ (parseMethodDescriptor yX0_isOverdue.desc).map (fun d => d.parameters.length) = some 1 := ⟨by decide, by decide, by decide +kernel⟩
theorem z_X0_isOverdue (b : Nat → Nat → Int32) (j : Nat) (p1 : Int32) : narrow .boolean (.int (v_X0_isOverdue b j p1)) = .int (v_X0_isOverdue b j p1) := by
  unfold v_X0_isOverdue
  exact z_ite (z_ite z_0 z_1) z_0
set_option maxHeartbeats 4000000 in
set_option maxRecDepth 100000 in
theorem c_X0_isOverdue (l : Launch) (G : kG) (a : Nat → Nat) (hI : gI 47 a) (b : Nat → Nat → Int32) (j : Nat) (hj : j < 40) (p1 : Int32) : Met l yX0_isOverdue (Cond.code yX0_isOverdue cX0_isOverdue 2 (some .boolean) :: BIG) (rmK 0) (pcG G (bP G a b) [.ref (a (j + 7)), .int p1]) (qcI G (gA 47 a) (bP G a b) (v_X0_isOverdue b j p1)) 0 0 (gA 47 a) := by
  refine m_start (by decide) (Nat.le_of_ble_eq_true rfl) ?_
  intro p e s m args below meth c S hr hlk hnm hP hK ls hl
  have hx := S.1
  have hb := S.2.1
  have hown := S.2.2.2.1
  have hS : va_S (gA 47 a) s.heap s.heap [] := va_S.rf
  have hl : lv_has ls 2 [(0, .ref (a (j + 7))), (1, .int p1)] := hl
  refine lv_aload_n hx hb dX0_isOverdue_0 rfl (lv_at hl 0 rfl) ?_
  refine g_get S hK hP (i := j + 7) (by omega) bC7 rfl inlX0 0 (by decide) k_46 (v := .int (b (j + 7) 0)) rfl dX0_isOverdue_1 ?_
  refine lv_if_ne (tgt := 24) hx hb dX0_isOverdue_4 (by decide) (fun c1 => ?_) (fun c1 => ?_)
  · skip
    refine lv_iconst (v := 0) hx hb dX0_isOverdue_24 (by decide) ?_
    exact e_int S hr hlk rfl hK hS hP (show v_X0_isOverdue b j p1 = (0 : Int32) from (if_neg c1).trans rfl).symm dX0_isOverdue_25
  · skip
    refine lv_iload_n hx hb dX0_isOverdue_7 rfl (lv_at hl 1 rfl) ?_
    refine lv_aload_n hx hb dX0_isOverdue_8 rfl (lv_at hl 0 rfl) ?_
    refine g_get S hK hP (i := j + 7) (by omega) bC7 rfl inlX0 6 (by decide) k_92 (v := .int (b (j + 7) 6)) rfl dX0_isOverdue_9 ?_
    refine lv_isub hx hb dX0_isOverdue_12 ?_
    refine lv_aload_n hx hb dX0_isOverdue_13 rfl (lv_at hl 0 rfl) ?_
    refine g_get S hK hP (i := j + 7) (by omega) bC7 rfl inlX0 7 (by decide) k_93 (v := .int (b (j + 7) 7)) rfl dX0_isOverdue_14 ?_
    refine lv_icmp_le (tgt := 24) hx hb dX0_isOverdue_17 (by decide) (fun c2 => ?_) (fun c2 => ?_)
    · skip
      refine lv_iconst (v := 0) hx hb dX0_isOverdue_24 (by decide) ?_
      exact e_int S hr hlk rfl hK hS hP (show v_X0_isOverdue b j p1 = (0 : Int32) from (if_pos c1).trans ((if_pos c2).trans rfl)).symm dX0_isOverdue_25
    · skip
      refine lv_iconst (v := 1) hx hb dX0_isOverdue_20 (by decide) ?_
      refine lv_goto (tgt := 25) hx hb dX0_isOverdue_21 (by decide) ?_
      exact e_int S hr hlk rfl hK hS hP (show v_X0_isOverdue b j p1 = (1 : Int32) from (if_pos c1).trans ((if_neg c2).trans rfl)).symm dX0_isOverdue_25

def v_X0_reminderDay (b : Nat → Nat → Int32) (j : Nat) (p1 : Int32) : Int32 := if b (j + 7) 11 = 0 then ((v_X0_dueDay b j) + p1) else (b (j + 7) 12) + p1
theorem q_X0_reminderDay : yX0_reminderDay.cls ≠ "java/lang/invoke/MethodHandle" ∧ yX0_reminderDay.cls ≠ "java/lang/invoke/VarHandle" ∧ (parseMethodDescriptor yX0_reminderDay.desc).map (fun d => d.parameters.length) = some 1 := ⟨by decide, by decide, by decide +kernel⟩
set_option maxHeartbeats 4000000 in
set_option maxRecDepth 100000 in
theorem c_X0_reminderDay (l : Launch) (G : kG) (a : Nat → Nat) (hI : gI 47 a) (b : Nat → Nat → Int32) (j : Nat) (hj : j < 40) (p1 : Int32) : Met l yX0_reminderDay (Cond.code yX0_reminderDay cX0_reminderDay 2 (some .int) :: BIG) (rmK 1) (pcG G (bP G a b) [.ref (a (j + 7)), .int p1]) (qcI G (gA 47 a) (bP G a b) (v_X0_reminderDay b j p1)) 0 0 (gA 47 a) := by
  refine m_start (by decide) (Nat.le_of_ble_eq_true rfl) ?_
  intro p e s m args below meth c S hr hlk hnm hP hK ls hl
  have hx := S.1
  have hb := S.2.1
  have hown := S.2.2.2.1
  have hS : va_S (gA 47 a) s.heap s.heap [] := va_S.rf
  have hl : lv_has ls 2 [(0, .ref (a (j + 7))), (1, .int p1)] := hl
  refine lv_aload_n hx hb dX0_reminderDay_0 rfl (lv_at hl 0 rfl) ?_
  refine g_get S hK hP (i := j + 7) (by omega) bC7 rfl inlX0 11 (by decide) k_187 (v := .int (b (j + 7) 11)) rfl dX0_reminderDay_1 ?_
  refine lv_if_ne (tgt := 14) hx hb dX0_reminderDay_4 (by decide) (fun c1 => ?_) (fun c1 => ?_)
  · skip
    refine lv_aload_n hx hb dX0_reminderDay_14 rfl (lv_at hl 0 rfl) ?_
    refine g_get S hK hP (i := j + 7) (by omega) bC7 rfl inlX0 12 (by decide) k_193 (v := .int (b (j + 7) 12)) rfl dX0_reminderDay_15 ?_
    refine lv_iload_n hx hb dX0_reminderDay_18 rfl (lv_at hl 1 rfl) ?_
    refine lv_iadd hx hb dX0_reminderDay_19 ?_
    exact e_int S hr hlk rfl hK hS hP (show v_X0_reminderDay b j p1 = (b (j + 7) 12) + p1 from (if_neg c1).trans rfl).symm dX0_reminderDay_20
  · skip
    refine lv_aload_n hx hb dX0_reminderDay_7 rfl (lv_at hl 0 rfl) ?_
    refine r_callI S hK hP (c_X0_dueDay l G a hI b j (by omega) ) (r_cw S k_173 k_194 k_171 k_172 k_38 q_X0_dueDay ⟨Nat.le_of_ble_eq_true rfl, Nat.le_of_ble_eq_true rfl⟩ rfl rfl) (g_recv hK hP (i := j + 7) (by omega) bC7 rfl) rfl hl.1 rfl (Nat.le_of_ble_eq_true rfl) dX0_reminderDay_8 ⟨Nat.zero_le _, Nat.zero_le _⟩ hS (fun _ h => h) (fun H locs hP _ _ hS => ?_)
    have hP : bP G a b H := hP
    refine lv_goto (tgt := 18) hx hb dX0_reminderDay_11 (by decide) ?_
    refine lv_iload_n hx hb dX0_reminderDay_18 rfl (lv_at hl 1 rfl) ?_
    refine lv_iadd hx hb dX0_reminderDay_19 ?_
    exact e_int S hr hlk rfl hK hS hP (show v_X0_reminderDay b j p1 = (v_X0_dueDay b j) + p1 from (if_pos c1).trans rfl).symm dX0_reminderDay_20

def v_X0_whyNoReminder (b : Nat → Nat → Int32) (j : Nat) (p1 : Int32) (p2 : Int32) : Int32 := if b (j + 7) 0 = (1 : Int32) then (1 : Int32) else if b (j + 7) 0 = (2 : Int32) then (2 : Int32) else if v_X0_isOverdue b j p1 = 0 then (3 : Int32) else if b (j + 7) 11 < (3 : Int32) then (if v_X0_reminderDay b j p2 ≤ p1 then (0 : Int32) else (5 : Int32)) else (4 : Int32)
theorem q_X0_whyNoReminder : yX0_whyNoReminder.cls ≠ "java/lang/invoke/MethodHandle" ∧ yX0_whyNoReminder.cls ≠ "java/lang/invoke/VarHandle" ∧ (parseMethodDescriptor yX0_whyNoReminder.desc).map (fun d => d.parameters.length) = some 2 := ⟨by decide, by decide, by decide +kernel⟩
set_option maxHeartbeats 4000000 in
set_option maxRecDepth 100000 in
theorem c_X0_whyNoReminder (l : Launch) (G : kG) (a : Nat → Nat) (hI : gI 47 a) (b : Nat → Nat → Int32) (j : Nat) (hj : j < 40) (p1 : Int32) (p2 : Int32) : Met l yX0_whyNoReminder (Cond.code yX0_whyNoReminder cX0_whyNoReminder 3 (some .int) :: BIG) (rmK 2) (pcG G (bP G a b) [.ref (a (j + 7)), .int p1, .int p2]) (qcI G (gA 47 a) (bP G a b) (v_X0_whyNoReminder b j p1 p2)) 0 0 (gA 47 a) := by
  refine m_start (by decide) (Nat.le_of_ble_eq_true rfl) ?_
  intro p e s m args below meth c S hr hlk hnm hP hK ls hl
  have hx := S.1
  have hb := S.2.1
  have hown := S.2.2.2.1
  have hS : va_S (gA 47 a) s.heap s.heap [] := va_S.rf
  have hl : lv_has ls 3 [(0, .ref (a (j + 7))), (1, .int p1), (2, .int p2)] := hl
  refine lv_aload_n hx hb dX0_whyNoReminder_0 rfl (lv_at hl 0 rfl) ?_
  refine g_get S hK hP (i := j + 7) (by omega) bC7 rfl inlX0 0 (by decide) k_46 (v := .int (b (j + 7) 0)) rfl dX0_whyNoReminder_1 ?_
  refine lv_iconst (v := 1) hx hb dX0_whyNoReminder_4 (by decide) ?_
  refine lv_icmp_ne (tgt := 10) hx hb dX0_whyNoReminder_5 (by decide) (fun c1 => ?_) (fun c1 => ?_)
  · skip
    refine lv_aload_n hx hb dX0_whyNoReminder_10 rfl (lv_at hl 0 rfl) ?_
    refine g_get S hK hP (i := j + 7) (by omega) bC7 rfl inlX0 0 (by decide) k_46 (v := .int (b (j + 7) 0)) rfl dX0_whyNoReminder_11 ?_
    refine lv_iconst (v := 2) hx hb dX0_whyNoReminder_14 (by decide) ?_
    refine lv_icmp_ne (tgt := 20) hx hb dX0_whyNoReminder_15 (by decide) (fun c2 => ?_) (fun c2 => ?_)
    · skip
      refine lv_aload_n hx hb dX0_whyNoReminder_20 rfl (lv_at hl 0 rfl) ?_
      refine lv_iload_n hx hb dX0_whyNoReminder_21 rfl (lv_at hl 1 rfl) ?_
      refine r_callI S hK hP (c_X0_isOverdue l G a hI b j (by omega) _ ) (r_cw S k_91 k_188 k_89 k_90 k_38 q_X0_isOverdue ⟨Nat.le_of_ble_eq_true rfl, Nat.le_of_ble_eq_true rfl⟩ rfl rfl) (g_recv hK hP (i := j + 7) (by omega) bC7 rfl) rfl hl.1 rfl (Nat.le_of_ble_eq_true rfl) dX0_whyNoReminder_22 ⟨Nat.zero_le _, Nat.zero_le _⟩ hS (fun _ h => h) (fun H locs hP _ _ hS => ?_)
      have hP : bP G a b H := hP
      refine lv_if_ne (tgt := 30) hx hb dX0_whyNoReminder_25 (by decide) (fun c3 => ?_) (fun c3 => ?_)
      · skip
        refine lv_aload_n hx hb dX0_whyNoReminder_30 rfl (lv_at hl 0 rfl) ?_
        refine g_get S hK hP (i := j + 7) (by omega) bC7 rfl inlX0 11 (by decide) k_187 (v := .int (b (j + 7) 11)) rfl dX0_whyNoReminder_31 ?_
        refine lv_iconst (v := 3) hx hb dX0_whyNoReminder_34 (by decide) ?_
        refine lv_icmp_lt (tgt := 40) hx hb dX0_whyNoReminder_35 (by decide) (fun c4 => ?_) (fun c4 => ?_)
        · skip
          refine lv_iload_n hx hb dX0_whyNoReminder_40 rfl (lv_at hl 1 rfl) ?_
          refine lv_aload_n hx hb dX0_whyNoReminder_41 rfl (lv_at hl 0 rfl) ?_
          refine lv_iload_n hx hb dX0_whyNoReminder_42 rfl (lv_at hl 2 rfl) ?_
          refine r_callI S hK hP (c_X0_reminderDay l G a hI b j (by omega) _ ) (r_cw S k_192 k_189 k_190 k_191 k_38 q_X0_reminderDay ⟨Nat.le_of_ble_eq_true rfl, Nat.le_of_ble_eq_true rfl⟩ rfl rfl) (g_recv hK hP (i := j + 7) (by omega) bC7 rfl) rfl hl.1 rfl (Nat.le_of_ble_eq_true rfl) dX0_whyNoReminder_43 ⟨Nat.zero_le _, Nat.zero_le _⟩ hS (fun _ h => h) (fun H locs hP _ _ hS => ?_)
          have hP : bP G a b H := hP
          refine lv_icmp_ge (tgt := 53) hx hb dX0_whyNoReminder_46 (by decide) (fun c5 => ?_) (fun c5 => ?_)
          · skip
            refine lv_iconst (v := 0) hx hb dX0_whyNoReminder_53 (by decide) ?_
            exact e_int S hr hlk rfl hK hS hP (show v_X0_whyNoReminder b j p1 p2 = (0 : Int32) from (if_neg c1).trans ((if_neg c2).trans ((if_neg c3).trans ((if_pos c4).trans ((if_pos c5).trans rfl))))).symm dX0_whyNoReminder_54
          · skip
            refine lv_iconst (v := 5) hx hb dX0_whyNoReminder_49 (by decide) ?_
            refine lv_goto (tgt := 54) hx hb dX0_whyNoReminder_50 (by decide) ?_
            exact e_int S hr hlk rfl hK hS hP (show v_X0_whyNoReminder b j p1 p2 = (5 : Int32) from (if_neg c1).trans ((if_neg c2).trans ((if_neg c3).trans ((if_pos c4).trans ((if_neg c5).trans rfl))))).symm dX0_whyNoReminder_54
        · skip
          refine lv_iconst (v := 4) hx hb dX0_whyNoReminder_38 (by decide) ?_
          exact e_int S hr hlk rfl hK hS hP (show v_X0_whyNoReminder b j p1 p2 = (4 : Int32) from (if_neg c1).trans ((if_neg c2).trans ((if_neg c3).trans ((if_neg c4).trans rfl)))).symm dX0_whyNoReminder_39
      · skip
        refine lv_iconst (v := 3) hx hb dX0_whyNoReminder_28 (by decide) ?_
        exact e_int S hr hlk rfl hK hS hP (show v_X0_whyNoReminder b j p1 p2 = (3 : Int32) from (if_neg c1).trans ((if_neg c2).trans ((if_pos c3).trans rfl))).symm dX0_whyNoReminder_29
    · skip
      refine lv_iconst (v := 2) hx hb dX0_whyNoReminder_18 (by decide) ?_
      exact e_int S hr hlk rfl hK hS hP (show v_X0_whyNoReminder b j p1 p2 = (2 : Int32) from (if_neg c1).trans ((if_pos c2).trans rfl)).symm dX0_whyNoReminder_19
  · skip
    refine lv_iconst (v := 1) hx hb dX0_whyNoReminder_8 (by decide) ?_
    exact e_int S hr hlk rfl hK hS hP (show v_X0_whyNoReminder b j p1 p2 = (1 : Int32) from (if_pos c1).trans rfl).symm dX0_whyNoReminder_9

def v_X0_awaitsReminder (b : Nat → Nat → Int32) (j : Nat) : Int32 := if b (j + 7) 0 = 0 then (if (3 : Int32) ≤ b (j + 7) 11 then (0 : Int32) else (1 : Int32)) else (0 : Int32)
theorem q_X0_awaitsReminder : yX0_awaitsReminder.cls ≠ "java/lang/invoke/MethodHandle" ∧ yX0_awaitsReminder.cls ≠ "java/lang/invoke/VarHandle" ∧ (parseMethodDescriptor yX0_awaitsReminder.desc).map (fun d => d.parameters.length) = some 0 := ⟨by decide, by decide, by decide +kernel⟩
theorem z_X0_awaitsReminder (b : Nat → Nat → Int32) (j : Nat) : narrow .boolean (.int (v_X0_awaitsReminder b j)) = .int (v_X0_awaitsReminder b j) := by
  unfold v_X0_awaitsReminder
  exact z_ite (z_ite z_0 z_1) z_0
set_option maxHeartbeats 4000000 in
set_option maxRecDepth 100000 in
theorem c_X0_awaitsReminder (l : Launch) (G : kG) (a : Nat → Nat) (hI : gI 47 a) (b : Nat → Nat → Int32) (j : Nat) (hj : j < 40) : Met l yX0_awaitsReminder (Cond.code yX0_awaitsReminder cX0_awaitsReminder 1 (some .boolean) :: BIG) (rmK 0) (pcG G (bP G a b) [.ref (a (j + 7))]) (qcI G (gA 47 a) (bP G a b) (v_X0_awaitsReminder b j)) 0 0 (gA 47 a) := by
  refine m_start (by decide) (Nat.le_of_ble_eq_true rfl) ?_
  intro p e s m args below meth c S hr hlk hnm hP hK ls hl
  have hx := S.1
  have hb := S.2.1
  have hown := S.2.2.2.1
  have hS : va_S (gA 47 a) s.heap s.heap [] := va_S.rf
  have hl : lv_has ls 1 [(0, .ref (a (j + 7)))] := hl
  refine lv_aload_n hx hb dX0_awaitsReminder_0 rfl (lv_at hl 0 rfl) ?_
  refine g_get S hK hP (i := j + 7) (by omega) bC7 rfl inlX0 0 (by decide) k_46 (v := .int (b (j + 7) 0)) rfl dX0_awaitsReminder_1 ?_
  refine lv_if_ne (tgt := 19) hx hb dX0_awaitsReminder_4 (by decide) (fun c1 => ?_) (fun c1 => ?_)
  · skip
    refine lv_iconst (v := 0) hx hb dX0_awaitsReminder_19 (by decide) ?_
    exact e_int S hr hlk rfl hK hS hP (show v_X0_awaitsReminder b j = (0 : Int32) from (if_neg c1).trans rfl).symm dX0_awaitsReminder_20
  · skip
    refine lv_aload_n hx hb dX0_awaitsReminder_7 rfl (lv_at hl 0 rfl) ?_
    refine g_get S hK hP (i := j + 7) (by omega) bC7 rfl inlX0 11 (by decide) k_187 (v := .int (b (j + 7) 11)) rfl dX0_awaitsReminder_8 ?_
    refine lv_iconst (v := 3) hx hb dX0_awaitsReminder_11 (by decide) ?_
    refine lv_icmp_ge (tgt := 19) hx hb dX0_awaitsReminder_12 (by decide) (fun c2 => ?_) (fun c2 => ?_)
    · skip
      refine lv_iconst (v := 0) hx hb dX0_awaitsReminder_19 (by decide) ?_
      exact e_int S hr hlk rfl hK hS hP (show v_X0_awaitsReminder b j = (0 : Int32) from (if_pos c1).trans ((if_pos c2).trans rfl)).symm dX0_awaitsReminder_20
    · skip
      refine lv_iconst (v := 1) hx hb dX0_awaitsReminder_15 (by decide) ?_
      refine lv_goto (tgt := 20) hx hb dX0_awaitsReminder_16 (by decide) ?_
      exact e_int S hr hlk rfl hK hS hP (show v_X0_awaitsReminder b j = (1 : Int32) from (if_pos c1).trans ((if_neg c2).trans rfl)).symm dX0_awaitsReminder_20

def v_X0_canBeWrittenOff (b : Nat → Nat → Int32) (j : Nat) (p1 : Int32) (p2 : Int32) : Int32 := if b (j + 7) 0 = 0 then (if b (j + 7) 11 < (3 : Int32) then (0 : Int32) else if p1 - (b (j + 7) 12) < p2 then (0 : Int32) else (1 : Int32)) else (0 : Int32)
theorem q_X0_canBeWrittenOff : yX0_canBeWrittenOff.cls ≠ "java/lang/invoke/MethodHandle" ∧ yX0_canBeWrittenOff.cls ≠ "java/lang/invoke/VarHandle" ∧ (parseMethodDescriptor yX0_canBeWrittenOff.desc).map (fun d => d.parameters.length) = some 2 := ⟨by decide, by decide, by decide +kernel⟩
theorem z_X0_canBeWrittenOff (b : Nat → Nat → Int32) (j : Nat) (p1 : Int32) (p2 : Int32) : narrow .boolean (.int (v_X0_canBeWrittenOff b j p1 p2)) = .int (v_X0_canBeWrittenOff b j p1 p2) := by
  unfold v_X0_canBeWrittenOff
  exact z_ite (z_ite z_0 (z_ite z_0 z_1)) z_0
set_option maxHeartbeats 4000000 in
set_option maxRecDepth 100000 in
theorem c_X0_canBeWrittenOff (l : Launch) (G : kG) (a : Nat → Nat) (hI : gI 47 a) (b : Nat → Nat → Int32) (j : Nat) (hj : j < 40) (p1 : Int32) (p2 : Int32) : Met l yX0_canBeWrittenOff (Cond.code yX0_canBeWrittenOff cX0_canBeWrittenOff 3 (some .boolean) :: BIG) (rmK 0) (pcG G (bP G a b) [.ref (a (j + 7)), .int p1, .int p2]) (qcI G (gA 47 a) (bP G a b) (v_X0_canBeWrittenOff b j p1 p2)) 0 0 (gA 47 a) := by
  refine m_start (by decide) (Nat.le_of_ble_eq_true rfl) ?_
  intro p e s m args below meth c S hr hlk hnm hP hK ls hl
  have hx := S.1
  have hb := S.2.1
  have hown := S.2.2.2.1
  have hS : va_S (gA 47 a) s.heap s.heap [] := va_S.rf
  have hl : lv_has ls 3 [(0, .ref (a (j + 7))), (1, .int p1), (2, .int p2)] := hl
  refine lv_aload_n hx hb dX0_canBeWrittenOff_0 rfl (lv_at hl 0 rfl) ?_
  refine g_get S hK hP (i := j + 7) (by omega) bC7 rfl inlX0 0 (by decide) k_46 (v := .int (b (j + 7) 0)) rfl dX0_canBeWrittenOff_1 ?_
  refine lv_if_ne (tgt := 29) hx hb dX0_canBeWrittenOff_4 (by decide) (fun c1 => ?_) (fun c1 => ?_)
  · skip
    refine lv_iconst (v := 0) hx hb dX0_canBeWrittenOff_29 (by decide) ?_
    exact e_int S hr hlk rfl hK hS hP (show v_X0_canBeWrittenOff b j p1 p2 = (0 : Int32) from (if_neg c1).trans rfl).symm dX0_canBeWrittenOff_30
  · skip
    refine lv_aload_n hx hb dX0_canBeWrittenOff_7 rfl (lv_at hl 0 rfl) ?_
    refine g_get S hK hP (i := j + 7) (by omega) bC7 rfl inlX0 11 (by decide) k_187 (v := .int (b (j + 7) 11)) rfl dX0_canBeWrittenOff_8 ?_
    refine lv_iconst (v := 3) hx hb dX0_canBeWrittenOff_11 (by decide) ?_
    refine lv_icmp_lt (tgt := 29) hx hb dX0_canBeWrittenOff_12 (by decide) (fun c2 => ?_) (fun c2 => ?_)
    · skip
      refine lv_iconst (v := 0) hx hb dX0_canBeWrittenOff_29 (by decide) ?_
      exact e_int S hr hlk rfl hK hS hP (show v_X0_canBeWrittenOff b j p1 p2 = (0 : Int32) from (if_pos c1).trans ((if_pos c2).trans rfl)).symm dX0_canBeWrittenOff_30
    · skip
      refine lv_iload_n hx hb dX0_canBeWrittenOff_15 rfl (lv_at hl 1 rfl) ?_
      refine lv_aload_n hx hb dX0_canBeWrittenOff_16 rfl (lv_at hl 0 rfl) ?_
      refine g_get S hK hP (i := j + 7) (by omega) bC7 rfl inlX0 12 (by decide) k_193 (v := .int (b (j + 7) 12)) rfl dX0_canBeWrittenOff_17 ?_
      refine lv_isub hx hb dX0_canBeWrittenOff_20 ?_
      refine lv_iload_n hx hb dX0_canBeWrittenOff_21 rfl (lv_at hl 2 rfl) ?_
      refine lv_icmp_lt (tgt := 29) hx hb dX0_canBeWrittenOff_22 (by decide) (fun c3 => ?_) (fun c3 => ?_)
      · skip
        refine lv_iconst (v := 0) hx hb dX0_canBeWrittenOff_29 (by decide) ?_
        exact e_int S hr hlk rfl hK hS hP (show v_X0_canBeWrittenOff b j p1 p2 = (0 : Int32) from (if_pos c1).trans ((if_neg c2).trans ((if_pos c3).trans rfl))).symm dX0_canBeWrittenOff_30
      · skip
        refine lv_iconst (v := 1) hx hb dX0_canBeWrittenOff_25 (by decide) ?_
        refine lv_goto (tgt := 30) hx hb dX0_canBeWrittenOff_26 (by decide) ?_
        exact e_int S hr hlk rfl hK hS hP (show v_X0_canBeWrittenOff b j p1 p2 = (1 : Int32) from (if_pos c1).trans ((if_neg c2).trans ((if_neg c3).trans rfl))).symm dX0_canBeWrittenOff_30

def w_X0_addReminder (b : Nat → Nat → Int32) (j : Nat) (p1 : Int32) (p2 : Int32) : Nat → Nat → Int32 := up (up (up b (j + 7) 10 ((b (j + 7) 10) + ((b (j + 7) 11) * p2))) (j + 7) 11 ((b (j + 7) 11) + (1 : Int32))) (j + 7) 12 p1
theorem q_X0_addReminder : yX0_addReminder.cls ≠ "java/lang/invoke/MethodHandle" ∧ yX0_addReminder.cls ≠ "java/lang/invoke/VarHandle" ∧ (parseMethodDescriptor yX0_addReminder.desc).map (fun d => d.parameters.length) = some 2 := ⟨by decide, by decide, by decide +kernel⟩
set_option maxHeartbeats 4000000 in
set_option maxRecDepth 100000 in
theorem c_X0_addReminder (l : Launch) (G : kG) (a : Nat → Nat) (hI : gI 47 a) (b : Nat → Nat → Int32) (j : Nat) (hj : j < 40) (p1 : Int32) (p2 : Int32) : Met l yX0_addReminder (Cond.code yX0_addReminder cX0_addReminder 3 none :: BIG) (rmK 0) (pcG G (bP G a b) [.ref (a (j + 7)), .int p1, .int p2]) (qcV G (gA 47 a) (bP G a (w_X0_addReminder b j p1 p2))) 0 0 (gA 47 a) := by
  refine m_start (by decide) (Nat.le_of_ble_eq_true rfl) ?_
  intro p e s m args below meth c S hr hlk hnm hP hK ls hl
  have hx := S.1
  have hb := S.2.1
  have hown := S.2.2.2.1
  have hS : va_S (gA 47 a) s.heap s.heap [] := va_S.rf
  have hl : lv_has ls 3 [(0, .ref (a (j + 7))), (1, .int p1), (2, .int p2)] := hl
  refine lv_aload_n hx hb dX0_addReminder_0 rfl (lv_at hl 0 rfl) ?_
  refine lv_dup hx hb dX0_addReminder_1 rfl ?_
  refine g_get S hK hP (i := j + 7) (by omega) bC7 rfl inlX0 10 (by decide) k_103 (v := .int (b (j + 7) 10)) rfl dX0_addReminder_2 ?_
  refine lv_aload_n hx hb dX0_addReminder_5 rfl (lv_at hl 0 rfl) ?_
  refine g_get S hK hP (i := j + 7) (by omega) bC7 rfl inlX0 11 (by decide) k_187 (v := .int (b (j + 7) 11)) rfl dX0_addReminder_6 ?_
  refine lv_iload_n hx hb dX0_addReminder_9 rfl (lv_at hl 2 rfl) ?_
  refine lv_imul hx hb dX0_addReminder_10 ?_
  refine lv_iadd hx hb dX0_addReminder_11 ?_
  refine g_put S hK hP hI hS (i := j + 7) (by omega) bC7 rfl inlX0 tyX0 tyX0_ok nmX0 iF_n 10 (by decide) k_103 rfl pI rfl rfl (fun _ => rfl) dX0_addReminder_12 (fun H locs hP hS => ?_)
  have hP : bP G a (up b (j + 7) 10 ((b (j + 7) 10) + ((b (j + 7) 11) * p2))) H := hP
  refine lv_aload_n hx hb dX0_addReminder_15 rfl (lv_at hl 0 rfl) ?_
  refine lv_dup hx hb dX0_addReminder_16 rfl ?_
  refine g_get S hK hP (i := j + 7) (by omega) bC7 rfl inlX0 11 (by decide) k_187 (v := .int (b (j + 7) 11)) (congrArg Value.int ((up_nk (by omega)).trans rfl)) dX0_addReminder_17 ?_
  refine lv_iconst (v := 1) hx hb dX0_addReminder_20 (by decide) ?_
  refine lv_iadd hx hb dX0_addReminder_21 ?_
  refine g_put S hK hP hI hS (i := j + 7) (by omega) bC7 rfl inlX0 tyX0 tyX0_ok nmX0 iF_n 11 (by decide) k_187 rfl pI rfl rfl (fun _ => rfl) dX0_addReminder_22 (fun H locs hP hS => ?_)
  have hP : bP G a (up (up b (j + 7) 10 ((b (j + 7) 10) + ((b (j + 7) 11) * p2))) (j + 7) 11 ((b (j + 7) 11) + (1 : Int32))) H := hP
  refine lv_aload_n hx hb dX0_addReminder_25 rfl (lv_at hl 0 rfl) ?_
  refine lv_iload_n hx hb dX0_addReminder_26 rfl (lv_at hl 1 rfl) ?_
  refine g_put S hK hP hI hS (i := j + 7) (by omega) bC7 rfl inlX0 tyX0 tyX0_ok nmX0 iF_n 12 (by decide) k_193 rfl pI rfl rfl (fun _ => rfl) dX0_addReminder_27 (fun H locs hP hS => ?_)
  have hP : bP G a (up (up (up b (j + 7) 10 ((b (j + 7) 10) + ((b (j + 7) 11) * p2))) (j + 7) 11 ((b (j + 7) 11) + (1 : Int32))) (j + 7) 12 p1) H := hP
  exact e_void S hr hlk hK hS (gP_eq (show w_X0_addReminder b j p1 p2 = up (up (up b (j + 7) 10 ((b (j + 7) 10) + ((b (j + 7) 11) * p2))) (j + 7) 11 ((b (j + 7) 11) + (1 : Int32))) (j + 7) 12 p1 from rfl) hP) dX0_addReminder_30

def w_X0_takeMoney (b : Nat → Nat → Int32) (j : Nat) (p1 : Int32) (p2 : Int32) (p3 : Int32) : Nat → Nat → Int32 := if 0 < v_X0_owed (up (up (up b (j + 7) 8 ((b (j + 7) 8) + p1)) (j + 7) 9 ((b (j + 7) 9) + p2)) (j + 7) 13 p3) j then (up (up (up b (j + 7) 8 ((b (j + 7) 8) + p1)) (j + 7) 9 ((b (j + 7) 9) + p2)) (j + 7) 13 p3) else up (up (up (up b (j + 7) 8 ((b (j + 7) 8) + p1)) (j + 7) 9 ((b (j + 7) 9) + p2)) (j + 7) 13 p3) (j + 7) 0 (1 : Int32)
theorem q_X0_takeMoney : yX0_takeMoney.cls ≠ "java/lang/invoke/MethodHandle" ∧ yX0_takeMoney.cls ≠ "java/lang/invoke/VarHandle" ∧ (parseMethodDescriptor yX0_takeMoney.desc).map (fun d => d.parameters.length) = some 3 := ⟨by decide, by decide, by decide +kernel⟩
set_option maxHeartbeats 4000000 in
set_option maxRecDepth 100000 in
theorem c_X0_takeMoney (l : Launch) (G : kG) (a : Nat → Nat) (hI : gI 47 a) (b : Nat → Nat → Int32) (j : Nat) (hj : j < 40) (p1 : Int32) (p2 : Int32) (p3 : Int32) : Met l yX0_takeMoney (Cond.code yX0_takeMoney cX0_takeMoney 4 none :: BIG) (rmK 1) (pcG G (bP G a b) [.ref (a (j + 7)), .int p1, .int p2, .int p3]) (qcV G (gA 47 a) (bP G a (w_X0_takeMoney b j p1 p2 p3))) 0 0 (gA 47 a) := by
  refine m_start (by decide) (Nat.le_of_ble_eq_true rfl) ?_
  intro p e s m args below meth c S hr hlk hnm hP hK ls hl
  have hx := S.1
  have hb := S.2.1
  have hown := S.2.2.2.1
  have hS : va_S (gA 47 a) s.heap s.heap [] := va_S.rf
  have hl : lv_has ls 4 [(0, .ref (a (j + 7))), (1, .int p1), (2, .int p2), (3, .int p3)] := hl
  refine lv_aload_n hx hb dX0_takeMoney_0 rfl (lv_at hl 0 rfl) ?_
  refine lv_dup hx hb dX0_takeMoney_1 rfl ?_
  refine g_get S hK hP (i := j + 7) (by omega) bC7 rfl inlX0 8 (by decide) k_104 (v := .int (b (j + 7) 8)) rfl dX0_takeMoney_2 ?_
  refine lv_iload_n hx hb dX0_takeMoney_5 rfl (lv_at hl 1 rfl) ?_
  refine lv_iadd hx hb dX0_takeMoney_6 ?_
  refine g_put S hK hP hI hS (i := j + 7) (by omega) bC7 rfl inlX0 tyX0 tyX0_ok nmX0 iF_n 8 (by decide) k_104 rfl pI rfl rfl (fun _ => rfl) dX0_takeMoney_7 (fun H locs hP hS => ?_)
  have hP : bP G a (up b (j + 7) 8 ((b (j + 7) 8) + p1)) H := hP
  refine lv_aload_n hx hb dX0_takeMoney_10 rfl (lv_at hl 0 rfl) ?_
  refine lv_dup hx hb dX0_takeMoney_11 rfl ?_
  refine g_get S hK hP (i := j + 7) (by omega) bC7 rfl inlX0 9 (by decide) k_105 (v := .int (b (j + 7) 9)) (congrArg Value.int ((up_nk (by omega)).trans rfl)) dX0_takeMoney_12 ?_
  refine lv_iload_n hx hb dX0_takeMoney_15 rfl (lv_at hl 2 rfl) ?_
  refine lv_iadd hx hb dX0_takeMoney_16 ?_
  refine g_put S hK hP hI hS (i := j + 7) (by omega) bC7 rfl inlX0 tyX0 tyX0_ok nmX0 iF_n 9 (by decide) k_105 rfl pI rfl rfl (fun _ => rfl) dX0_takeMoney_17 (fun H locs hP hS => ?_)
  have hP : bP G a (up (up b (j + 7) 8 ((b (j + 7) 8) + p1)) (j + 7) 9 ((b (j + 7) 9) + p2)) H := hP
  refine lv_aload_n hx hb dX0_takeMoney_20 rfl (lv_at hl 0 rfl) ?_
  refine lv_iload_n hx hb dX0_takeMoney_21 rfl (lv_at hl 3 rfl) ?_
  refine g_put S hK hP hI hS (i := j + 7) (by omega) bC7 rfl inlX0 tyX0 tyX0_ok nmX0 iF_n 13 (by decide) k_47 rfl pI rfl rfl (fun _ => rfl) dX0_takeMoney_22 (fun H locs hP hS => ?_)
  have hP : bP G a (up (up (up b (j + 7) 8 ((b (j + 7) 8) + p1)) (j + 7) 9 ((b (j + 7) 9) + p2)) (j + 7) 13 p3) H := hP
  refine lv_aload_n hx hb dX0_takeMoney_25 rfl (lv_at hl 0 rfl) ?_
  refine r_callI S hK hP (c_X0_owed l G a hI (up (up (up b (j + 7) 8 ((b (j + 7) 8) + p1)) (j + 7) 9 ((b (j + 7) 9) + p2)) (j + 7) 13 p3) j (by omega) ) (r_cw S k_101 k_330 k_99 k_100 k_38 q_X0_owed ⟨Nat.le_of_ble_eq_true rfl, Nat.le_of_ble_eq_true rfl⟩ rfl rfl) (g_recv hK hP (i := j + 7) (by omega) bC7 rfl) rfl hl.1 rfl (Nat.le_of_ble_eq_true rfl) dX0_takeMoney_26 ⟨Nat.zero_le _, Nat.zero_le _⟩ hS (fun _ h => h) (fun H locs hP _ _ hS => ?_)
  have hP : bP G a (up (up (up b (j + 7) 8 ((b (j + 7) 8) + p1)) (j + 7) 9 ((b (j + 7) 9) + p2)) (j + 7) 13 p3) H := hP
  refine lv_if_gt (tgt := 37) hx hb dX0_takeMoney_29 (by decide) (fun c1 => ?_) (fun c1 => ?_)
  · skip
    exact e_void S hr hlk hK hS (gP_eq (show w_X0_takeMoney b j p1 p2 p3 = up (up (up b (j + 7) 8 ((b (j + 7) 8) + p1)) (j + 7) 9 ((b (j + 7) 9) + p2)) (j + 7) 13 p3 from (if_pos c1).trans rfl) hP) dX0_takeMoney_37
  · skip
    refine lv_aload_n hx hb dX0_takeMoney_32 rfl (lv_at hl 0 rfl) ?_
    refine lv_iconst (v := 1) hx hb dX0_takeMoney_33 (by decide) ?_
    refine g_put S hK hP hI hS (i := j + 7) (by omega) bC7 rfl inlX0 tyX0 tyX0_ok nmX0 iF_n 0 (by decide) k_46 rfl pI rfl rfl (fun _ => rfl) dX0_takeMoney_34 (fun H locs hP hS => ?_)
    have hP : bP G a (up (up (up (up b (j + 7) 8 ((b (j + 7) 8) + p1)) (j + 7) 9 ((b (j + 7) 9) + p2)) (j + 7) 13 p3) (j + 7) 0 (1 : Int32)) H := hP
    exact e_void S hr hlk hK hS (gP_eq (show w_X0_takeMoney b j p1 p2 p3 = up (up (up (up b (j + 7) 8 ((b (j + 7) 8) + p1)) (j + 7) 9 ((b (j + 7) 9) + p2)) (j + 7) 13 p3) (j + 7) 0 (1 : Int32) from (if_neg c1).trans rfl) hP) dX0_takeMoney_37

def v_X0_taxIn (b : Nat → Nat → Int32) (j : Nat) (p1 : Int32) : Int32 := if (100 : Int32) + (b (j + 7) 3) ≤ 0 then (0 : Int32) else (p1 * (b (j + 7) 3)) / ((100 : Int32) + (b (j + 7) 3))
theorem q_X0_taxIn : yX0_taxIn.cls ≠ "java/lang/invoke/MethodHandle" ∧ yX0_taxIn.cls ≠ "java/lang/invoke/VarHandle" ∧ (parseMethodDescriptor yX0_taxIn.desc).map (fun d => d.parameters.length) = some 1 := ⟨by decide, by decide, by decide +kernel⟩
set_option maxHeartbeats 4000000 in
set_option maxRecDepth 100000 in
theorem c_X0_taxIn (l : Launch) (G : kG) (a : Nat → Nat) (hI : gI 47 a) (b : Nat → Nat → Int32) (j : Nat) (hj : j < 40) (p1 : Int32) : Met l yX0_taxIn (Cond.code yX0_taxIn cX0_taxIn 3 (some .int) :: BIG) (rmK 0) (pcG G (bP G a b) [.ref (a (j + 7)), .int p1]) (qcI G (gA 47 a) (bP G a b) (v_X0_taxIn b j p1)) 0 0 (gA 47 a) := by
  refine m_start (by decide) (Nat.le_of_ble_eq_true rfl) ?_
  intro p e s m args below meth c S hr hlk hnm hP hK ls hl
  have hx := S.1
  have hb := S.2.1
  have hown := S.2.2.2.1
  have hS : va_S (gA 47 a) s.heap s.heap [] := va_S.rf
  have hl : lv_has ls 3 [(0, .ref (a (j + 7))), (1, .int p1)] := hl
  refine lv_bipush (v := 100) hx hb dX0_taxIn_0 (by decide) ?_
  refine lv_aload_n hx hb dX0_taxIn_2 rfl (lv_at hl 0 rfl) ?_
  refine g_get S hK hP (i := j + 7) (by omega) bC7 rfl inlX0 3 (by decide) k_305 (v := .int (b (j + 7) 3)) rfl dX0_taxIn_3 ?_
  refine lv_iadd hx hb dX0_taxIn_6 ?_
  refine lv_istore_n (lv' := [(2, .int ((100 : Int32) + (b (j + 7) 3))), (0, .ref (a (j + 7))), (1, .int p1)]) hx hb dX0_taxIn_7 rfl hl (by decide) rfl (fun ls hl => ?_)
  refine lv_iload_n hx hb dX0_taxIn_8 rfl (lv_at hl 0 rfl) ?_
  refine lv_if_le (tgt := 23) hx hb dX0_taxIn_9 (by decide) (fun c1 => ?_) (fun c1 => ?_)
  · skip
    refine lv_iconst (v := 0) hx hb dX0_taxIn_23 (by decide) ?_
    exact e_int S hr hlk rfl hK hS hP (show v_X0_taxIn b j p1 = (0 : Int32) from (if_pos c1).trans rfl).symm dX0_taxIn_24
  · skip
    refine lv_iload_n hx hb dX0_taxIn_12 rfl (lv_at hl 2 rfl) ?_
    refine lv_aload_n hx hb dX0_taxIn_13 rfl (lv_at hl 1 rfl) ?_
    refine g_get S hK hP (i := j + 7) (by omega) bC7 rfl inlX0 3 (by decide) k_305 (v := .int (b (j + 7) 3)) rfl dX0_taxIn_14 ?_
    refine lv_imul hx hb dX0_taxIn_17 ?_
    refine lv_iload_n hx hb dX0_taxIn_18 rfl (lv_at hl 0 rfl) ?_
    refine lv_idiv hx hb dX0_taxIn_19 (vp_pos2 c1) ?_
    refine lv_goto (tgt := 24) hx hb dX0_taxIn_20 (by decide) ?_
    exact e_int S hr hlk rfl hK hS hP (show v_X0_taxIn b j p1 = (p1 * (b (j + 7) 3)) / ((100 : Int32) + (b (j + 7) 3)) from (if_neg c1).trans rfl).symm dX0_taxIn_24

def w_X0_write (b : Nat → Nat → Int32) (j : Nat) (p1 : Int32) (p2 : Int32) (p3 : Int32) (p4 : Int32) (p5 : Int32) : Nat → Nat → Int32 := up (up (up (up (up (up (up (up b (j + 7) 0 (0 : Int32)) (j + 7) 1 p1) (j + 7) 2 p2) (j + 7) 3 p3) (j + 7) 4 (((p2 * p3) + (50 : Int32)) / (100 : Int32))) (j + 7) 5 (p2 + (((p2 * p3) + (50 : Int32)) / (100 : Int32)))) (j + 7) 6 p4) (j + 7) 7 p5
theorem q_X0_write : yX0_write.cls ≠ "java/lang/invoke/MethodHandle" ∧ yX0_write.cls ≠ "java/lang/invoke/VarHandle" ∧ (parseMethodDescriptor yX0_write.desc).map (fun d => d.parameters.length) = some 5 := ⟨by decide, by decide, by decide +kernel⟩
set_option maxHeartbeats 4000000 in
set_option maxRecDepth 100000 in
theorem c_X0_write (l : Launch) (G : kG) (a : Nat → Nat) (hI : gI 47 a) (b : Nat → Nat → Int32) (j : Nat) (hj : j < 40) (p1 : Int32) (p2 : Int32) (p3 : Int32) (p4 : Int32) (p5 : Int32) : Met l yX0_write (Cond.code yX0_write cX0_write 6 none :: BIG) (rmK 0) (pcG G (bP G a b) [.ref (a (j + 7)), .int p1, .int p2, .int p3, .int p4, .int p5]) (qcV G (gA 47 a) (bP G a (w_X0_write b j p1 p2 p3 p4 p5))) 0 0 (gA 47 a) := by
  refine m_start (by decide) (Nat.le_of_ble_eq_true rfl) ?_
  intro p e s m args below meth c S hr hlk hnm hP hK ls hl
  have hx := S.1
  have hb := S.2.1
  have hown := S.2.2.2.1
  have hS : va_S (gA 47 a) s.heap s.heap [] := va_S.rf
  have hl : lv_has ls 6 [(0, .ref (a (j + 7))), (1, .int p1), (2, .int p2), (3, .int p3), (4, .int p4), (5, .int p5)] := hl
  refine lv_aload_n hx hb dX0_write_0 rfl (lv_at hl 0 rfl) ?_
  refine lv_iconst (v := 0) hx hb dX0_write_1 (by decide) ?_
  refine g_put S hK hP hI hS (i := j + 7) (by omega) bC7 rfl inlX0 tyX0 tyX0_ok nmX0 iF_n 0 (by decide) k_46 rfl pI rfl rfl (fun _ => rfl) dX0_write_2 (fun H locs hP hS => ?_)
  have hP : bP G a (up b (j + 7) 0 (0 : Int32)) H := hP
  refine lv_aload_n hx hb dX0_write_5 rfl (lv_at hl 0 rfl) ?_
  refine lv_iload_n hx hb dX0_write_6 rfl (lv_at hl 1 rfl) ?_
  refine g_put S hK hP hI hS (i := j + 7) (by omega) bC7 rfl inlX0 tyX0 tyX0_ok nmX0 iF_n 1 (by decide) k_82 rfl pI rfl rfl (fun _ => rfl) dX0_write_7 (fun H locs hP hS => ?_)
  have hP : bP G a (up (up b (j + 7) 0 (0 : Int32)) (j + 7) 1 p1) H := hP
  refine lv_aload_n hx hb dX0_write_10 rfl (lv_at hl 0 rfl) ?_
  refine lv_iload_n hx hb dX0_write_11 rfl (lv_at hl 2 rfl) ?_
  refine g_put S hK hP hI hS (i := j + 7) (by omega) bC7 rfl inlX0 tyX0 tyX0_ok nmX0 iF_n 2 (by decide) k_304 rfl pI rfl rfl (fun _ => rfl) dX0_write_12 (fun H locs hP hS => ?_)
  have hP : bP G a (up (up (up b (j + 7) 0 (0 : Int32)) (j + 7) 1 p1) (j + 7) 2 p2) H := hP
  refine lv_aload_n hx hb dX0_write_15 rfl (lv_at hl 0 rfl) ?_
  refine lv_iload_n hx hb dX0_write_16 rfl (lv_at hl 3 rfl) ?_
  refine g_put S hK hP hI hS (i := j + 7) (by omega) bC7 rfl inlX0 tyX0 tyX0_ok nmX0 iF_n 3 (by decide) k_305 rfl pI rfl rfl (fun _ => rfl) dX0_write_17 (fun H locs hP hS => ?_)
  have hP : bP G a (up (up (up (up b (j + 7) 0 (0 : Int32)) (j + 7) 1 p1) (j + 7) 2 p2) (j + 7) 3 p3) H := hP
  refine lv_aload_n hx hb dX0_write_20 rfl (lv_at hl 0 rfl) ?_
  refine lv_iload_n hx hb dX0_write_21 rfl (lv_at hl 2 rfl) ?_
  refine lv_iload_n hx hb dX0_write_22 rfl (lv_at hl 3 rfl) ?_
  refine lv_imul hx hb dX0_write_23 ?_
  refine lv_bipush (v := 50) hx hb dX0_write_24 (by decide) ?_
  refine lv_iadd hx hb dX0_write_26 ?_
  refine lv_bipush (v := 100) hx hb dX0_write_27 (by decide) ?_
  refine lv_idiv hx hb dX0_write_29 (by decide) ?_
  refine g_put S hK hP hI hS (i := j + 7) (by omega) bC7 rfl inlX0 tyX0 tyX0_ok nmX0 iF_n 4 (by decide) k_306 rfl pI rfl rfl (fun _ => rfl) dX0_write_30 (fun H locs hP hS => ?_)
  have hP : bP G a (up (up (up (up (up b (j + 7) 0 (0 : Int32)) (j + 7) 1 p1) (j + 7) 2 p2) (j + 7) 3 p3) (j + 7) 4 (((p2 * p3) + (50 : Int32)) / (100 : Int32))) H := hP
  refine lv_aload_n hx hb dX0_write_33 rfl (lv_at hl 0 rfl) ?_
  refine lv_iload_n hx hb dX0_write_34 rfl (lv_at hl 2 rfl) ?_
  refine lv_aload_n hx hb dX0_write_35 rfl (lv_at hl 0 rfl) ?_
  refine g_get S hK hP (i := j + 7) (by omega) bC7 rfl inlX0 4 (by decide) k_306 (v := .int (((p2 * p3) + (50 : Int32)) / (100 : Int32))) (congrArg Value.int (up_same)) dX0_write_36 ?_
  refine lv_iadd hx hb dX0_write_39 ?_
  refine g_put S hK hP hI hS (i := j + 7) (by omega) bC7 rfl inlX0 tyX0 tyX0_ok nmX0 iF_n 5 (by decide) k_102 rfl pI rfl rfl (fun _ => rfl) dX0_write_40 (fun H locs hP hS => ?_)
  have hP : bP G a (up (up (up (up (up (up b (j + 7) 0 (0 : Int32)) (j + 7) 1 p1) (j + 7) 2 p2) (j + 7) 3 p3) (j + 7) 4 (((p2 * p3) + (50 : Int32)) / (100 : Int32))) (j + 7) 5 (p2 + (((p2 * p3) + (50 : Int32)) / (100 : Int32)))) H := hP
  refine lv_aload_n hx hb dX0_write_43 rfl (lv_at hl 0 rfl) ?_
  refine lv_iload hx hb dX0_write_44 (lv_at hl 4 rfl) ?_
  refine g_put S hK hP hI hS (i := j + 7) (by omega) bC7 rfl inlX0 tyX0 tyX0_ok nmX0 iF_n 6 (by decide) k_92 rfl pI rfl rfl (fun _ => rfl) dX0_write_46 (fun H locs hP hS => ?_)
  have hP : bP G a (up (up (up (up (up (up (up b (j + 7) 0 (0 : Int32)) (j + 7) 1 p1) (j + 7) 2 p2) (j + 7) 3 p3) (j + 7) 4 (((p2 * p3) + (50 : Int32)) / (100 : Int32))) (j + 7) 5 (p2 + (((p2 * p3) + (50 : Int32)) / (100 : Int32)))) (j + 7) 6 p4) H := hP
  refine lv_aload_n hx hb dX0_write_49 rfl (lv_at hl 0 rfl) ?_
  refine lv_iload hx hb dX0_write_50 (lv_at hl 5 rfl) ?_
  refine g_put S hK hP hI hS (i := j + 7) (by omega) bC7 rfl inlX0 tyX0 tyX0_ok nmX0 iF_n 7 (by decide) k_93 rfl pI rfl rfl (fun _ => rfl) dX0_write_52 (fun H locs hP hS => ?_)
  have hP : bP G a (up (up (up (up (up (up (up (up b (j + 7) 0 (0 : Int32)) (j + 7) 1 p1) (j + 7) 2 p2) (j + 7) 3 p3) (j + 7) 4 (((p2 * p3) + (50 : Int32)) / (100 : Int32))) (j + 7) 5 (p2 + (((p2 * p3) + (50 : Int32)) / (100 : Int32)))) (j + 7) 6 p4) (j + 7) 7 p5) H := hP
  exact e_void S hr hlk hK hS (gP_eq (show w_X0_write b j p1 p2 p3 p4 p5 = up (up (up (up (up (up (up (up b (j + 7) 0 (0 : Int32)) (j + 7) 1 p1) (j + 7) 2 p2) (j + 7) 3 p3) (j + 7) 4 (((p2 * p3) + (50 : Int32)) / (100 : Int32))) (j + 7) 5 (p2 + (((p2 * p3) + (50 : Int32)) / (100 : Int32)))) (j + 7) 6 p4) (j + 7) 7 p5 from rfl) hP) dX0_write_55
